/-! CONTRACTS, printed by program: the machine does what the nice form says -/
abbrev rmX7_make : Room := { frames := 3, cells := 0, slots := 0, locals := 68 }
theorem cd_X7_make : yX7_make.cls = RX7 ∧ yX7_make.cls ≠ "java/lang/invoke/MethodHandle" ∧ yX7_make.cls ≠ "java/lang/invoke/VarHandle" ∧ (parseMethodDescriptor yX7_make.desc).map (fun d => d.parameters.length) = some 3 := by decide +kernel
set_option maxHeartbeats 4000000 in
set_option maxRecDepth 100000 in
theorem ct_Plan_make (l : Launch) (dC : Nat → ClassId) (dI : Nat → Nat → Nat) (cyB cyI cyJ cyZ : ClassId) (ag ag_sort ag_kind ag_tip ag_marks ag_brass ag_peg ag_has ah ah_kind ah_walk ah_share ah_weight ap ap_expected ap_pegFor ap_taken : Nat) (sz : Nat) (g_number : Int32) (h_pegs : Int32) (h_ticks : Int32) (h_loss : Int32) (p_sum : Int32) (g_kind : Nat → Int32) (h_kind : Nat → Int32) (h_walk : Nat → Int32) (p_expected : Nat → Int32) (p_pegFor : Nat → Int32) (p_taken : Nat → Int32) (x1 : Int32) (Q : Int → Int → (Int → Int) → (Int → Int) → Prop) : Met l yX7_make wsX7_make rmX7_make (va_Pc [.ref ap, .int x1, .ref ag, .ref ah] (cPre (dC, dI) vwCl (tyS cyB cyI cyJ cyZ) [(ag, .inr (2, [.int g_number, .ref ag_sort, .ref ag_kind, .ref ag_tip, .ref ag_marks, .ref ag_brass, .ref ag_peg, .ref ag_has])), (ag_kind, .inl (cyI, 16, .inl g_kind)), (ah, .inr (3, [.ref ah_kind, .ref ah_walk, .ref ah_share, .ref ah_weight, .int h_pegs, .int h_ticks, .int h_loss])), (ah_kind, .inl (cyI, 24, .inl h_kind)), (ah_walk, .inl (cyI, 24, .inl h_walk)), (ap, .inr (7, [.ref ap_expected, .ref ap_pegFor, .ref ap_taken, .int p_sum])), (ap_expected, .inl (cyI, 16, .inl p_expected)), (ap_pegFor, .inl (cyI, 16, .inl p_pegFor)), (ap_taken, .inl (cyZ, 24, .inl p_taken))] sz (nf_Plan_make g_number.toInt (aI 16 g_kind) h_pegs.toInt (aI 24 h_kind) (aI 24 h_walk) p_sum.toInt (aI 16 p_expected) (aI 16 p_pegFor) (aI 24 p_taken) x1.toInt Q))) (va_Qi (fun (r : Int32) (u : Int32 × (Nat → Int32) × (Nat → Int32)) => Q r.toInt (u.1).toInt (aI 16 (u.2.1)) (aI 24 (u.2.2))) (cPost (dC, dI) vwCl (fun u : Int32 × (Nat → Int32) × (Nat → Int32) => [(ag, .inr (2, [.int g_number, .ref ag_sort, .ref ag_kind, .ref ag_tip, .ref ag_marks, .ref ag_brass, .ref ag_peg, .ref ag_has])), (ag_kind, .inl (cyI, 16, .inl g_kind)), (ah, .inr (3, [.ref ah_kind, .ref ah_walk, .ref ah_share, .ref ah_weight, .int h_pegs, .int h_ticks, .int h_loss])), (ah_kind, .inl (cyI, 24, .inl h_kind)), (ah_walk, .inl (cyI, 24, .inl h_walk)), (ap, .inr (7, [.ref ap_expected, .ref ap_pegFor, .ref ap_taken, .int u.1])), (ap_expected, .inl (cyI, 16, .inl p_expected)), (ap_pegFor, .inl (cyI, 16, .inl (u.2.1))), (ap_taken, .inl (cyZ, 24, .inl (u.2.2)))]) (va_A [(ag, .inr (2, [.int g_number, .ref ag_sort, .ref ag_kind, .ref ag_tip, .ref ag_marks, .ref ag_brass, .ref ag_peg, .ref ag_has])), (ag_kind, .inl (cyI, 16, .inl g_kind)), (ah, .inr (3, [.ref ah_kind, .ref ah_walk, .ref ah_share, .ref ah_weight, .int h_pegs, .int h_ticks, .int h_loss])), (ah_kind, .inl (cyI, 24, .inl h_kind)), (ah_walk, .inl (cyI, 24, .inl h_walk)), (ap, .inr (7, [.ref ap_expected, .ref ap_pegFor, .ref ap_taken, .int p_sum])), (ap_expected, .inl (cyI, 16, .inl p_expected)), (ap_pegFor, .inl (cyI, 16, .inl p_pegFor)), (ap_taken, .inl (cyZ, 24, .inl p_taken))] sz)) (va_A [(ag, .inr (2, [.int g_number, .ref ag_sort, .ref ag_kind, .ref ag_tip, .ref ag_marks, .ref ag_brass, .ref ag_peg, .ref ag_has])), (ag_kind, .inl (cyI, 16, .inl g_kind)), (ah, .inr (3, [.ref ah_kind, .ref ah_walk, .ref ah_share, .ref ah_weight, .int h_pegs, .int h_ticks, .int h_loss])), (ah_kind, .inl (cyI, 24, .inl h_kind)), (ah_walk, .inl (cyI, 24, .inl h_walk)), (ap, .inr (7, [.ref ap_expected, .ref ap_pegFor, .ref ap_taken, .int p_sum])), (ap_expected, .inl (cyI, 16, .inl p_expected)), (ap_pegFor, .inl (cyI, 16, .inl p_pegFor)), (ap_taken, .inl (cyZ, 24, .inl p_taken))] sz)) 0 0 (va_A [(ag, .inr (2, [.int g_number, .ref ag_sort, .ref ag_kind, .ref ag_tip, .ref ag_marks, .ref ag_brass, .ref ag_peg, .ref ag_has])), (ag_kind, .inl (cyI, 16, .inl g_kind)), (ah, .inr (3, [.ref ah_kind, .ref ah_walk, .ref ah_share, .ref ah_weight, .int h_pegs, .int h_ticks, .int h_loss])), (ah_kind, .inl (cyI, 24, .inl h_kind)), (ah_walk, .inl (cyI, 24, .inl h_walk)), (ap, .inr (7, [.ref ap_expected, .ref ap_pegFor, .ref ap_taken, .int p_sum])), (ap_expected, .inl (cyI, 16, .inl p_expected)), (ap_pegFor, .inl (cyI, 16, .inl p_pegFor)), (ap_taken, .inl (cyZ, 24, .inl p_taken))] sz) := by
  refine Met.ofW (cc := cX7_make) (maxL := 7) (ret := (some .boolean)) (by decide) rfl ?_
  intro p e s m args below meth c s₁ B hml hv
  obtain ⟨rfl, hsz, hP, hK, hD0, hNw, hw⟩ := hv
  have hx := B.exec
  have hb := B.bytes
  have hr := B.returns
  have hts := atoms_spec (ws := wsX7_make) B.pre
  have hown : s.vm.findClass RX7 = some m.cls := findClass_of_methodNamed B.named
  have hlocks := B.notSynchronized
  subst hsz
  have hD := hD0.self (sz := s.heap.size)
  generalize hAe : va_A [(ag, .inr (2, [.int g_number, .ref ag_sort, .ref ag_kind, .ref ag_tip, .ref ag_marks, .ref ag_brass, .ref ag_peg, .ref ag_has])), (ag_kind, .inl (cyI, 16, .inl g_kind)), (ah, .inr (3, [.ref ah_kind, .ref ah_walk, .ref ah_share, .ref ah_weight, .int h_pegs, .int h_ticks, .int h_loss])), (ah_kind, .inl (cyI, 24, .inl h_kind)), (ah_walk, .inl (cyI, 24, .inl h_walk)), (ap, .inr (7, [.ref ap_expected, .ref ap_pegFor, .ref ap_taken, .int p_sum])), (ap_expected, .inl (cyI, 16, .inl p_expected)), (ap_pegFor, .inl (cyI, 16, .inl p_pegFor)), (ap_taken, .inl (cyZ, 24, .inl p_taken))] s.heap.size = A at hD ⊢
  have hA : ∀ q : Nat, s.heap.size ≤ q → A q := fun q h => by rw [← hAe]; exact Or.inr h
  have hS : va_S A s.heap s.heap [] := va_S.rf
  have hl := lv_entry ([.ref ap, .int x1, .ref ag, .ref ah]) (n := 7) (Nat.le_of_ble_eq_true rfl)
  rw [lg_entry_eq]
  generalize (lg_sl ([.ref ap, .int x1, .ref ag, .ref ah]) ++ List.replicate (7 - (lg_sl ([.ref ap, .int x1, .ref ag, .ref ah])).length) Slot.unset).toArray = ls at hl ⊢
  have hl : lv_has ls 7 [(0, .ref ap), (1, .int x1), (2, .ref ag), (3, .ref ah)] := hl
  refine gx_q (fun Q9 hQ => ?_)
  unfold nf_Plan_make at hw
  have hi_X7 : ∀ w ∈ wsX70, w ∈ wsX7_make := (sub_c (nq_m (n := 46) rfl) (sub_c (nq_m (n := 47) rfl) (sub_c (nq_m (n := 48) rfl) (sub_c (nq_m (n := 49) rfl) sub_n))))
  have hf22 : (Cond.fieldLink RX7 22 "CoatsHall$Plan" (TX7 3).2.1 (TX7 3).2.2.1).before ([.ref ap, .int x1, .ref ag, .ref ah] : List Value).toArray s = true := hts (.fieldLink RX7 22 "CoatsHall$Plan" "sum" "I") (nq_m (n := 1) rfl)
  have hi_X2 : ∀ w ∈ wsX20, w ∈ wsX7_make := (sub_c (nq_m (n := 50) rfl) (sub_c (nq_m (n := 51) rfl) (sub_c (nq_m (n := 52) rfl) (sub_c (nq_m (n := 53) rfl) (sub_c (nq_m (n := 54) rfl) (sub_c (nq_m (n := 55) rfl) (sub_c (nq_m (n := 56) rfl) (sub_c (nq_m (n := 57) rfl) sub_n))))))))
  have hf30 : (Cond.fieldLink RX7 30 "CoatsHall$Guests" (TX2 0).2.1 (TX2 0).2.2.1).before ([.ref ap, .int x1, .ref ag, .ref ah] : List Value).toArray s = true := hts (.fieldLink RX7 30 "CoatsHall$Guests" "number" "I") (nq_m (n := 4) rfl)
  have hf15 : (Cond.fieldLink RX7 15 "CoatsHall$Plan" (TX7 1).2.1 (TX7 1).2.2.1).before ([.ref ap, .int x1, .ref ag, .ref ah] : List Value).toArray s = true := hts (.fieldLink RX7 15 "CoatsHall$Plan" "pegFor" "[I") (nq_m (n := 3) rfl)
  have hf18 : (Cond.fieldLink RX7 18 "CoatsHall$Plan" (TX7 2).2.1 (TX7 2).2.2.1).before ([.ref ap, .int x1, .ref ag, .ref ah] : List Value).toArray s = true := hts (.fieldLink RX7 18 "CoatsHall$Plan" "taken" "[Z") (nq_m (n := 2) rfl)
  have hf9 : (Cond.fieldLink RX7 9 "CoatsHall$Plan" (TX7 0).2.1 (TX7 0).2.2.1).before ([.ref ap, .int x1, .ref ag, .ref ah] : List Value).toArray s = true := hts (.fieldLink RX7 9 "CoatsHall$Plan" "expected" "[I") (nq_m (n := 5) rfl)
  refine lv_aload_n hx hb (nq_d dX7_make_0_g (n := 0) rfl) rfl (lv_at hl 0 rfl) ?_
  refine lv_iconst (v := (0 : Int32)) hx hb (nq_d dX7_make_0_g (n := 1) rfl) (by decide) ?_
  refine gx_put (D := (dC, dI)) (ci := 7) (v := .int (0 : Int32)) (ty := .int) (C := RX7) (T := TX7) (N := 4) hx hb hts hi_X7 tyX7 tyX7_ok nmX7 hown hK hP hD hS 5 rfl rfl 3 (by decide) hf22 (fun _ h9 => h9) rfl (by decide +kernel) rfl rfl (Nat.le_of_ble_eq_true rfl) (nq_d dX7_make_0_g (n := 2) rfl) [(ag, .inr (2, [.int g_number, .ref ag_sort, .ref ag_kind, .ref ag_tip, .ref ag_marks, .ref ag_brass, .ref ag_peg, .ref ag_has])), (ag_kind, .inl (cyI, 16, .inl g_kind)), (ah, .inr (3, [.ref ah_kind, .ref ah_walk, .ref ah_share, .ref ah_weight, .int h_pegs, .int h_ticks, .int h_loss])), (ah_kind, .inl (cyI, 24, .inl h_kind)), (ah_walk, .inl (cyI, 24, .inl h_walk)), (ap, .inr (7, [.ref ap_expected, .ref ap_pegFor, .ref ap_taken, .int (0 : Int32)])), (ap_expected, .inl (cyI, 16, .inl p_expected)), (ap_pegFor, .inl (cyI, 16, .inl p_pegFor)), (ap_taken, .inl (cyZ, 24, .inl p_taken))] rfl (fun H locs hP hD hS => ?_)
  refine lv_iconst (v := (0 : Int32)) hx hb (nq_d dX7_make_0_g (n := 3) rfl) (by decide) ?_
  refine lv_istore (lv' := [(4, .int (0 : Int32)), (0, .ref ap), (1, .int x1), (2, .ref ag), (3, .ref ah)]) hx hb (nq_d dX7_make_0_g (n := 4) rfl) hl (by decide) rfl (fun ls hl => ?_)
  refine nlp2_el hw (fun X0_29 X1_29 => ∀ (l4_1 : Int32) (z2 : (Nat → Int32)), X0_29 = l4_1.toInt → X1_29 = (aI 24 z2) → ∀ (H : Heap) (locs : List Loc) (ls : Array Slot), va_P (dC, dI) vwCl [(ag, .inr (2, [.int g_number, .ref ag_sort, .ref ag_kind, .ref ag_tip, .ref ag_marks, .ref ag_brass, .ref ag_peg, .ref ag_has])), (ag_kind, .inl (cyI, 16, .inl g_kind)), (ah, .inr (3, [.ref ah_kind, .ref ah_walk, .ref ah_share, .ref ah_weight, .int h_pegs, .int h_ticks, .int h_loss])), (ah_kind, .inl (cyI, 24, .inl h_kind)), (ah_walk, .inl (cyI, 24, .inl h_walk)), (ap, .inr (7, [.ref ap_expected, .ref ap_pegFor, .ref ap_taken, .int (0 : Int32)])), (ap_expected, .inl (cyI, 16, .inl p_expected)), (ap_pegFor, .inl (cyI, 16, .inl p_pegFor)), (ap_taken, .inl (cyZ, 24, .inl z2))] H → va_D A [(ag, .inr (2, [.int g_number, .ref ag_sort, .ref ag_kind, .ref ag_tip, .ref ag_marks, .ref ag_brass, .ref ag_peg, .ref ag_has])), (ag_kind, .inl (cyI, 16, .inl g_kind)), (ah, .inr (3, [.ref ah_kind, .ref ah_walk, .ref ah_share, .ref ah_weight, .int h_pegs, .int h_ticks, .int h_loss])), (ah_kind, .inl (cyI, 24, .inl h_kind)), (ah_walk, .inl (cyI, 24, .inl h_walk)), (ap, .inr (7, [.ref ap_expected, .ref ap_pegFor, .ref ap_taken, .int (0 : Int32)])), (ap_expected, .inl (cyI, 16, .inl p_expected)), (ap_pegFor, .inl (cyI, 16, .inl p_pegFor)), (ap_taken, .inl (cyZ, 24, .inl z2))] → va_S A s.heap H locs → lv_has ls 7 [(0, .ref ap), (1, .int x1), (2, .ref ag), (3, .ref ah), (4, .int l4_1)] → W p l e (headSpec wsX7_make rmX7_make).room s m ([.ref ap, .int x1, .ref ag, .ref ah] : List Value).toArray below meth c H locs 0 0 Q9 (F0 m 8 ls [])) (fun self3 hPself3 X0_29 X1_29 hw l4_1 z2 eX0_29 eX1_29 H locs ls hP hD hS hl => ?_) (0 : Int32) p_taken rfl rfl _ _ _ hP hD hS (lv_sub hl [1, 2, 3, 4, 0] rfl)
  subst eX0_29
  subst eX1_29
  refine lv_iload hx hb (nq_d dX7_make_0_g (n := 5) rfl) (lv_at hl 4 rfl) ?_
  refine lv_bipush (v := (24 : Int32)) hx hb (nq_d dX7_make_0_g (n := 6) rfl) (by decide) ?_
  refine gx_icmp_ge (tgt := 29) hx hb (nq_d dX7_make_0_g (n := 7) rfl) (by decide) hw (fun hw => ?_) (fun hw => ?_)
  · refine lv_iconst (v := (0 : Int32)) hx hb (nq_d dX7_make_0_g (n := 15) rfl) (by decide) ?_
    refine lv_istore (lv' := [(4, .int (0 : Int32)), (0, .ref ap), (1, .int x1), (2, .ref ag), (3, .ref ah)]) hx hb (nq_d dX7_make_0_g (n := 16) rfl) hl (by decide) rfl (fun ls hl => ?_)
    refine nlp2_el hw (fun X0_27 X1_27 => ∀ (l4_4 : Int32) (z5 : (Nat → Int32)), X0_27 = l4_4.toInt → X1_27 = (aI 16 z5) → ∀ (H : Heap) (locs : List Loc) (ls : Array Slot), va_P (dC, dI) vwCl [(ag, .inr (2, [.int g_number, .ref ag_sort, .ref ag_kind, .ref ag_tip, .ref ag_marks, .ref ag_brass, .ref ag_peg, .ref ag_has])), (ag_kind, .inl (cyI, 16, .inl g_kind)), (ah, .inr (3, [.ref ah_kind, .ref ah_walk, .ref ah_share, .ref ah_weight, .int h_pegs, .int h_ticks, .int h_loss])), (ah_kind, .inl (cyI, 24, .inl h_kind)), (ah_walk, .inl (cyI, 24, .inl h_walk)), (ap, .inr (7, [.ref ap_expected, .ref ap_pegFor, .ref ap_taken, .int (0 : Int32)])), (ap_expected, .inl (cyI, 16, .inl p_expected)), (ap_pegFor, .inl (cyI, 16, .inl z5)), (ap_taken, .inl (cyZ, 24, .inl z2))] H → va_D A [(ag, .inr (2, [.int g_number, .ref ag_sort, .ref ag_kind, .ref ag_tip, .ref ag_marks, .ref ag_brass, .ref ag_peg, .ref ag_has])), (ag_kind, .inl (cyI, 16, .inl g_kind)), (ah, .inr (3, [.ref ah_kind, .ref ah_walk, .ref ah_share, .ref ah_weight, .int h_pegs, .int h_ticks, .int h_loss])), (ah_kind, .inl (cyI, 24, .inl h_kind)), (ah_walk, .inl (cyI, 24, .inl h_walk)), (ap, .inr (7, [.ref ap_expected, .ref ap_pegFor, .ref ap_taken, .int (0 : Int32)])), (ap_expected, .inl (cyI, 16, .inl p_expected)), (ap_pegFor, .inl (cyI, 16, .inl z5)), (ap_taken, .inl (cyZ, 24, .inl z2))] → va_S A s.heap H locs → lv_has ls 7 [(0, .ref ap), (1, .int x1), (2, .ref ag), (3, .ref ah), (4, .int l4_4)] → W p l e (headSpec wsX7_make rmX7_make).room s m ([.ref ap, .int x1, .ref ag, .ref ah] : List Value).toArray below meth c H locs 0 0 Q9 (F0 m 32 ls [])) (fun self6 hPself6 X0_27 X1_27 hw l4_4 z5 eX0_27 eX1_27 H locs ls hP hD hS hl => ?_) (0 : Int32) p_pegFor rfl rfl _ _ _ hP hD hS (lv_sub hl [1, 2, 3, 4, 0] rfl)
    subst eX0_27
    subst eX1_27
    refine lv_iload hx hb (nq_d dX7_make_0_g (n := 17) rfl) (lv_at hl 4 rfl) ?_
    refine lv_bipush (v := (16 : Int32)) hx hb (nq_d dX7_make_0_g (n := 18) rfl) (by decide) ?_
    refine gx_icmp_ge (tgt := 53) hx hb (nq_d dX7_make_0_g (n := 19) rfl) (by decide) hw (fun hw => ?_) (fun hw => ?_)
    · refine lv_iconst (v := (0 : Int32)) hx hb (nq_d dX7_make_0_g (n := 27) rfl) (by decide) ?_
      refine lv_istore (lv' := [(4, .int (0 : Int32)), (0, .ref ap), (1, .int x1), (2, .ref ag), (3, .ref ah)]) hx hb (nq_d dX7_make_0_g (n := 28) rfl) hl (by decide) rfl (fun ls hl => ?_)
      refine nlp4_el hw (fun X0_25 X1_25 X2_25 X3_25 => ∀ (l4_7 : Int32) (z8 : Int32) (z9 : (Nat → Int32)) (z10 : (Nat → Int32)), X0_25 = l4_7.toInt → X1_25 = z8.toInt → X2_25 = (aI 16 z9) → X3_25 = (aI 24 z10) → ∀ (H : Heap) (locs : List Loc) (ls : Array Slot), va_P (dC, dI) vwCl [(ag, .inr (2, [.int g_number, .ref ag_sort, .ref ag_kind, .ref ag_tip, .ref ag_marks, .ref ag_brass, .ref ag_peg, .ref ag_has])), (ag_kind, .inl (cyI, 16, .inl g_kind)), (ah, .inr (3, [.ref ah_kind, .ref ah_walk, .ref ah_share, .ref ah_weight, .int h_pegs, .int h_ticks, .int h_loss])), (ah_kind, .inl (cyI, 24, .inl h_kind)), (ah_walk, .inl (cyI, 24, .inl h_walk)), (ap, .inr (7, [.ref ap_expected, .ref ap_pegFor, .ref ap_taken, .int z8])), (ap_expected, .inl (cyI, 16, .inl p_expected)), (ap_pegFor, .inl (cyI, 16, .inl z9)), (ap_taken, .inl (cyZ, 24, .inl z10))] H → va_D A [(ag, .inr (2, [.int g_number, .ref ag_sort, .ref ag_kind, .ref ag_tip, .ref ag_marks, .ref ag_brass, .ref ag_peg, .ref ag_has])), (ag_kind, .inl (cyI, 16, .inl g_kind)), (ah, .inr (3, [.ref ah_kind, .ref ah_walk, .ref ah_share, .ref ah_weight, .int h_pegs, .int h_ticks, .int h_loss])), (ah_kind, .inl (cyI, 24, .inl h_kind)), (ah_walk, .inl (cyI, 24, .inl h_walk)), (ap, .inr (7, [.ref ap_expected, .ref ap_pegFor, .ref ap_taken, .int z8])), (ap_expected, .inl (cyI, 16, .inl p_expected)), (ap_pegFor, .inl (cyI, 16, .inl z9)), (ap_taken, .inl (cyZ, 24, .inl z10))] → va_S A s.heap H locs → lv_has ls 7 [(0, .ref ap), (1, .int x1), (2, .ref ag), (3, .ref ah), (4, .int l4_7)] → W p l e (headSpec wsX7_make rmX7_make).room s m ([.ref ap, .int x1, .ref ag, .ref ah] : List Value).toArray below meth c H locs 0 0 Q9 (F0 m 56 ls [])) (fun self11 hPself11 X0_25 X1_25 X2_25 X3_25 hw l4_7 z8 z9 z10 eX0_25 eX1_25 eX2_25 eX3_25 H locs ls hP hD hS hl => ?_) (0 : Int32) (0 : Int32) z5 z2 rfl rfl rfl rfl _ _ _ hP hD hS (lv_sub hl [1, 2, 3, 4, 0] rfl)
      subst eX0_25
      subst eX1_25
      subst eX2_25
      subst eX3_25
      refine lv_iload hx hb (nq_d dX7_make_0_g (n := 29) rfl) (lv_at hl 4 rfl) ?_
      refine lv_aload_n hx hb (nq_d dX7_make_0_g (n := 30) rfl) rfl (lv_at hl 2 rfl) ?_
      refine va_get (D := (dC, dI)) (ci := 2) (v := .int g_number) (C := RX2) (T := TX2) (N := 8) hx hb hts hi_X2 hown hK hP 0 rfl rfl 0 (by decide) hf30 (fun _ h9 => h9) rfl (nq_d dX7_make_0_g (n := 31) rfl) ?_
      refine gx_icmp_ge (tgt := 160) hx hb (nq_d dX7_make_0_g (n := 32) rfl) (by decide) hw (fun hw => ?_) (fun hw => ?_)
      · refine lv_iconst (v := (1 : Int32)) hx hb (nq_d dX7_make_151_g (n := 3) rfl) (by decide) ?_
        exact rt_zl (A1 := A) hQ hx hb hr hlocks hP hD hS (z8, z9, z10) [0, 1, 2, 3, 4, 5, 6, 7, 8] rfl (by decide +kernel) rfl hw (nq_d dX7_make_151_g (n := 4) rfl)
      · refine lv_iload_n hx hb (nq_d dX7_make_0_g (n := 33) rfl) rfl (lv_at hl 1 rfl) ?_
        refine jn1_el hw (fun j13 hj13 hw => ?_)
        have Jj13 : ∀ (t12 : Int32) (H : Heap) (locs : List Loc) (ls : Array Slot), va_P (dC, dI) vwCl [(ag, .inr (2, [.int g_number, .ref ag_sort, .ref ag_kind, .ref ag_tip, .ref ag_marks, .ref ag_brass, .ref ag_peg, .ref ag_has])), (ag_kind, .inl (cyI, 16, .inl g_kind)), (ah, .inr (3, [.ref ah_kind, .ref ah_walk, .ref ah_share, .ref ah_weight, .int h_pegs, .int h_ticks, .int h_loss])), (ah_kind, .inl (cyI, 24, .inl h_kind)), (ah_walk, .inl (cyI, 24, .inl h_walk)), (ap, .inr (7, [.ref ap_expected, .ref ap_pegFor, .ref ap_taken, .int z8])), (ap_expected, .inl (cyI, 16, .inl p_expected)), (ap_pegFor, .inl (cyI, 16, .inl z9)), (ap_taken, .inl (cyZ, 24, .inl z10))] H → va_D A [(ag, .inr (2, [.int g_number, .ref ag_sort, .ref ag_kind, .ref ag_tip, .ref ag_marks, .ref ag_brass, .ref ag_peg, .ref ag_has])), (ag_kind, .inl (cyI, 16, .inl g_kind)), (ah, .inr (3, [.ref ah_kind, .ref ah_walk, .ref ah_share, .ref ah_weight, .int h_pegs, .int h_ticks, .int h_loss])), (ah_kind, .inl (cyI, 24, .inl h_kind)), (ah_walk, .inl (cyI, 24, .inl h_walk)), (ap, .inr (7, [.ref ap_expected, .ref ap_pegFor, .ref ap_taken, .int z8])), (ap_expected, .inl (cyI, 16, .inl p_expected)), (ap_pegFor, .inl (cyI, 16, .inl z9)), (ap_taken, .inl (cyZ, 24, .inl z10))] → va_S A s.heap H locs → lv_has ls 7 [(0, .ref ap), (1, .int x1), (2, .ref ag), (3, .ref ah), (4, .int l4_7)] → j13 t12.toInt → W p l e (headSpec wsX7_make rmX7_make).room s m ([.ref ap, .int x1, .ref ag, .ref ah] : List Value).toArray below meth c H locs 0 0 Q9 (F0 m 79 ls [.int t12]) := by
          intro t12 H locs ls hP hD hS hl hw
          have hw := hj13 _ hw
          refine lv_istore (lv' := [(5, .int t12), (0, .ref ap), (1, .int x1), (2, .ref ag), (3, .ref ah), (4, .int l4_7)]) hx hb (nq_d dX7_make_79_g (n := 0) rfl) hl (by decide) rfl (fun ls hl => ?_)
          refine lv_aload_n hx hb (nq_d dX7_make_79_g (n := 1) rfl) rfl (lv_at hl 1 rfl) ?_
          refine lv_aload_n hx hb (nq_d dX7_make_79_g (n := 2) rfl) rfl (lv_at hl 3 rfl) ?_
          refine lv_iload hx hb (nq_d dX7_make_79_g (n := 3) rfl) (lv_at hl 0 rfl) ?_
          refine gx_ri (wr := [(ah, .inr (3, [.ref ah_kind, .ref ah_walk, .ref ah_share, .ref ah_weight, .int h_pegs, .int h_ticks, .int h_loss])), (ah_kind, .inl (cyI, 24, .inl h_kind)), (ah_walk, .inl (cyI, 24, .inl h_walk)), (ap, .inr (7, [.ref ap_expected, .ref ap_pegFor, .ref ap_taken, .int z8])), (ap_expected, .inl (cyI, 16, .inl p_expected)), (ap_pegFor, .inl (cyI, 16, .inl z9)), (ap_taken, .inl (cyZ, 24, .inl z10))]) (va_runV (As := [.int t12]) (rest := [.ref ap]) ⟨hx, hb, hml, hown, hts⟩ (ct_Guests_kindOf l dC dI cyB cyI cyJ cyZ ag ag_sort ag_kind ag_tip ag_marks ag_brass ag_peg ag_has _ g_number g_kind t12 _) (cwV 1 hts gX7_make_X2_kindOf rfl rfl rfl cd_X2_kindOf ⟨Nat.le_of_ble_eq_true rfl, Nat.le_of_ble_eq_true rfl⟩) (gx_preV hK hP hD hNw [0, 1] rfl (by decide +kernel) hw 0 (ci := 2) rfl rfl rfl) rfl rfl hl.1 rfl (lv_room (Nat.le_of_ble_eq_true rfl)) (nq_d dX7_make_79_g (n := 4) rfl) ⟨Nat.zero_le _, Nat.zero_le _⟩) hP hD hS hA [0, 1] [2, 3, 4, 5, 6, 7, 8] [7, 8, 0, 1, 2, 3, 4, 5, 6] rfl rfl (by decide) (by decide) (by decide) (fun _ => [(ag, .inr (2, [.int g_number, .ref ag_sort, .ref ag_kind, .ref ag_tip, .ref ag_marks, .ref ag_brass, .ref ag_peg, .ref ag_has])), (ag_kind, .inl (cyI, 16, .inl g_kind)), (ah, .inr (3, [.ref ah_kind, .ref ah_walk, .ref ah_share, .ref ah_weight, .int h_pegs, .int h_ticks, .int h_loss])), (ah_kind, .inl (cyI, 24, .inl h_kind)), (ah_walk, .inl (cyI, 24, .inl h_walk)), (ap, .inr (7, [.ref ap_expected, .ref ap_pegFor, .ref ap_taken, .int z8])), (ap_expected, .inl (cyI, 16, .inl p_expected)), (ap_pegFor, .inl (cyI, 16, .inl z9)), (ap_taken, .inl (cyZ, 24, .inl z10))]) (fun _ => rfl) (fun r14 u H locs hw hP hD hS => ?_)
          try dsimp only at hw hP hD
          refine lv_aload_n hx hb (nq_d dX7_make_79_g (n := 5) rfl) rfl (lv_at hl 4 rfl) ?_
          refine gx_ri (wr := [(ag, .inr (2, [.int g_number, .ref ag_sort, .ref ag_kind, .ref ag_tip, .ref ag_marks, .ref ag_brass, .ref ag_peg, .ref ag_has])), (ag_kind, .inl (cyI, 16, .inl g_kind)), (ap_expected, .inl (cyI, 16, .inl p_expected)), (ap_pegFor, .inl (cyI, 16, .inl z9))]) (va_runV (As := [.int r14, .ref ah]) (rest := []) ⟨hx, hb, hml, hown, hts⟩ (ct_Plan_leastWalkLeft l dC dI cyB cyI cyJ cyZ ah ah_kind ah_walk ah_share ah_weight ap ap_expected ap_pegFor ap_taken _ h_pegs h_ticks h_loss z8 h_kind h_walk z10 r14 _) (cwV 2 hts gX7_make_X7_leastWalkLeft rfl rfl rfl cd_X7_leastWalkLeft ⟨Nat.le_of_ble_eq_true rfl, Nat.le_of_ble_eq_true rfl⟩) (gx_preV hK hP hD hNw [2, 3, 4, 5, 8] rfl (by decide +kernel) hw 5 (ci := 7) rfl rfl rfl) rfl rfl hl.1 rfl (lv_room (Nat.le_of_ble_eq_true rfl)) (nq_d dX7_make_79_g (n := 6) rfl) ⟨Nat.zero_le _, Nat.zero_le _⟩) hP hD hS hA [2, 3, 4, 5, 8] [0, 1, 6, 7] [0, 1, 4, 5, 6, 7, 2, 3, 8] rfl rfl (by decide) (by decide) (by decide) (fun _ => [(ag, .inr (2, [.int g_number, .ref ag_sort, .ref ag_kind, .ref ag_tip, .ref ag_marks, .ref ag_brass, .ref ag_peg, .ref ag_has])), (ag_kind, .inl (cyI, 16, .inl g_kind)), (ah, .inr (3, [.ref ah_kind, .ref ah_walk, .ref ah_share, .ref ah_weight, .int h_pegs, .int h_ticks, .int h_loss])), (ah_kind, .inl (cyI, 24, .inl h_kind)), (ah_walk, .inl (cyI, 24, .inl h_walk)), (ap, .inr (7, [.ref ap_expected, .ref ap_pegFor, .ref ap_taken, .int z8])), (ap_expected, .inl (cyI, 16, .inl p_expected)), (ap_pegFor, .inl (cyI, 16, .inl z9)), (ap_taken, .inl (cyZ, 24, .inl z10))]) (fun _ => rfl) (fun r15 u H locs hw hP hD hS => ?_)
          try dsimp only at hw hP hD
          refine lv_istore (lv' := [(6, .int r15), (5, .int t12), (0, .ref ap), (1, .int x1), (2, .ref ag), (3, .ref ah), (4, .int l4_7)]) hx hb (nq_d dX7_make_79_g (n := 7) rfl) hl (by decide) rfl (fun ls hl => ?_)
          refine lv_aload_n hx hb (nq_d dX7_make_79_g (n := 8) rfl) rfl (lv_at hl 4 rfl) ?_
          refine lv_iload hx hb (nq_d dX7_make_79_g (n := 9) rfl) (lv_at hl 1 rfl) ?_
          refine gx_ri (wr := [(ag_kind, .inl (cyI, 16, .inl g_kind)), (ah, .inr (3, [.ref ah_kind, .ref ah_walk, .ref ah_share, .ref ah_weight, .int h_pegs, .int h_ticks, .int h_loss])), (ah_kind, .inl (cyI, 24, .inl h_kind)), (ah_walk, .inl (cyI, 24, .inl h_walk)), (ap, .inr (7, [.ref ap_expected, .ref ap_pegFor, .ref ap_taken, .int z8])), (ap_expected, .inl (cyI, 16, .inl p_expected)), (ap_pegFor, .inl (cyI, 16, .inl z9)), (ap_taken, .inl (cyZ, 24, .inl z10))]) (va_runV (As := [.int t12]) (rest := []) ⟨hx, hb, hml, hown, hts⟩ (ct_Guests_knows l dC dI cyB cyI cyJ cyZ ag ag_sort ag_kind ag_tip ag_marks ag_brass ag_peg ag_has _ g_number t12 _) (cwV 1 hts gX7_make_X2_knows rfl rfl rfl cd_X2_knows ⟨Nat.le_of_ble_eq_true rfl, Nat.le_of_ble_eq_true rfl⟩) (gx_preV hK hP hD hNw [0] rfl (by decide +kernel) hw 0 (ci := 2) rfl rfl rfl) rfl rfl hl.1 rfl (lv_room (Nat.le_of_ble_eq_true rfl)) (nq_d dX7_make_79_g (n := 10) rfl) ⟨Nat.zero_le _, Nat.zero_le _⟩) hP hD hS hA [0] [1, 2, 3, 4, 5, 6, 7, 8] [8, 0, 1, 2, 3, 4, 5, 6, 7] rfl rfl (by decide) (by decide) (by decide) (fun _ => [(ag, .inr (2, [.int g_number, .ref ag_sort, .ref ag_kind, .ref ag_tip, .ref ag_marks, .ref ag_brass, .ref ag_peg, .ref ag_has])), (ag_kind, .inl (cyI, 16, .inl g_kind)), (ah, .inr (3, [.ref ah_kind, .ref ah_walk, .ref ah_share, .ref ah_weight, .int h_pegs, .int h_ticks, .int h_loss])), (ah_kind, .inl (cyI, 24, .inl h_kind)), (ah_walk, .inl (cyI, 24, .inl h_walk)), (ap, .inr (7, [.ref ap_expected, .ref ap_pegFor, .ref ap_taken, .int z8])), (ap_expected, .inl (cyI, 16, .inl p_expected)), (ap_pegFor, .inl (cyI, 16, .inl z9)), (ap_taken, .inl (cyZ, 24, .inl z10))]) (fun _ => rfl) (fun r16 u H locs hw hP hD hS => ?_)
          try dsimp only at hw hP hD
          refine gx_if_eq (tgt := 112) hx hb (nq_d dX7_make_79_g (n := 11) rfl) (by decide) hw (fun hw => ?_) (fun hw => ?_)
          · refine lv_iconst (v := (0 : Int32)) hx hb (nq_d dX7_make_79_g (n := 16) rfl) (by decide) ?_
            exact rt_zl (A1 := A) hQ hx hb hr hlocks hP hD hS (z8, z9, z10) [0, 1, 2, 3, 4, 5, 6, 7, 8] rfl (by decide +kernel) rfl hw (nq_d dX7_make_79_g (n := 17) rfl)
          · refine lv_aload_n hx hb (nq_d dX7_make_79_g (n := 12) rfl) rfl (lv_at hl 5 rfl) ?_
            refine lv_iload hx hb (nq_d dX7_make_79_g (n := 13) rfl) (lv_at hl 0 rfl) ?_
            refine gx_ri (wr := [(ag, .inr (2, [.int g_number, .ref ag_sort, .ref ag_kind, .ref ag_tip, .ref ag_marks, .ref ag_brass, .ref ag_peg, .ref ag_has])), (ag_kind, .inl (cyI, 16, .inl g_kind)), (ah_kind, .inl (cyI, 24, .inl h_kind)), (ah_walk, .inl (cyI, 24, .inl h_walk)), (ap, .inr (7, [.ref ap_expected, .ref ap_pegFor, .ref ap_taken, .int z8])), (ap_expected, .inl (cyI, 16, .inl p_expected)), (ap_pegFor, .inl (cyI, 16, .inl z9)), (ap_taken, .inl (cyZ, 24, .inl z10))]) (va_runV (As := [.int r15]) (rest := []) ⟨hx, hb, hml, hown, hts⟩ (ct_Hall_hasPeg l dC dI cyB cyI cyJ cyZ ah ah_kind ah_walk ah_share ah_weight _ h_pegs h_ticks h_loss r15 _) (cwV 1 hts gX7_make_X3_hasPeg rfl rfl rfl cd_X3_hasPeg ⟨Nat.le_of_ble_eq_true rfl, Nat.le_of_ble_eq_true rfl⟩) (gx_preV hK hP hD hNw [2] rfl (by decide +kernel) hw 2 (ci := 3) rfl rfl rfl) rfl rfl hl.1 rfl (lv_room (Nat.le_of_ble_eq_true rfl)) (nq_d dX7_make_79_g (n := 14) rfl) ⟨Nat.zero_le _, Nat.zero_le _⟩) hP hD hS hA [2] [0, 1, 3, 4, 5, 6, 7, 8] [0, 1, 8, 2, 3, 4, 5, 6, 7] rfl rfl (by decide) (by decide) (by decide) (fun _ => [(ag, .inr (2, [.int g_number, .ref ag_sort, .ref ag_kind, .ref ag_tip, .ref ag_marks, .ref ag_brass, .ref ag_peg, .ref ag_has])), (ag_kind, .inl (cyI, 16, .inl g_kind)), (ah, .inr (3, [.ref ah_kind, .ref ah_walk, .ref ah_share, .ref ah_weight, .int h_pegs, .int h_ticks, .int h_loss])), (ah_kind, .inl (cyI, 24, .inl h_kind)), (ah_walk, .inl (cyI, 24, .inl h_walk)), (ap, .inr (7, [.ref ap_expected, .ref ap_pegFor, .ref ap_taken, .int z8])), (ap_expected, .inl (cyI, 16, .inl p_expected)), (ap_pegFor, .inl (cyI, 16, .inl z9)), (ap_taken, .inl (cyZ, 24, .inl z10))]) (fun _ => rfl) (fun r17 u H locs hw hP hD hS => ?_)
            try dsimp only at hw hP hD
            refine gx_if_ne (tgt := 114) hx hb (nq_d dX7_make_79_g (n := 15) rfl) (by decide) hw (fun hw => ?_) (fun hw => ?_)
            · refine lv_aload_n hx hb (nq_d dX7_make_79_g (n := 18) rfl) rfl (lv_at hl 2 rfl) ?_
              refine va_get (D := (dC, dI)) (ci := 7) (v := .ref ap_pegFor) (C := RX7) (T := TX7) (N := 4) hx hb hts hi_X7 hown hK hP 5 rfl rfl 1 (by decide) hf15 (fun _ h9 => h9) rfl (nq_d dX7_make_79_g (n := 19) rfl) ?_
              refine lv_iload hx hb (nq_d dX7_make_79_g (n := 20) rfl) (lv_at hl 1 rfl) ?_
              refine lv_iload hx hb (nq_d dX7_make_79_g (n := 21) rfl) (lv_at hl 0 rfl) ?_
              refine gx_iast hx hb hK hP hD hS 7 1 rfl rfl (nq_d dX7_make_79_g (n := 22) rfl) (fun f18 => [(ag, .inr (2, [.int g_number, .ref ag_sort, .ref ag_kind, .ref ag_tip, .ref ag_marks, .ref ag_brass, .ref ag_peg, .ref ag_has])), (ag_kind, .inl (cyI, 16, .inl g_kind)), (ah, .inr (3, [.ref ah_kind, .ref ah_walk, .ref ah_share, .ref ah_weight, .int h_pegs, .int h_ticks, .int h_loss])), (ah_kind, .inl (cyI, 24, .inl h_kind)), (ah_walk, .inl (cyI, 24, .inl h_walk)), (ap, .inr (7, [.ref ap_expected, .ref ap_pegFor, .ref ap_taken, .int z8])), (ap_expected, .inl (cyI, 16, .inl p_expected)), (ap_pegFor, .inl (cyI, 16, .inl f18)), (ap_taken, .inl (cyZ, 24, .inl z10))]) (fun _ => rfl) hw (fun f18 H locs hw hP hD hS => ?_)
              refine lv_aload_n hx hb (nq_d dX7_make_79_g (n := 23) rfl) rfl (lv_at hl 2 rfl) ?_
              refine va_get (D := (dC, dI)) (ci := 7) (v := .ref ap_taken) (C := RX7) (T := TX7) (N := 4) hx hb hts hi_X7 hown hK hP 5 rfl rfl 2 (by decide) hf18 (fun _ h9 => h9) rfl (nq_d dX7_make_79_g (n := 24) rfl) ?_
              refine lv_iload hx hb (nq_d dX7_make_79_g (n := 25) rfl) (lv_at hl 0 rfl) ?_
              refine lv_iconst (v := (1 : Int32)) hx hb (nq_d dX7_make_79_g (n := 26) rfl) (by decide) ?_
              refine gx_zast hx hb hK hP hD hS 8 3 rfl rfl (nq_d dX7_make_79_g (n := 27) rfl) (fun f19 => [(ag, .inr (2, [.int g_number, .ref ag_sort, .ref ag_kind, .ref ag_tip, .ref ag_marks, .ref ag_brass, .ref ag_peg, .ref ag_has])), (ag_kind, .inl (cyI, 16, .inl g_kind)), (ah, .inr (3, [.ref ah_kind, .ref ah_walk, .ref ah_share, .ref ah_weight, .int h_pegs, .int h_ticks, .int h_loss])), (ah_kind, .inl (cyI, 24, .inl h_kind)), (ah_walk, .inl (cyI, 24, .inl h_walk)), (ap, .inr (7, [.ref ap_expected, .ref ap_pegFor, .ref ap_taken, .int z8])), (ap_expected, .inl (cyI, 16, .inl p_expected)), (ap_pegFor, .inl (cyI, 16, .inl f18)), (ap_taken, .inl (cyZ, 24, .inl f19))]) (fun _ => rfl) hw (fun f19 H locs hw hP hD hS => ?_)
              refine lv_aload_n hx hb (nq_d dX7_make_79_g (n := 28) rfl) rfl (lv_at hl 2 rfl) ?_
              refine lv_dup hx hb (nq_d dX7_make_79_g (n := 29) rfl) rfl ?_
              refine va_get (D := (dC, dI)) (ci := 7) (v := .int z8) (C := RX7) (T := TX7) (N := 4) hx hb hts hi_X7 hown hK hP 5 rfl rfl 3 (by decide) hf22 (fun _ h9 => h9) rfl (nq_d dX7_make_79_g (n := 30) rfl) ?_
              refine lv_aload_n hx hb (nq_d dX7_make_79_g (n := 31) rfl) rfl (lv_at hl 2 rfl) ?_
              refine va_get (D := (dC, dI)) (ci := 7) (v := .ref ap_expected) (C := RX7) (T := TX7) (N := 4) hx hb hts hi_X7 hown hK hP 5 rfl rfl 0 (by decide) hf9 (fun _ h9 => h9) rfl (nq_d dX7_make_79_g (n := 32) rfl) ?_
              refine lv_iload hx hb (nq_d dX7_make_79_g (n := 33) rfl) (lv_at hl 1 rfl) ?_
              refine gx_iald hx hb hK hP 6 1 rfl rfl (nq_d dX7_make_79_g (n := 34) rfl) hw (fun v20 hw => ?_)
              refine lv_aload_n hx hb (nq_d dX7_make_79_g (n := 35) rfl) rfl (lv_at hl 5 rfl) ?_
              refine lv_iload hx hb (nq_d dX7_make_79_g (n := 36) rfl) (lv_at hl 0 rfl) ?_
              refine gx_ri (wr := [(ag, .inr (2, [.int g_number, .ref ag_sort, .ref ag_kind, .ref ag_tip, .ref ag_marks, .ref ag_brass, .ref ag_peg, .ref ag_has])), (ag_kind, .inl (cyI, 16, .inl g_kind)), (ah_kind, .inl (cyI, 24, .inl h_kind)), (ap, .inr (7, [.ref ap_expected, .ref ap_pegFor, .ref ap_taken, .int z8])), (ap_expected, .inl (cyI, 16, .inl p_expected)), (ap_pegFor, .inl (cyI, 16, .inl f18)), (ap_taken, .inl (cyZ, 24, .inl f19))]) (va_runV (As := [.int r15]) (rest := [.int v20, .int z8, .ref ap]) ⟨hx, hb, hml, hown, hts⟩ (ct_Hall_walkOf l dC dI cyB cyI cyJ cyZ ah ah_kind ah_walk ah_share ah_weight _ h_pegs h_ticks h_loss h_walk r15 _) (cwV 1 hts gX7_make_X3_walkOf rfl rfl rfl cd_X3_walkOf ⟨Nat.le_of_ble_eq_true rfl, Nat.le_of_ble_eq_true rfl⟩) (gx_preV hK hP hD hNw [2, 4] rfl (by decide +kernel) hw 2 (ci := 3) rfl rfl rfl) rfl rfl hl.1 rfl (lv_room (Nat.le_of_ble_eq_true rfl)) (nq_d dX7_make_79_g (n := 37) rfl) ⟨Nat.zero_le _, Nat.zero_le _⟩) hP hD hS hA [2, 4] [0, 1, 3, 5, 6, 7, 8] [0, 1, 7, 2, 8, 3, 4, 5, 6] rfl rfl (by decide) (by decide) (by decide) (fun _ => [(ag, .inr (2, [.int g_number, .ref ag_sort, .ref ag_kind, .ref ag_tip, .ref ag_marks, .ref ag_brass, .ref ag_peg, .ref ag_has])), (ag_kind, .inl (cyI, 16, .inl g_kind)), (ah, .inr (3, [.ref ah_kind, .ref ah_walk, .ref ah_share, .ref ah_weight, .int h_pegs, .int h_ticks, .int h_loss])), (ah_kind, .inl (cyI, 24, .inl h_kind)), (ah_walk, .inl (cyI, 24, .inl h_walk)), (ap, .inr (7, [.ref ap_expected, .ref ap_pegFor, .ref ap_taken, .int z8])), (ap_expected, .inl (cyI, 16, .inl p_expected)), (ap_pegFor, .inl (cyI, 16, .inl f18)), (ap_taken, .inl (cyZ, 24, .inl f19))]) (fun _ => rfl) (fun r21 u H locs hw hP hD hS => ?_)
              try dsimp only at hw hP hD
              refine gx_imul hx hb (nq_d dX7_make_79_g (n := 38) rfl) hw (fun v22 hw => ?_)
              refine gx_iadd hx hb (nq_d dX7_make_79_g (n := 39) rfl) hw (fun v23 hw => ?_)
              refine gx_put (D := (dC, dI)) (ci := 7) (v := .int v23) (ty := .int) (C := RX7) (T := TX7) (N := 4) hx hb hts hi_X7 tyX7 tyX7_ok nmX7 hown hK hP hD hS 5 rfl rfl 3 (by decide) hf22 (fun _ h9 => h9) rfl (by decide +kernel) rfl rfl (Nat.le_of_ble_eq_true rfl) (nq_d dX7_make_151_g (n := 0) rfl) [(ag, .inr (2, [.int g_number, .ref ag_sort, .ref ag_kind, .ref ag_tip, .ref ag_marks, .ref ag_brass, .ref ag_peg, .ref ag_has])), (ag_kind, .inl (cyI, 16, .inl g_kind)), (ah, .inr (3, [.ref ah_kind, .ref ah_walk, .ref ah_share, .ref ah_weight, .int h_pegs, .int h_ticks, .int h_loss])), (ah_kind, .inl (cyI, 24, .inl h_kind)), (ah_walk, .inl (cyI, 24, .inl h_walk)), (ap, .inr (7, [.ref ap_expected, .ref ap_pegFor, .ref ap_taken, .int v23])), (ap_expected, .inl (cyI, 16, .inl p_expected)), (ap_pegFor, .inl (cyI, 16, .inl f18)), (ap_taken, .inl (cyZ, 24, .inl f19))] rfl (fun H locs hP hD hS => ?_)
              refine gx_iinc (k := 6) (z := (1 : Int32)) (lv' := fun v24 => [(4, .int v24), (6, .int r15), (5, .int t12), (0, .ref ap), (1, .int x1), (2, .ref ag), (3, .ref ah)]) hx hb (nq_d dX7_make_151_g (n := 1) rfl) hl rfl (by decide) (by decide) (fun _ => rfl) hw (fun v24 ls hw hl => ?_)
              refine lv_goto (tgt := 56) hx hb (nq_d dX7_make_151_g (n := 2) rfl) (by decide) ?_
              exact hPself11 _ _ _ _ hw v24 v23 f18 f19 rfl rfl rfl rfl _ _ _ hP hD hS (lv_sub hl [3, 4, 5, 6, 0] rfl)
            · refine lv_iconst (v := (0 : Int32)) hx hb (nq_d dX7_make_79_g (n := 16) rfl) (by decide) ?_
              exact rt_zl (A1 := A) hQ hx hb hr hlocks hP hD hS (z8, z9, z10) [0, 1, 2, 3, 4, 5, 6, 7, 8] rfl (by decide +kernel) rfl hw (nq_d dX7_make_79_g (n := 17) rfl)
        refine gx_if_eq (tgt := 74) hx hb (nq_d dX7_make_0_g (n := 34) rfl) (by decide) hw (fun hw => ?_) (fun hw => ?_)
        · refine lv_aload_n hx hb (nq_d dX7_make_0_g (n := 37) rfl) rfl (lv_at hl 0 rfl) ?_
          refine lv_aload_n hx hb (nq_d dX7_make_0_g (n := 38) rfl) rfl (lv_at hl 2 rfl) ?_
          refine gx_ri (wr := [(ag_kind, .inl (cyI, 16, .inl g_kind)), (ah, .inr (3, [.ref ah_kind, .ref ah_walk, .ref ah_share, .ref ah_weight, .int h_pegs, .int h_ticks, .int h_loss])), (ah_kind, .inl (cyI, 24, .inl h_kind)), (ah_walk, .inl (cyI, 24, .inl h_walk)), (ap_taken, .inl (cyZ, 24, .inl z10))]) (va_runV (As := [.ref ag]) (rest := []) ⟨hx, hb, hml, hown, hts⟩ (ct_Plan_greatestLeft l dC dI cyB cyI cyJ cyZ ag ag_sort ag_kind ag_tip ag_marks ag_brass ag_peg ag_has ap ap_expected ap_pegFor ap_taken _ g_number z8 p_expected z9 _) (cwV 1 hts gX7_make_X7_greatestLeft rfl rfl rfl cd_X7_greatestLeft ⟨Nat.le_of_ble_eq_true rfl, Nat.le_of_ble_eq_true rfl⟩) (gx_preV hK hP hD hNw [0, 5, 6, 7] rfl (by decide +kernel) hw 5 (ci := 7) rfl rfl rfl) rfl rfl hl.1 rfl (lv_room (Nat.le_of_ble_eq_true rfl)) (nq_d dX7_make_0_g (n := 39) rfl) ⟨Nat.zero_le _, Nat.zero_le _⟩) hP hD hS hA [0, 5, 6, 7] [1, 2, 3, 4, 8] [5, 0, 1, 2, 3, 6, 7, 8, 4] rfl rfl (by decide) (by decide) (by decide) (fun _ => [(ag, .inr (2, [.int g_number, .ref ag_sort, .ref ag_kind, .ref ag_tip, .ref ag_marks, .ref ag_brass, .ref ag_peg, .ref ag_has])), (ag_kind, .inl (cyI, 16, .inl g_kind)), (ah, .inr (3, [.ref ah_kind, .ref ah_walk, .ref ah_share, .ref ah_weight, .int h_pegs, .int h_ticks, .int h_loss])), (ah_kind, .inl (cyI, 24, .inl h_kind)), (ah_walk, .inl (cyI, 24, .inl h_walk)), (ap, .inr (7, [.ref ap_expected, .ref ap_pegFor, .ref ap_taken, .int z8])), (ap_expected, .inl (cyI, 16, .inl p_expected)), (ap_pegFor, .inl (cyI, 16, .inl z9)), (ap_taken, .inl (cyZ, 24, .inl z10))]) (fun _ => rfl) (fun r25 u H locs hw hP hD hS => ?_)
          try dsimp only at hw hP hD
          exact Jj13 r25 _ _ _ hP hD hS (lv_sub hl [0, 1, 2, 3, 4] rfl) hw
        · refine lv_iload hx hb (nq_d dX7_make_0_g (n := 35) rfl) (lv_at hl 4 rfl) ?_
          refine lv_goto (tgt := 79) hx hb (nq_d dX7_make_0_g (n := 36) rfl) (by decide) ?_
          exact Jj13 l4_7 _ _ _ hP hD hS (lv_sub hl [0, 1, 2, 3, 4] rfl) hw
    · refine lv_aload_n hx hb (nq_d dX7_make_0_g (n := 20) rfl) rfl (lv_at hl 0 rfl) ?_
      refine va_get (D := (dC, dI)) (ci := 7) (v := .ref ap_pegFor) (C := RX7) (T := TX7) (N := 4) hx hb hts hi_X7 hown hK hP 5 rfl rfl 1 (by decide) hf15 (fun _ h9 => h9) rfl (nq_d dX7_make_0_g (n := 21) rfl) ?_
      refine lv_iload hx hb (nq_d dX7_make_0_g (n := 22) rfl) (lv_at hl 4 rfl) ?_
      refine lv_iconst (v := ((-1) : Int32)) hx hb (nq_d dX7_make_0_g (n := 23) rfl) (by decide) ?_
      refine gx_iast hx hb hK hP hD hS 7 1 rfl rfl (nq_d dX7_make_0_g (n := 24) rfl) (fun f26 => [(ag, .inr (2, [.int g_number, .ref ag_sort, .ref ag_kind, .ref ag_tip, .ref ag_marks, .ref ag_brass, .ref ag_peg, .ref ag_has])), (ag_kind, .inl (cyI, 16, .inl g_kind)), (ah, .inr (3, [.ref ah_kind, .ref ah_walk, .ref ah_share, .ref ah_weight, .int h_pegs, .int h_ticks, .int h_loss])), (ah_kind, .inl (cyI, 24, .inl h_kind)), (ah_walk, .inl (cyI, 24, .inl h_walk)), (ap, .inr (7, [.ref ap_expected, .ref ap_pegFor, .ref ap_taken, .int (0 : Int32)])), (ap_expected, .inl (cyI, 16, .inl p_expected)), (ap_pegFor, .inl (cyI, 16, .inl f26)), (ap_taken, .inl (cyZ, 24, .inl z2))]) (fun _ => rfl) hw (fun f26 H locs hw hP hD hS => ?_)
      refine gx_iinc (k := 4) (z := (1 : Int32)) (lv' := fun v27 => [(4, .int v27), (0, .ref ap), (1, .int x1), (2, .ref ag), (3, .ref ah)]) hx hb (nq_d dX7_make_0_g (n := 25) rfl) hl rfl (by decide) (by decide) (fun _ => rfl) hw (fun v27 ls hw hl => ?_)
      refine lv_goto (tgt := 32) hx hb (nq_d dX7_make_0_g (n := 26) rfl) (by decide) ?_
      exact hPself6 _ _ hw v27 f26 rfl rfl _ _ _ hP hD hS (lv_sub hl [1, 2, 3, 4, 0] rfl)
  · refine lv_aload_n hx hb (nq_d dX7_make_0_g (n := 8) rfl) rfl (lv_at hl 0 rfl) ?_
    refine va_get (D := (dC, dI)) (ci := 7) (v := .ref ap_taken) (C := RX7) (T := TX7) (N := 4) hx hb hts hi_X7 hown hK hP 5 rfl rfl 2 (by decide) hf18 (fun _ h9 => h9) rfl (nq_d dX7_make_0_g (n := 9) rfl) ?_
    refine lv_iload hx hb (nq_d dX7_make_0_g (n := 10) rfl) (lv_at hl 4 rfl) ?_
    refine lv_iconst (v := (0 : Int32)) hx hb (nq_d dX7_make_0_g (n := 11) rfl) (by decide) ?_
    refine gx_zast hx hb hK hP hD hS 8 3 rfl rfl (nq_d dX7_make_0_g (n := 12) rfl) (fun f28 => [(ag, .inr (2, [.int g_number, .ref ag_sort, .ref ag_kind, .ref ag_tip, .ref ag_marks, .ref ag_brass, .ref ag_peg, .ref ag_has])), (ag_kind, .inl (cyI, 16, .inl g_kind)), (ah, .inr (3, [.ref ah_kind, .ref ah_walk, .ref ah_share, .ref ah_weight, .int h_pegs, .int h_ticks, .int h_loss])), (ah_kind, .inl (cyI, 24, .inl h_kind)), (ah_walk, .inl (cyI, 24, .inl h_walk)), (ap, .inr (7, [.ref ap_expected, .ref ap_pegFor, .ref ap_taken, .int (0 : Int32)])), (ap_expected, .inl (cyI, 16, .inl p_expected)), (ap_pegFor, .inl (cyI, 16, .inl p_pegFor)), (ap_taken, .inl (cyZ, 24, .inl f28))]) (fun _ => rfl) hw (fun f28 H locs hw hP hD hS => ?_)
    refine gx_iinc (k := 4) (z := (1 : Int32)) (lv' := fun v29 => [(4, .int v29), (0, .ref ap), (1, .int x1), (2, .ref ag), (3, .ref ah)]) hx hb (nq_d dX7_make_0_g (n := 13) rfl) hl rfl (by decide) (by decide) (fun _ => rfl) hw (fun v29 ls hw hl => ?_)
    refine lv_goto (tgt := 8) hx hb (nq_d dX7_make_0_g (n := 14) rfl) (by decide) ?_
    exact hPself3 _ _ hw v29 f28 rfl rfl _ _ _ hP hD hS (lv_sub hl [1, 2, 3, 4, 0] rfl)
abbrev rmX8_append : Room := { frames := 0, cells := 0, slots := 0, locals := 0 }
theorem cd_X8_append : yX8_append.cls = RX8 ∧ yX8_append.cls ≠ "java/lang/invoke/MethodHandle" ∧ yX8_append.cls ≠ "java/lang/invoke/VarHandle" ∧ (parseMethodDescriptor yX8_append.desc).map (fun d => d.parameters.length) = some 2 := by decide +kernel
set_option maxHeartbeats 4000000 in
set_option maxRecDepth 100000 in
theorem ct_Reader_append (l : Launch) (dC : Nat → ClassId) (dI : Nat → Nat → Nat) (cyB cyI cyJ cyZ : ClassId) (ar ar_text ar_draft : Nat) (sz : Nat) (r_length : Int32) (r_place : Int32) (r_failure : Int32) (r_at : Int32) (r_firstFigure : Int32) (r_toldBefore : Int32) (r_text : Nat → Int32) (x1 : Int32) (x2 : Int64) (Q : Int → Int → (Int → Int) → Prop) : Met l yX8_append wsX8_append rmX8_append (va_Pc [.ref ar, .int x1, .long x2] (cPre (dC, dI) vwCl (tyS cyB cyI cyJ cyZ) [(ar, .inr (8, [.ref ar_text, .int r_length, .int r_place, .int r_failure, .int r_at, .int r_firstFigure, .int r_toldBefore, .ref ar_draft])), (ar_text, .inl (cyB, 240, .inl r_text))] sz (nf_Reader_append r_length.toInt (aI 240 r_text) x1.toInt x2.toInt Q))) (va_Qi (fun (r : Int32) (u : Int32 × (Nat → Int32)) => Q r.toInt (u.1).toInt (aI 240 (u.2))) (cPost (dC, dI) vwCl (fun u : Int32 × (Nat → Int32) => [(ar, .inr (8, [.ref ar_text, .int u.1, .int r_place, .int r_failure, .int r_at, .int r_firstFigure, .int r_toldBefore, .ref ar_draft])), (ar_text, .inl (cyB, 240, .inl (u.2)))]) (va_A [(ar, .inr (8, [.ref ar_text, .int r_length, .int r_place, .int r_failure, .int r_at, .int r_firstFigure, .int r_toldBefore, .ref ar_draft])), (ar_text, .inl (cyB, 240, .inl r_text))] sz)) (va_A [(ar, .inr (8, [.ref ar_text, .int r_length, .int r_place, .int r_failure, .int r_at, .int r_firstFigure, .int r_toldBefore, .ref ar_draft])), (ar_text, .inl (cyB, 240, .inl r_text))] sz)) 0 0 (va_A [(ar, .inr (8, [.ref ar_text, .int r_length, .int r_place, .int r_failure, .int r_at, .int r_firstFigure, .int r_toldBefore, .ref ar_draft])), (ar_text, .inl (cyB, 240, .inl r_text))] sz) := by
  refine Met.ofW (cc := cX8_append) (maxL := 5) (ret := (some .int)) (by decide) rfl ?_
  intro p e s m args below meth c s₁ B hml hv
  obtain ⟨rfl, hsz, hP, hK, hD0, hNw, hw⟩ := hv
  have hx := B.exec
  have hb := B.bytes
  have hr := B.returns
  have hts := atoms_spec (ws := wsX8_append) B.pre
  have hown : s.vm.findClass RX8 = some m.cls := findClass_of_methodNamed B.named
  have hlocks := B.notSynchronized
  subst hsz
  have hD := hD0.self (sz := s.heap.size)
  generalize hAe : va_A [(ar, .inr (8, [.ref ar_text, .int r_length, .int r_place, .int r_failure, .int r_at, .int r_firstFigure, .int r_toldBefore, .ref ar_draft])), (ar_text, .inl (cyB, 240, .inl r_text))] s.heap.size = A at hD ⊢
  have hA : ∀ q : Nat, s.heap.size ≤ q → A q := fun q h => by rw [← hAe]; exact Or.inr h
  have hS : va_S A s.heap s.heap [] := va_S.rf
  have hl := lv_entry ([.ref ar, .int x1, .long x2]) (n := 5) (Nat.le_of_ble_eq_true rfl)
  rw [lg_entry_eq]
  generalize (lg_sl ([.ref ar, .int x1, .long x2]) ++ List.replicate (5 - (lg_sl ([.ref ar, .int x1, .long x2])).length) Slot.unset).toArray = ls at hl ⊢
  have hl : lv_has ls 5 [(0, .ref ar), (1, .int x1), (2, .long x2)] := hl
  refine gx_q (fun Q9 hQ => ?_)
  unfold nf_Reader_append at hw
  have hi_X8 : ∀ w ∈ wsX80, w ∈ wsX8_append := (sub_c (nq_m (n := 3) rfl) (sub_c (nq_m (n := 4) rfl) (sub_c (nq_m (n := 5) rfl) (sub_c (nq_m (n := 6) rfl) (sub_c (nq_m (n := 7) rfl) (sub_c (nq_m (n := 8) rfl) (sub_c (nq_m (n := 9) rfl) (sub_c (nq_m (n := 10) rfl) sub_n))))))))
  have hf15 : (Cond.fieldLink RX8 15 "CoatsHall$Reader" (TX8 1).2.1 (TX8 1).2.2.1).before ([.ref ar, .int x1, .long x2] : List Value).toArray s = true := hts (.fieldLink RX8 15 "CoatsHall$Reader" "length" "I") (nq_m (n := 1) rfl)
  have hf9 : (Cond.fieldLink RX8 9 "CoatsHall$Reader" (TX8 0).2.1 (TX8 0).2.2.1).before ([.ref ar, .int x1, .long x2] : List Value).toArray s = true := hts (.fieldLink RX8 9 "CoatsHall$Reader" "text" "[B") (nq_m (n := 2) rfl)
  refine lv_iload_n hx hb (nq_d dX8_append_0_g (n := 0) rfl) rfl (lv_at hl 1 rfl) ?_
  refine lv_iconst (v := (1 : Int32)) hx hb (nq_d dX8_append_0_g (n := 1) rfl) (by decide) ?_
  refine gx_isub hx hb (nq_d dX8_append_0_g (n := 2) rfl) hw (fun v1 hw => ?_)
  refine lv_istore (lv' := [(4, .int v1), (0, .ref ar), (1, .int x1), (2, .long x2)]) hx hb (nq_d dX8_append_0_g (n := 3) rfl) hl (by decide) rfl (fun ls hl => ?_)
  refine nlp3_el hw (fun X0_12 X1_12 X2_12 => ∀ (l4_2 : Int32) (z3 : Int32) (z4 : (Nat → Int32)), X0_12 = l4_2.toInt → X1_12 = z3.toInt → X2_12 = (aI 240 z4) → ∀ (H : Heap) (locs : List Loc) (ls : Array Slot), va_P (dC, dI) vwCl [(ar, .inr (8, [.ref ar_text, .int z3, .int r_place, .int r_failure, .int r_at, .int r_firstFigure, .int r_toldBefore, .ref ar_draft])), (ar_text, .inl (cyB, 240, .inl z4))] H → va_D A [(ar, .inr (8, [.ref ar_text, .int z3, .int r_place, .int r_failure, .int r_at, .int r_firstFigure, .int r_toldBefore, .ref ar_draft])), (ar_text, .inl (cyB, 240, .inl z4))] → va_S A s.heap H locs → lv_has ls 5 [(0, .ref ar), (2, .long x2), (4, .int l4_2)] → W p l e (headSpec wsX8_append rmX8_append).room s m ([.ref ar, .int x1, .long x2] : List Value).toArray below meth c H locs 0 0 Q9 (F0 m 5 ls [])) (fun self5 hPself5 X0_12 X1_12 X2_12 hw l4_2 z3 z4 eX0_12 eX1_12 eX2_12 H locs ls hP hD hS hl => ?_) v1 r_length r_text rfl rfl rfl _ _ _ hP hD hS (lv_sub hl [1, 3, 0] rfl)
  subst eX0_12
  subst eX1_12
  subst eX2_12
  refine lv_iload hx hb (nq_d dX8_append_0_g (n := 4) rfl) (lv_at hl 2 rfl) ?_
  refine gx_if_lt (tgt := 54) hx hb (nq_d dX8_append_0_g (n := 5) rfl) (by decide) hw (fun hw => ?_) (fun hw => ?_)
  · refine lv_aload_n hx hb (nq_d dX8_append_0_g (n := 30) rfl) rfl (lv_at hl 0 rfl) ?_
    refine va_get (D := (dC, dI)) (ci := 8) (v := .int z3) (C := RX8) (T := TX8) (N := 8) hx hb hts hi_X8 hown hK hP 0 rfl rfl 1 (by decide) hf15 (fun _ h9 => h9) rfl (nq_d dX8_append_0_g (n := 31) rfl) ?_
    exact rt_i (A1 := A) hQ hx hb hr hlocks hP hD hS (z3, z4) [0, 1] rfl (by decide +kernel) hw (nq_d dX8_append_0_g (n := 32) rfl)
  · refine lv_aload_n hx hb (nq_d dX8_append_0_g (n := 6) rfl) rfl (lv_at hl 0 rfl) ?_
    refine va_get (D := (dC, dI)) (ci := 8) (v := .int z3) (C := RX8) (T := TX8) (N := 8) hx hb hts hi_X8 hown hK hP 0 rfl rfl 1 (by decide) hf15 (fun _ h9 => h9) rfl (nq_d dX8_append_0_g (n := 7) rfl) ?_
    refine lv_sipush (v := (240 : Int32)) hx hb (nq_d dX8_append_0_g (n := 8) rfl) (by decide) ?_
    refine gx_icmp_ge (tgt := 54) hx hb (nq_d dX8_append_0_g (n := 9) rfl) (by decide) hw (fun hw => ?_) (fun hw => ?_)
    · refine lv_aload_n hx hb (nq_d dX8_append_0_g (n := 30) rfl) rfl (lv_at hl 0 rfl) ?_
      refine va_get (D := (dC, dI)) (ci := 8) (v := .int z3) (C := RX8) (T := TX8) (N := 8) hx hb hts hi_X8 hown hK hP 0 rfl rfl 1 (by decide) hf15 (fun _ h9 => h9) rfl (nq_d dX8_append_0_g (n := 31) rfl) ?_
      exact rt_i (A1 := A) hQ hx hb hr hlocks hP hD hS (z3, z4) [0, 1] rfl (by decide +kernel) hw (nq_d dX8_append_0_g (n := 32) rfl)
    · refine lv_aload_n hx hb (nq_d dX8_append_0_g (n := 10) rfl) rfl (lv_at hl 0 rfl) ?_
      refine va_get (D := (dC, dI)) (ci := 8) (v := .ref ar_text) (C := RX8) (T := TX8) (N := 8) hx hb hts hi_X8 hown hK hP 0 rfl rfl 0 (by decide) hf9 (fun _ h9 => h9) rfl (nq_d dX8_append_0_g (n := 11) rfl) ?_
      refine lv_aload_n hx hb (nq_d dX8_append_0_g (n := 12) rfl) rfl (lv_at hl 0 rfl) ?_
      refine va_get (D := (dC, dI)) (ci := 8) (v := .int z3) (C := RX8) (T := TX8) (N := 8) hx hb hts hi_X8 hown hK hP 0 rfl rfl 1 (by decide) hf15 (fun _ h9 => h9) rfl (nq_d dX8_append_0_g (n := 13) rfl) ?_
      refine lv_lload_n hx hb (nq_d dX8_append_0_g (n := 14) rfl) rfl (lv_at hl 1 rfl) ?_
      refine lv_bipush (v := (8 : Int32)) hx hb (nq_d dX8_append_0_g (n := 15) rfl) (by decide) ?_
      refine lv_iload hx hb (nq_d dX8_append_0_g (n := 16) rfl) (lv_at hl 2 rfl) ?_
      refine gx_imul hx hb (nq_d dX8_append_0_g (n := 17) rfl) hw (fun v6 hw => ?_)
      refine gx_lushr hx hb (nq_d dX8_append_0_g (n := 18) rfl) hw (fun v7 hw => ?_)
      refine gx_l2i hx hb (nq_d dX8_append_0_g (n := 19) rfl) hw (fun v8 hw => ?_)
      refine gx_i2b hx hb (nq_d dX8_append_0_g (n := 20) rfl) hw (fun v9 hbv9 hw => ?_)
      refine gx_bast hx hb hK hP hD hS 1 0 rfl rfl hbv9 (nq_d dX8_append_0_g (n := 21) rfl) (fun f10 => [(ar, .inr (8, [.ref ar_text, .int z3, .int r_place, .int r_failure, .int r_at, .int r_firstFigure, .int r_toldBefore, .ref ar_draft])), (ar_text, .inl (cyB, 240, .inl f10))]) (fun _ => rfl) hw (fun f10 H locs hw hP hD hS => ?_)
      refine lv_aload_n hx hb (nq_d dX8_append_0_g (n := 22) rfl) rfl (lv_at hl 0 rfl) ?_
      refine lv_dup hx hb (nq_d dX8_append_0_g (n := 23) rfl) rfl ?_
      refine va_get (D := (dC, dI)) (ci := 8) (v := .int z3) (C := RX8) (T := TX8) (N := 8) hx hb hts hi_X8 hown hK hP 0 rfl rfl 1 (by decide) hf15 (fun _ h9 => h9) rfl (nq_d dX8_append_0_g (n := 24) rfl) ?_
      refine lv_iconst (v := (1 : Int32)) hx hb (nq_d dX8_append_0_g (n := 25) rfl) (by decide) ?_
      refine gx_iadd hx hb (nq_d dX8_append_0_g (n := 26) rfl) hw (fun v11 hw => ?_)
      refine gx_put (D := (dC, dI)) (ci := 8) (v := .int v11) (ty := .int) (C := RX8) (T := TX8) (N := 8) hx hb hts hi_X8 tyX8 tyX8_ok nmX8 hown hK hP hD hS 0 rfl rfl 1 (by decide) hf15 (fun _ h9 => h9) rfl (by decide +kernel) rfl rfl (Nat.le_of_ble_eq_true rfl) (nq_d dX8_append_0_g (n := 27) rfl) [(ar, .inr (8, [.ref ar_text, .int v11, .int r_place, .int r_failure, .int r_at, .int r_firstFigure, .int r_toldBefore, .ref ar_draft])), (ar_text, .inl (cyB, 240, .inl f10))] rfl (fun H locs hP hD hS => ?_)
      refine gx_iinc (k := 2) (z := ((-1) : Int32)) (lv' := fun v12 => [(4, .int v12), (0, .ref ar), (2, .long x2)]) hx hb (nq_d dX8_append_0_g (n := 28) rfl) hl rfl (by decide) (by decide) (fun _ => rfl) hw (fun v12 ls hw hl => ?_)
      refine lv_goto (tgt := 5) hx hb (nq_d dX8_append_0_g (n := 29) rfl) (by decide) ?_
      exact hPself5 _ _ _ hw v12 v11 f10 rfl rfl rfl _ _ _ hP hD hS (lv_sub hl [1, 2, 0] rfl)
abbrev rmX8_byteAt : Room := { frames := 0, cells := 0, slots := 0, locals := 0 }
theorem cd_X8_byteAt : yX8_byteAt.cls = RX8 ∧ yX8_byteAt.cls ≠ "java/lang/invoke/MethodHandle" ∧ yX8_byteAt.cls ≠ "java/lang/invoke/VarHandle" ∧ (parseMethodDescriptor yX8_byteAt.desc).map (fun d => d.parameters.length) = some 1 := by decide +kernel
set_option maxHeartbeats 4000000 in
set_option maxRecDepth 100000 in
theorem ct_Reader_byteAt (l : Launch) (dC : Nat → ClassId) (dI : Nat → Nat → Nat) (cyB cyI cyJ cyZ : ClassId) (ar ar_text ar_draft : Nat) (sz : Nat) (r_length : Int32) (r_place : Int32) (r_failure : Int32) (r_at : Int32) (r_firstFigure : Int32) (r_toldBefore : Int32) (r_text : Nat → Int32) (x1 : Int32) (Q : Int → Prop) : Met l yX8_byteAt wsX8_byteAt rmX8_byteAt (va_Pc [.ref ar, .int x1] (cPre (dC, dI) vwCl (tyS cyB cyI cyJ cyZ) [(ar, .inr (8, [.ref ar_text, .int r_length, .int r_place, .int r_failure, .int r_at, .int r_firstFigure, .int r_toldBefore, .ref ar_draft])), (ar_text, .inl (cyB, 240, .inl r_text))] sz (nf_Reader_byteAt r_length.toInt (aI 240 r_text) x1.toInt Q))) (va_Qi (fun (r : Int32) (_ : Unit) => Q r.toInt ) (cPost (dC, dI) vwCl (fun _ : Unit => [(ar, .inr (8, [.ref ar_text, .int r_length, .int r_place, .int r_failure, .int r_at, .int r_firstFigure, .int r_toldBefore, .ref ar_draft])), (ar_text, .inl (cyB, 240, .inl r_text))]) (va_A [(ar, .inr (8, [.ref ar_text, .int r_length, .int r_place, .int r_failure, .int r_at, .int r_firstFigure, .int r_toldBefore, .ref ar_draft])), (ar_text, .inl (cyB, 240, .inl r_text))] sz)) (va_A [(ar, .inr (8, [.ref ar_text, .int r_length, .int r_place, .int r_failure, .int r_at, .int r_firstFigure, .int r_toldBefore, .ref ar_draft])), (ar_text, .inl (cyB, 240, .inl r_text))] sz)) 0 0 (va_A [(ar, .inr (8, [.ref ar_text, .int r_length, .int r_place, .int r_failure, .int r_at, .int r_firstFigure, .int r_toldBefore, .ref ar_draft])), (ar_text, .inl (cyB, 240, .inl r_text))] sz) := by
  refine Met.ofW (cc := cX8_byteAt) (maxL := 2) (ret := (some .int)) (by decide) rfl ?_
  intro p e s m args below meth c s₁ B hml hv
  obtain ⟨rfl, hsz, hP, hK, hD0, hNw, hw⟩ := hv
  have hx := B.exec
  have hb := B.bytes
  have hr := B.returns
  have hts := atoms_spec (ws := wsX8_byteAt) B.pre
  have hown : s.vm.findClass RX8 = some m.cls := findClass_of_methodNamed B.named
  have hlocks := B.notSynchronized
  subst hsz
  have hD := hD0.self (sz := s.heap.size)
  generalize hAe : va_A [(ar, .inr (8, [.ref ar_text, .int r_length, .int r_place, .int r_failure, .int r_at, .int r_firstFigure, .int r_toldBefore, .ref ar_draft])), (ar_text, .inl (cyB, 240, .inl r_text))] s.heap.size = A at hD ⊢
  have hA : ∀ q : Nat, s.heap.size ≤ q → A q := fun q h => by rw [← hAe]; exact Or.inr h
  have hS : va_S A s.heap s.heap [] := va_S.rf
  have hl := lv_entry ([.ref ar, .int x1]) (n := 2) (Nat.le_of_ble_eq_true rfl)
  rw [lg_entry_eq]
  generalize (lg_sl ([.ref ar, .int x1]) ++ List.replicate (2 - (lg_sl ([.ref ar, .int x1])).length) Slot.unset).toArray = ls at hl ⊢
  have hl : lv_has ls 2 [(0, .ref ar), (1, .int x1)] := hl
  refine gx_q (fun Q9 hQ => ?_)
  unfold nf_Reader_byteAt at hw
  have hi_X8 : ∀ w ∈ wsX80, w ∈ wsX8_byteAt := (sub_c (nq_m (n := 3) rfl) (sub_c (nq_m (n := 4) rfl) (sub_c (nq_m (n := 5) rfl) (sub_c (nq_m (n := 6) rfl) (sub_c (nq_m (n := 7) rfl) (sub_c (nq_m (n := 8) rfl) (sub_c (nq_m (n := 9) rfl) (sub_c (nq_m (n := 10) rfl) sub_n))))))))
  have hf15 : (Cond.fieldLink RX8 15 "CoatsHall$Reader" (TX8 1).2.1 (TX8 1).2.2.1).before ([.ref ar, .int x1] : List Value).toArray s = true := hts (.fieldLink RX8 15 "CoatsHall$Reader" "length" "I") (nq_m (n := 1) rfl)
  have hf9 : (Cond.fieldLink RX8 9 "CoatsHall$Reader" (TX8 0).2.1 (TX8 0).2.2.1).before ([.ref ar, .int x1] : List Value).toArray s = true := hts (.fieldLink RX8 9 "CoatsHall$Reader" "text" "[B") (nq_m (n := 2) rfl)
  refine lv_iload_n hx hb (nq_d dX8_byteAt_0_g (n := 0) rfl) rfl (lv_at hl 1 rfl) ?_
  refine gx_if_lt (tgt := 32) hx hb (nq_d dX8_byteAt_0_g (n := 1) rfl) (by decide) hw (fun hw => ?_) (fun hw => ?_)
  · refine lv_iconst (v := ((-1) : Int32)) hx hb (nq_d dX8_byteAt_0_g (n := 16) rfl) (by decide) ?_
    exact rt_i (A1 := A) hQ hx hb hr hlocks hP hD hS () [0, 1] rfl (by decide +kernel) hw (nq_d dX8_byteAt_0_g (n := 17) rfl)
  · refine lv_iload_n hx hb (nq_d dX8_byteAt_0_g (n := 2) rfl) rfl (lv_at hl 1 rfl) ?_
    refine lv_aload_n hx hb (nq_d dX8_byteAt_0_g (n := 3) rfl) rfl (lv_at hl 0 rfl) ?_
    refine va_get (D := (dC, dI)) (ci := 8) (v := .int r_length) (C := RX8) (T := TX8) (N := 8) hx hb hts hi_X8 hown hK hP 0 rfl rfl 1 (by decide) hf15 (fun _ h9 => h9) rfl (nq_d dX8_byteAt_0_g (n := 4) rfl) ?_
    refine gx_icmp_ge (tgt := 32) hx hb (nq_d dX8_byteAt_0_g (n := 5) rfl) (by decide) hw (fun hw => ?_) (fun hw => ?_)
    · refine lv_iconst (v := ((-1) : Int32)) hx hb (nq_d dX8_byteAt_0_g (n := 16) rfl) (by decide) ?_
      exact rt_i (A1 := A) hQ hx hb hr hlocks hP hD hS () [0, 1] rfl (by decide +kernel) hw (nq_d dX8_byteAt_0_g (n := 17) rfl)
    · refine lv_iload_n hx hb (nq_d dX8_byteAt_0_g (n := 6) rfl) rfl (lv_at hl 1 rfl) ?_
      refine lv_sipush (v := (240 : Int32)) hx hb (nq_d dX8_byteAt_0_g (n := 7) rfl) (by decide) ?_
      refine gx_icmp_ge (tgt := 32) hx hb (nq_d dX8_byteAt_0_g (n := 8) rfl) (by decide) hw (fun hw => ?_) (fun hw => ?_)
      · refine lv_iconst (v := ((-1) : Int32)) hx hb (nq_d dX8_byteAt_0_g (n := 16) rfl) (by decide) ?_
        exact rt_i (A1 := A) hQ hx hb hr hlocks hP hD hS () [0, 1] rfl (by decide +kernel) hw (nq_d dX8_byteAt_0_g (n := 17) rfl)
      · refine lv_aload_n hx hb (nq_d dX8_byteAt_0_g (n := 9) rfl) rfl (lv_at hl 0 rfl) ?_
        refine va_get (D := (dC, dI)) (ci := 8) (v := .ref ar_text) (C := RX8) (T := TX8) (N := 8) hx hb hts hi_X8 hown hK hP 0 rfl rfl 0 (by decide) hf9 (fun _ h9 => h9) rfl (nq_d dX8_byteAt_0_g (n := 10) rfl) ?_
        refine lv_iload_n hx hb (nq_d dX8_byteAt_0_g (n := 11) rfl) rfl (lv_at hl 1 rfl) ?_
        refine gx_bald hx hb hK hP 1 0 rfl rfl (nq_d dX8_byteAt_0_g (n := 12) rfl) hw (fun v1 hw => ?_)
        refine lv_sipush (v := (255 : Int32)) hx hb (nq_d dX8_byteAt_0_g (n := 13) rfl) (by decide) ?_
        refine gx_iand hx hb (nq_d dX8_byteAt_0_g (n := 14) rfl) hw (fun v2 hw => ?_)
        refine lv_goto (tgt := 33) hx hb (nq_d dX8_byteAt_0_g (n := 15) rfl) (by decide) ?_
        exact rt_i (A1 := A) hQ hx hb hr hlocks hP hD hS () [0, 1] rfl (by decide +kernel) hw (nq_d dX8_byteAt_0_g (n := 17) rfl)
abbrev rmX8_skipBlanks : Room := { frames := 1, cells := 0, slots := 0, locals := 21 }
theorem cd_X8_skipBlanks : yX8_skipBlanks.cls = RX8 ∧ yX8_skipBlanks.cls ≠ "java/lang/invoke/MethodHandle" ∧ yX8_skipBlanks.cls ≠ "java/lang/invoke/VarHandle" ∧ (parseMethodDescriptor yX8_skipBlanks.desc).map (fun d => d.parameters.length) = some 0 := by decide +kernel
set_option maxHeartbeats 4000000 in
set_option maxRecDepth 100000 in
theorem ct_Reader_skipBlanks (l : Launch) (dC : Nat → ClassId) (dI : Nat → Nat → Nat) (cyB cyI cyJ cyZ : ClassId) (ar ar_text ar_draft : Nat) (sz : Nat) (r_length : Int32) (r_place : Int32) (r_failure : Int32) (r_at : Int32) (r_firstFigure : Int32) (r_toldBefore : Int32) (r_text : Nat → Int32) (Q : Int → Prop) : Met l yX8_skipBlanks wsX8_skipBlanks rmX8_skipBlanks (va_Pc [.ref ar] (cPre (dC, dI) vwCl (tyS cyB cyI cyJ cyZ) [(ar, .inr (8, [.ref ar_text, .int r_length, .int r_place, .int r_failure, .int r_at, .int r_firstFigure, .int r_toldBefore, .ref ar_draft])), (ar_text, .inl (cyB, 240, .inl r_text))] sz (nf_Reader_skipBlanks r_length.toInt r_at.toInt (aI 240 r_text)  Q))) (va_Qv (fun (u : Int32) => Q u.toInt) (cPost (dC, dI) vwCl (fun u : Int32 => [(ar, .inr (8, [.ref ar_text, .int r_length, .int r_place, .int r_failure, .int u, .int r_firstFigure, .int r_toldBefore, .ref ar_draft])), (ar_text, .inl (cyB, 240, .inl r_text))]) (va_A [(ar, .inr (8, [.ref ar_text, .int r_length, .int r_place, .int r_failure, .int r_at, .int r_firstFigure, .int r_toldBefore, .ref ar_draft])), (ar_text, .inl (cyB, 240, .inl r_text))] sz)) (va_A [(ar, .inr (8, [.ref ar_text, .int r_length, .int r_place, .int r_failure, .int r_at, .int r_firstFigure, .int r_toldBefore, .ref ar_draft])), (ar_text, .inl (cyB, 240, .inl r_text))] sz)) 0 0 (va_A [(ar, .inr (8, [.ref ar_text, .int r_length, .int r_place, .int r_failure, .int r_at, .int r_firstFigure, .int r_toldBefore, .ref ar_draft])), (ar_text, .inl (cyB, 240, .inl r_text))] sz) := by
  refine Met.ofW (cc := cX8_skipBlanks) (maxL := 1) (ret := none) (by decide) rfl ?_
  intro p e s m args below meth c s₁ B hml hv
  obtain ⟨rfl, hsz, hP, hK, hD0, hNw, hw⟩ := hv
  have hx := B.exec
  have hb := B.bytes
  have hr := B.returns
  have hts := atoms_spec (ws := wsX8_skipBlanks) B.pre
  have hown : s.vm.findClass RX8 = some m.cls := findClass_of_methodNamed B.named
  have hlocks := B.notSynchronized
  subst hsz
  have hD := hD0.self (sz := s.heap.size)
  generalize hAe : va_A [(ar, .inr (8, [.ref ar_text, .int r_length, .int r_place, .int r_failure, .int r_at, .int r_firstFigure, .int r_toldBefore, .ref ar_draft])), (ar_text, .inl (cyB, 240, .inl r_text))] s.heap.size = A at hD ⊢
  have hA : ∀ q : Nat, s.heap.size ≤ q → A q := fun q h => by rw [← hAe]; exact Or.inr h
  have hS : va_S A s.heap s.heap [] := va_S.rf
  have hl := lv_entry ([.ref ar]) (n := 1) (Nat.le_of_ble_eq_true rfl)
  rw [lg_entry_eq]
  generalize (lg_sl ([.ref ar]) ++ List.replicate (1 - (lg_sl ([.ref ar])).length) Slot.unset).toArray = ls at hl ⊢
  have hl : lv_has ls 1 [(0, .ref ar)] := hl
  refine gx_q (fun Q9 hQ => ?_)
  unfold nf_Reader_skipBlanks at hw
  have hi_X8 : ∀ w ∈ wsX80, w ∈ wsX8_skipBlanks := (sub_c (nq_m (n := 9) rfl) (sub_c (nq_m (n := 10) rfl) (sub_c (nq_m (n := 11) rfl) (sub_c (nq_m (n := 12) rfl) (sub_c (nq_m (n := 13) rfl) (sub_c (nq_m (n := 14) rfl) (sub_c (nq_m (n := 15) rfl) (sub_c (nq_m (n := 16) rfl) sub_n))))))))
  have hf25 : (Cond.fieldLink RX8 25 "CoatsHall$Reader" (TX8 4).2.1 (TX8 4).2.2.1).before ([.ref ar] : List Value).toArray s = true := hts (.fieldLink RX8 25 "CoatsHall$Reader" "at" "I") (nq_m (n := 1) rfl)
  have hf15 : (Cond.fieldLink RX8 15 "CoatsHall$Reader" (TX8 1).2.1 (TX8 1).2.2.1).before ([.ref ar] : List Value).toArray s = true := hts (.fieldLink RX8 15 "CoatsHall$Reader" "length" "I") (nq_m (n := 2) rfl)
  refine lv_aload_n hx hb (nq_d dX8_skipBlanks_0_g (n := 0) rfl) rfl (lv_at hl 0 rfl) ?_
  refine va_get (D := (dC, dI)) (ci := 8) (v := .int r_at) (C := RX8) (T := TX8) (N := 8) hx hb hts hi_X8 hown hK hP 0 rfl rfl 4 (by decide) hf25 (fun _ h9 => h9) rfl (nq_d dX8_skipBlanks_0_g (n := 1) rfl) ?_
  refine lv_aload_n hx hb (nq_d dX8_skipBlanks_0_g (n := 2) rfl) rfl (lv_at hl 0 rfl) ?_
  refine va_get (D := (dC, dI)) (ci := 8) (v := .int r_length) (C := RX8) (T := TX8) (N := 8) hx hb hts hi_X8 hown hK hP 0 rfl rfl 1 (by decide) hf15 (fun _ h9 => h9) rfl (nq_d dX8_skipBlanks_0_g (n := 3) rfl) ?_
  refine gx_icmp_ge (tgt := 37) hx hb (nq_d dX8_skipBlanks_0_g (n := 4) rfl) (by decide) hw (fun hw => ?_) (fun hw => ?_)
  · exact rt_v (A1 := A) hQ hx hb hr hlocks hP hD hS r_at [0, 1] rfl (by decide +kernel) hw (nq_d dX8_skipBlanks_0_g (n := 18) rfl)
  · refine lv_aload_n hx hb (nq_d dX8_skipBlanks_0_g (n := 5) rfl) rfl (lv_at hl 0 rfl) ?_
    refine lv_aload_n hx hb (nq_d dX8_skipBlanks_0_g (n := 6) rfl) rfl (lv_at hl 0 rfl) ?_
    refine va_get (D := (dC, dI)) (ci := 8) (v := .int r_at) (C := RX8) (T := TX8) (N := 8) hx hb hts hi_X8 hown hK hP 0 rfl rfl 4 (by decide) hf25 (fun _ h9 => h9) rfl (nq_d dX8_skipBlanks_0_g (n := 7) rfl) ?_
    refine gx_ri (wr := []) (va_runV (As := [.int r_at]) (rest := []) ⟨hx, hb, hml, hown, hts⟩ (ct_Reader_byteAt l dC dI cyB cyI cyJ cyZ ar ar_text ar_draft _ r_length r_place r_failure r_at r_firstFigure r_toldBefore r_text r_at _) (cwV 1 hts gX8_skipBlanks_X8_byteAt rfl rfl rfl cd_X8_byteAt ⟨Nat.le_of_ble_eq_true rfl, Nat.le_of_ble_eq_true rfl⟩) (gx_preV hK hP hD hNw [0, 1] rfl (by decide +kernel) hw 0 (ci := 8) rfl rfl rfl) rfl rfl hl.1 rfl (lv_room (Nat.le_of_ble_eq_true rfl)) (nq_d dX8_skipBlanks_0_g (n := 8) rfl) ⟨Nat.zero_le _, Nat.zero_le _⟩) hP hD hS hA [0, 1] [] [0, 1] rfl rfl (by decide) (by decide) (by decide) (fun _ => [(ar, .inr (8, [.ref ar_text, .int r_length, .int r_place, .int r_failure, .int r_at, .int r_firstFigure, .int r_toldBefore, .ref ar_draft])), (ar_text, .inl (cyB, 240, .inl r_text))]) (fun _ => rfl) (fun r1 u H locs hw hP hD hS => ?_)
    try dsimp only at hw hP hD
    refine lv_bipush (v := (32 : Int32)) hx hb (nq_d dX8_skipBlanks_0_g (n := 9) rfl) (by decide) ?_
    refine gx_icmp_ne (tgt := 37) hx hb (nq_d dX8_skipBlanks_0_g (n := 10) rfl) (by decide) hw (fun hw => ?_) (fun hw => ?_)
    · exact rt_v (A1 := A) hQ hx hb hr hlocks hP hD hS r_at [0, 1] rfl (by decide +kernel) hw (nq_d dX8_skipBlanks_0_g (n := 18) rfl)
    · refine lv_aload_n hx hb (nq_d dX8_skipBlanks_0_g (n := 11) rfl) rfl (lv_at hl 0 rfl) ?_
      refine lv_dup hx hb (nq_d dX8_skipBlanks_0_g (n := 12) rfl) rfl ?_
      refine va_get (D := (dC, dI)) (ci := 8) (v := .int r_at) (C := RX8) (T := TX8) (N := 8) hx hb hts hi_X8 hown hK hP 0 rfl rfl 4 (by decide) hf25 (fun _ h9 => h9) rfl (nq_d dX8_skipBlanks_0_g (n := 13) rfl) ?_
      refine lv_iconst (v := (1 : Int32)) hx hb (nq_d dX8_skipBlanks_0_g (n := 14) rfl) (by decide) ?_
      refine gx_iadd hx hb (nq_d dX8_skipBlanks_0_g (n := 15) rfl) hw (fun v2 hw => ?_)
      refine gx_put (D := (dC, dI)) (ci := 8) (v := .int v2) (ty := .int) (C := RX8) (T := TX8) (N := 8) hx hb hts hi_X8 tyX8 tyX8_ok nmX8 hown hK hP hD hS 0 rfl rfl 4 (by decide) hf25 (fun _ h9 => h9) rfl (by decide +kernel) rfl rfl (Nat.le_of_ble_eq_true rfl) (nq_d dX8_skipBlanks_0_g (n := 16) rfl) [(ar, .inr (8, [.ref ar_text, .int r_length, .int r_place, .int r_failure, .int v2, .int r_firstFigure, .int r_toldBefore, .ref ar_draft])), (ar_text, .inl (cyB, 240, .inl r_text))] rfl (fun H locs hP hD hS => ?_)
      refine lv_goto (tgt := 0) hx hb (nq_d dX8_skipBlanks_0_g (n := 17) rfl) (by decide) ?_
      refine nlp1_el hw (fun X0_6 => ∀ (z3 : Int32), X0_6 = z3.toInt → ∀ (H : Heap) (locs : List Loc) (ls : Array Slot), va_P (dC, dI) vwCl [(ar, .inr (8, [.ref ar_text, .int r_length, .int r_place, .int r_failure, .int z3, .int r_firstFigure, .int r_toldBefore, .ref ar_draft])), (ar_text, .inl (cyB, 240, .inl r_text))] H → va_D A [(ar, .inr (8, [.ref ar_text, .int r_length, .int r_place, .int r_failure, .int z3, .int r_firstFigure, .int r_toldBefore, .ref ar_draft])), (ar_text, .inl (cyB, 240, .inl r_text))] → va_S A s.heap H locs → lv_has ls 1 [(0, .ref ar)] → W p l e (headSpec wsX8_skipBlanks rmX8_skipBlanks).room s m ([.ref ar] : List Value).toArray below meth c H locs 0 0 Q9 (F0 m 0 ls [])) (fun self4 hPself4 X0_6 hw z3 eX0_6 H locs ls hP hD hS hl => ?_) v2 rfl _ _ _ hP hD hS (lv_sub hl [0] rfl)
      subst eX0_6
      refine lv_aload_n hx hb (nq_d dX8_skipBlanks_0_g (n := 0) rfl) rfl (lv_at hl 0 rfl) ?_
      refine va_get (D := (dC, dI)) (ci := 8) (v := .int z3) (C := RX8) (T := TX8) (N := 8) hx hb hts hi_X8 hown hK hP 0 rfl rfl 4 (by decide) hf25 (fun _ h9 => h9) rfl (nq_d dX8_skipBlanks_0_g (n := 1) rfl) ?_
      refine lv_aload_n hx hb (nq_d dX8_skipBlanks_0_g (n := 2) rfl) rfl (lv_at hl 0 rfl) ?_
      refine va_get (D := (dC, dI)) (ci := 8) (v := .int r_length) (C := RX8) (T := TX8) (N := 8) hx hb hts hi_X8 hown hK hP 0 rfl rfl 1 (by decide) hf15 (fun _ h9 => h9) rfl (nq_d dX8_skipBlanks_0_g (n := 3) rfl) ?_
      refine gx_icmp_ge (tgt := 37) hx hb (nq_d dX8_skipBlanks_0_g (n := 4) rfl) (by decide) hw (fun hw => ?_) (fun hw => ?_)
      · exact rt_v (A1 := A) hQ hx hb hr hlocks hP hD hS z3 [0, 1] rfl (by decide +kernel) hw (nq_d dX8_skipBlanks_0_g (n := 18) rfl)
      · refine lv_aload_n hx hb (nq_d dX8_skipBlanks_0_g (n := 5) rfl) rfl (lv_at hl 0 rfl) ?_
        refine lv_aload_n hx hb (nq_d dX8_skipBlanks_0_g (n := 6) rfl) rfl (lv_at hl 0 rfl) ?_
        refine va_get (D := (dC, dI)) (ci := 8) (v := .int z3) (C := RX8) (T := TX8) (N := 8) hx hb hts hi_X8 hown hK hP 0 rfl rfl 4 (by decide) hf25 (fun _ h9 => h9) rfl (nq_d dX8_skipBlanks_0_g (n := 7) rfl) ?_
        refine gx_ri (wr := []) (va_runV (As := [.int z3]) (rest := []) ⟨hx, hb, hml, hown, hts⟩ (ct_Reader_byteAt l dC dI cyB cyI cyJ cyZ ar ar_text ar_draft _ r_length r_place r_failure z3 r_firstFigure r_toldBefore r_text z3 _) (cwV 1 hts gX8_skipBlanks_X8_byteAt rfl rfl rfl cd_X8_byteAt ⟨Nat.le_of_ble_eq_true rfl, Nat.le_of_ble_eq_true rfl⟩) (gx_preV hK hP hD hNw [0, 1] rfl (by decide +kernel) hw 0 (ci := 8) rfl rfl rfl) rfl rfl hl.1 rfl (lv_room (Nat.le_of_ble_eq_true rfl)) (nq_d dX8_skipBlanks_0_g (n := 8) rfl) ⟨Nat.zero_le _, Nat.zero_le _⟩) hP hD hS hA [0, 1] [] [0, 1] rfl rfl (by decide) (by decide) (by decide) (fun _ => [(ar, .inr (8, [.ref ar_text, .int r_length, .int r_place, .int r_failure, .int z3, .int r_firstFigure, .int r_toldBefore, .ref ar_draft])), (ar_text, .inl (cyB, 240, .inl r_text))]) (fun _ => rfl) (fun r5 u H locs hw hP hD hS => ?_)
        try dsimp only at hw hP hD
        refine lv_bipush (v := (32 : Int32)) hx hb (nq_d dX8_skipBlanks_0_g (n := 9) rfl) (by decide) ?_
        refine gx_icmp_ne (tgt := 37) hx hb (nq_d dX8_skipBlanks_0_g (n := 10) rfl) (by decide) hw (fun hw => ?_) (fun hw => ?_)
        · exact rt_v (A1 := A) hQ hx hb hr hlocks hP hD hS z3 [0, 1] rfl (by decide +kernel) hw (nq_d dX8_skipBlanks_0_g (n := 18) rfl)
        · refine lv_aload_n hx hb (nq_d dX8_skipBlanks_0_g (n := 11) rfl) rfl (lv_at hl 0 rfl) ?_
          refine lv_dup hx hb (nq_d dX8_skipBlanks_0_g (n := 12) rfl) rfl ?_
          refine va_get (D := (dC, dI)) (ci := 8) (v := .int z3) (C := RX8) (T := TX8) (N := 8) hx hb hts hi_X8 hown hK hP 0 rfl rfl 4 (by decide) hf25 (fun _ h9 => h9) rfl (nq_d dX8_skipBlanks_0_g (n := 13) rfl) ?_
          refine lv_iconst (v := (1 : Int32)) hx hb (nq_d dX8_skipBlanks_0_g (n := 14) rfl) (by decide) ?_
          refine gx_iadd hx hb (nq_d dX8_skipBlanks_0_g (n := 15) rfl) hw (fun v6 hw => ?_)
          refine gx_put (D := (dC, dI)) (ci := 8) (v := .int v6) (ty := .int) (C := RX8) (T := TX8) (N := 8) hx hb hts hi_X8 tyX8 tyX8_ok nmX8 hown hK hP hD hS 0 rfl rfl 4 (by decide) hf25 (fun _ h9 => h9) rfl (by decide +kernel) rfl rfl (Nat.le_of_ble_eq_true rfl) (nq_d dX8_skipBlanks_0_g (n := 16) rfl) [(ar, .inr (8, [.ref ar_text, .int r_length, .int r_place, .int r_failure, .int v6, .int r_firstFigure, .int r_toldBefore, .ref ar_draft])), (ar_text, .inl (cyB, 240, .inl r_text))] rfl (fun H locs hP hD hS => ?_)
          refine lv_goto (tgt := 0) hx hb (nq_d dX8_skipBlanks_0_g (n := 17) rfl) (by decide) ?_
          exact hPself4 _ hw v6 rfl _ _ _ hP hD hS (lv_sub hl [0] rfl)
abbrev rmX8_fail : Room := { frames := 0, cells := 0, slots := 0, locals := 0 }
theorem cd_X8_fail : yX8_fail.cls = RX8 ∧ yX8_fail.cls ≠ "java/lang/invoke/MethodHandle" ∧ yX8_fail.cls ≠ "java/lang/invoke/VarHandle" ∧ (parseMethodDescriptor yX8_fail.desc).map (fun d => d.parameters.length) = some 2 := by decide +kernel
set_option maxHeartbeats 4000000 in
set_option maxRecDepth 100000 in
theorem ct_Reader_fail (l : Launch) (dC : Nat → ClassId) (dI : Nat → Nat → Nat) (cyB cyI cyJ cyZ : ClassId) (ar ar_text ar_draft : Nat) (sz : Nat) (r_length : Int32) (r_place : Int32) (r_failure : Int32) (r_at : Int32) (r_firstFigure : Int32) (r_toldBefore : Int32) (x1 : Int32) (x2 : Int32) (Q : Int → Int → Prop) : Met l yX8_fail wsX8_fail rmX8_fail (va_Pc [.ref ar, .int x1, .int x2] (cPre (dC, dI) vwCl (tyS cyB cyI cyJ cyZ) [(ar, .inr (8, [.ref ar_text, .int r_length, .int r_place, .int r_failure, .int r_at, .int r_firstFigure, .int r_toldBefore, .ref ar_draft]))] sz (nf_Reader_fail r_place.toInt r_failure.toInt x1.toInt x2.toInt Q))) (va_Qv (fun (u : Int32 × Int32) => Q (u.1).toInt (u.2).toInt) (cPost (dC, dI) vwCl (fun u : Int32 × Int32 => [(ar, .inr (8, [.ref ar_text, .int r_length, .int u.1, .int u.2, .int r_at, .int r_firstFigure, .int r_toldBefore, .ref ar_draft]))]) (va_A [(ar, .inr (8, [.ref ar_text, .int r_length, .int r_place, .int r_failure, .int r_at, .int r_firstFigure, .int r_toldBefore, .ref ar_draft]))] sz)) (va_A [(ar, .inr (8, [.ref ar_text, .int r_length, .int r_place, .int r_failure, .int r_at, .int r_firstFigure, .int r_toldBefore, .ref ar_draft]))] sz)) 0 0 (va_A [(ar, .inr (8, [.ref ar_text, .int r_length, .int r_place, .int r_failure, .int r_at, .int r_firstFigure, .int r_toldBefore, .ref ar_draft]))] sz) := by
  refine Met.ofW (cc := cX8_fail) (maxL := 3) (ret := none) (by decide) rfl ?_
  intro p e s m args below meth c s₁ B hml hv
  obtain ⟨rfl, hsz, hP, hK, hD0, hNw, hw⟩ := hv
  have hx := B.exec
  have hb := B.bytes
  have hr := B.returns
  have hts := atoms_spec (ws := wsX8_fail) B.pre
  have hown : s.vm.findClass RX8 = some m.cls := findClass_of_methodNamed B.named
  have hlocks := B.notSynchronized
  subst hsz
  have hD := hD0.self (sz := s.heap.size)
  generalize hAe : va_A [(ar, .inr (8, [.ref ar_text, .int r_length, .int r_place, .int r_failure, .int r_at, .int r_firstFigure, .int r_toldBefore, .ref ar_draft]))] s.heap.size = A at hD ⊢
  have hA : ∀ q : Nat, s.heap.size ≤ q → A q := fun q h => by rw [← hAe]; exact Or.inr h
  have hS : va_S A s.heap s.heap [] := va_S.rf
  have hl := lv_entry ([.ref ar, .int x1, .int x2]) (n := 3) (Nat.le_of_ble_eq_true rfl)
  rw [lg_entry_eq]
  generalize (lg_sl ([.ref ar, .int x1, .int x2]) ++ List.replicate (3 - (lg_sl ([.ref ar, .int x1, .int x2])).length) Slot.unset).toArray = ls at hl ⊢
  have hl : lv_has ls 3 [(0, .ref ar), (1, .int x1), (2, .int x2)] := hl
  refine gx_q (fun Q9 hQ => ?_)
  unfold nf_Reader_fail at hw
  have hi_X8 : ∀ w ∈ wsX80, w ∈ wsX8_fail := (sub_c (nq_m (n := 3) rfl) (sub_c (nq_m (n := 4) rfl) (sub_c (nq_m (n := 5) rfl) (sub_c (nq_m (n := 6) rfl) (sub_c (nq_m (n := 7) rfl) (sub_c (nq_m (n := 8) rfl) (sub_c (nq_m (n := 9) rfl) (sub_c (nq_m (n := 10) rfl) sub_n))))))))
  have hf22 : (Cond.fieldLink RX8 22 "CoatsHall$Reader" (TX8 3).2.1 (TX8 3).2.2.1).before ([.ref ar, .int x1, .int x2] : List Value).toArray s = true := hts (.fieldLink RX8 22 "CoatsHall$Reader" "failure" "I") (nq_m (n := 1) rfl)
  have hf19 : (Cond.fieldLink RX8 19 "CoatsHall$Reader" (TX8 2).2.1 (TX8 2).2.2.1).before ([.ref ar, .int x1, .int x2] : List Value).toArray s = true := hts (.fieldLink RX8 19 "CoatsHall$Reader" "place" "I") (nq_m (n := 2) rfl)
  refine lv_aload_n hx hb (nq_d dX8_fail_0_g (n := 0) rfl) rfl (lv_at hl 0 rfl) ?_
  refine va_get (D := (dC, dI)) (ci := 8) (v := .int r_failure) (C := RX8) (T := TX8) (N := 8) hx hb hts hi_X8 hown hK hP 0 rfl rfl 3 (by decide) hf22 (fun _ h9 => h9) rfl (nq_d dX8_fail_0_g (n := 1) rfl) ?_
  refine gx_if_eq (tgt := 8) hx hb (nq_d dX8_fail_0_g (n := 2) rfl) (by decide) hw (fun hw => ?_) (fun hw => ?_)
  · refine lv_aload_n hx hb (nq_d dX8_fail_0_g (n := 4) rfl) rfl (lv_at hl 0 rfl) ?_
    refine lv_iload_n hx hb (nq_d dX8_fail_0_g (n := 5) rfl) rfl (lv_at hl 1 rfl) ?_
    refine gx_put (D := (dC, dI)) (ci := 8) (v := .int x1) (ty := .int) (C := RX8) (T := TX8) (N := 8) hx hb hts hi_X8 tyX8 tyX8_ok nmX8 hown hK hP hD hS 0 rfl rfl 3 (by decide) hf22 (fun _ h9 => h9) rfl (by decide +kernel) rfl rfl (Nat.le_of_ble_eq_true rfl) (nq_d dX8_fail_0_g (n := 6) rfl) [(ar, .inr (8, [.ref ar_text, .int r_length, .int r_place, .int x1, .int r_at, .int r_firstFigure, .int r_toldBefore, .ref ar_draft]))] rfl (fun H locs hP hD hS => ?_)
    refine lv_aload_n hx hb (nq_d dX8_fail_0_g (n := 7) rfl) rfl (lv_at hl 0 rfl) ?_
    refine lv_iload_n hx hb (nq_d dX8_fail_0_g (n := 8) rfl) rfl (lv_at hl 2 rfl) ?_
    refine gx_put (D := (dC, dI)) (ci := 8) (v := .int x2) (ty := .int) (C := RX8) (T := TX8) (N := 8) hx hb hts hi_X8 tyX8 tyX8_ok nmX8 hown hK hP hD hS 0 rfl rfl 2 (by decide) hf19 (fun _ h9 => h9) rfl (by decide +kernel) rfl rfl (Nat.le_of_ble_eq_true rfl) (nq_d dX8_fail_0_g (n := 9) rfl) [(ar, .inr (8, [.ref ar_text, .int r_length, .int x2, .int x1, .int r_at, .int r_firstFigure, .int r_toldBefore, .ref ar_draft]))] rfl (fun H locs hP hD hS => ?_)
    exact rt_v (A1 := A) hQ hx hb hr hlocks hP hD hS (x2, x1) [0] rfl (by decide +kernel) hw (nq_d dX8_fail_0_g (n := 10) rfl)
  · exact rt_v (A1 := A) hQ hx hb hr hlocks hP hD hS (r_place, r_failure) [0] rfl (by decide +kernel) hw (nq_d dX8_fail_0_g (n := 3) rfl)
abbrev rmX8_isFigure : Room := { frames := 1, cells := 0, slots := 0, locals := 22 }
theorem cd_X8_isFigure : yX8_isFigure.cls = RX8 ∧ yX8_isFigure.cls ≠ "java/lang/invoke/MethodHandle" ∧ yX8_isFigure.cls ≠ "java/lang/invoke/VarHandle" ∧ (parseMethodDescriptor yX8_isFigure.desc).map (fun d => d.parameters.length) = some 1 := by decide +kernel
set_option maxHeartbeats 4000000 in
set_option maxRecDepth 100000 in
theorem ct_Reader_isFigure (l : Launch) (dC : Nat → ClassId) (dI : Nat → Nat → Nat) (cyB cyI cyJ cyZ : ClassId) (ar ar_text ar_draft : Nat) (sz : Nat) (r_length : Int32) (r_place : Int32) (r_failure : Int32) (r_at : Int32) (r_firstFigure : Int32) (r_toldBefore : Int32) (r_text : Nat → Int32) (x1 : Int32) (Q : Int → Prop) : Met l yX8_isFigure wsX8_isFigure rmX8_isFigure (va_Pc [.ref ar, .int x1] (cPre (dC, dI) vwCl (tyS cyB cyI cyJ cyZ) [(ar, .inr (8, [.ref ar_text, .int r_length, .int r_place, .int r_failure, .int r_at, .int r_firstFigure, .int r_toldBefore, .ref ar_draft])), (ar_text, .inl (cyB, 240, .inl r_text))] sz (nf_Reader_isFigure r_length.toInt (aI 240 r_text) x1.toInt Q))) (va_Qi (fun (r : Int32) (_ : Unit) => Q r.toInt ) (cPost (dC, dI) vwCl (fun _ : Unit => [(ar, .inr (8, [.ref ar_text, .int r_length, .int r_place, .int r_failure, .int r_at, .int r_firstFigure, .int r_toldBefore, .ref ar_draft])), (ar_text, .inl (cyB, 240, .inl r_text))]) (va_A [(ar, .inr (8, [.ref ar_text, .int r_length, .int r_place, .int r_failure, .int r_at, .int r_firstFigure, .int r_toldBefore, .ref ar_draft])), (ar_text, .inl (cyB, 240, .inl r_text))] sz)) (va_A [(ar, .inr (8, [.ref ar_text, .int r_length, .int r_place, .int r_failure, .int r_at, .int r_firstFigure, .int r_toldBefore, .ref ar_draft])), (ar_text, .inl (cyB, 240, .inl r_text))] sz)) 0 0 (va_A [(ar, .inr (8, [.ref ar_text, .int r_length, .int r_place, .int r_failure, .int r_at, .int r_firstFigure, .int r_toldBefore, .ref ar_draft])), (ar_text, .inl (cyB, 240, .inl r_text))] sz) := by
  refine Met.ofW (cc := cX8_isFigure) (maxL := 2) (ret := (some .boolean)) (by decide) rfl ?_
  intro p e s m args below meth c s₁ B hml hv
  obtain ⟨rfl, hsz, hP, hK, hD0, hNw, hw⟩ := hv
  have hx := B.exec
  have hb := B.bytes
  have hr := B.returns
  have hts := atoms_spec (ws := wsX8_isFigure) B.pre
  have hown : s.vm.findClass RX8 = some m.cls := findClass_of_methodNamed B.named
  have hlocks := B.notSynchronized
  subst hsz
  have hD := hD0.self (sz := s.heap.size)
  generalize hAe : va_A [(ar, .inr (8, [.ref ar_text, .int r_length, .int r_place, .int r_failure, .int r_at, .int r_firstFigure, .int r_toldBefore, .ref ar_draft])), (ar_text, .inl (cyB, 240, .inl r_text))] s.heap.size = A at hD ⊢
  have hA : ∀ q : Nat, s.heap.size ≤ q → A q := fun q h => by rw [← hAe]; exact Or.inr h
  have hS : va_S A s.heap s.heap [] := va_S.rf
  have hl := lv_entry ([.ref ar, .int x1]) (n := 2) (Nat.le_of_ble_eq_true rfl)
  rw [lg_entry_eq]
  generalize (lg_sl ([.ref ar, .int x1]) ++ List.replicate (2 - (lg_sl ([.ref ar, .int x1])).length) Slot.unset).toArray = ls at hl ⊢
  have hl : lv_has ls 2 [(0, .ref ar), (1, .int x1)] := hl
  refine gx_q (fun Q9 hQ => ?_)
  unfold nf_Reader_isFigure at hw
  refine lv_aload_n hx hb (nq_d dX8_isFigure_0_g (n := 0) rfl) rfl (lv_at hl 0 rfl) ?_
  refine lv_iload_n hx hb (nq_d dX8_isFigure_0_g (n := 1) rfl) rfl (lv_at hl 1 rfl) ?_
  refine gx_ri (wr := []) (va_runV (As := [.int x1]) (rest := []) ⟨hx, hb, hml, hown, hts⟩ (ct_Reader_byteAt l dC dI cyB cyI cyJ cyZ ar ar_text ar_draft _ r_length r_place r_failure r_at r_firstFigure r_toldBefore r_text x1 _) (cwV 1 hts gX8_isFigure_X8_byteAt rfl rfl rfl cd_X8_byteAt ⟨Nat.le_of_ble_eq_true rfl, Nat.le_of_ble_eq_true rfl⟩) (gx_preV hK hP hD hNw [0, 1] rfl (by decide +kernel) hw 0 (ci := 8) rfl rfl rfl) rfl rfl hl.1 rfl (lv_room (Nat.le_of_ble_eq_true rfl)) (nq_d dX8_isFigure_0_g (n := 2) rfl) ⟨Nat.zero_le _, Nat.zero_le _⟩) hP hD hS hA [0, 1] [] [0, 1] rfl rfl (by decide) (by decide) (by decide) (fun _ => [(ar, .inr (8, [.ref ar_text, .int r_length, .int r_place, .int r_failure, .int r_at, .int r_firstFigure, .int r_toldBefore, .ref ar_draft])), (ar_text, .inl (cyB, 240, .inl r_text))]) (fun _ => rfl) (fun r1 u H locs hw hP hD hS => ?_)
  try dsimp only at hw hP hD
  refine lv_bipush (v := (48 : Int32)) hx hb (nq_d dX8_isFigure_0_g (n := 3) rfl) (by decide) ?_
  refine lv_bipush (v := (57 : Int32)) hx hb (nq_d dX8_isFigure_0_g (n := 4) rfl) (by decide) ?_
  refine gx_ri (wr := [(ar, .inr (8, [.ref ar_text, .int r_length, .int r_place, .int r_failure, .int r_at, .int r_firstFigure, .int r_toldBefore, .ref ar_draft])), (ar_text, .inl (cyB, 240, .inl r_text))]) (va_runSN (As := [.int r1, .int (48 : Int32), .int (57 : Int32)]) (rest := []) ⟨hx, hb, hml, hown, hts⟩ (ct_H_within l dC dI cyB cyI cyJ cyZ  _ r1 (48 : Int32) (57 : Int32) _) ⟨va_cnB 3 hts gX8_isFigure_X10_within_n119 rfl rfl rfl (nw_12 hNw) (hts (.initialized RX10) (nq_m (n := 9) rfl)) cd_X10_within.2 ⟨Nat.le_of_ble_eq_true rfl, Nat.le_of_ble_eq_true rfl⟩, hts (.static yX10_within) (nq_m (n := 8) rfl), trivial⟩ (gx_preS hK hP hD hNw [] rfl (by decide) hw) rfl rfl hl.1 rfl (lv_room (Nat.le_of_ble_eq_true rfl)) (nq_d dX8_isFigure_0_g (n := 5) rfl) ⟨Nat.zero_le _, Nat.zero_le _⟩) hP hD hS hA [] [0, 1] [0, 1] rfl rfl (by decide) (by decide) (by decide) (fun _ => [(ar, .inr (8, [.ref ar_text, .int r_length, .int r_place, .int r_failure, .int r_at, .int r_firstFigure, .int r_toldBefore, .ref ar_draft])), (ar_text, .inl (cyB, 240, .inl r_text))]) (fun _ => rfl) (fun r2 u H locs hw hP hD hS => ?_)
  try dsimp only at hw hP hD
  exact rt_z (A1 := A) hQ hx hb hr hlocks hP hD hS () [0, 1] rfl (by decide +kernel) hw (fun h => h) (nq_d dX8_isFigure_0_g (n := 6) rfl)
abbrev rmX8_needNumber : Room := { frames := 2, cells := 0, slots := 0, locals := 43 }
theorem cd_X8_needNumber : yX8_needNumber.cls = RX8 ∧ yX8_needNumber.cls ≠ "java/lang/invoke/MethodHandle" ∧ yX8_needNumber.cls ≠ "java/lang/invoke/VarHandle" ∧ (parseMethodDescriptor yX8_needNumber.desc).map (fun d => d.parameters.length) = some 2 := by decide +kernel
set_option maxHeartbeats 4000000 in
set_option maxRecDepth 100000 in
theorem ct_Reader_needNumber (l : Launch) (dC : Nat → ClassId) (dI : Nat → Nat → Nat) (cyB cyI cyJ cyZ : ClassId) (ar ar_text ar_draft : Nat) (sz : Nat) (r_length : Int32) (r_place : Int32) (r_failure : Int32) (r_at : Int32) (r_firstFigure : Int32) (r_toldBefore : Int32) (r_text : Nat → Int32) (x1 : Int32) (x2 : Int32) (Q : Int → Int → Int → Int → Int → Prop) : Met l yX8_needNumber wsX8_needNumber rmX8_needNumber (va_Pc [.ref ar, .int x1, .int x2] (cPre (dC, dI) vwCl (tyS cyB cyI cyJ cyZ) [(ar, .inr (8, [.ref ar_text, .int r_length, .int r_place, .int r_failure, .int r_at, .int r_firstFigure, .int r_toldBefore, .ref ar_draft])), (ar_text, .inl (cyB, 240, .inl r_text))] sz (nf_Reader_needNumber r_length.toInt r_place.toInt r_failure.toInt r_at.toInt r_firstFigure.toInt (aI 240 r_text) x1.toInt x2.toInt Q))) (va_Qi (fun (r : Int32) (u : Int32 × Int32 × Int32 × Int32) => Q r.toInt (u.1).toInt (u.2.1).toInt (u.2.2.1).toInt (u.2.2.2).toInt) (cPost (dC, dI) vwCl (fun u : Int32 × Int32 × Int32 × Int32 => [(ar, .inr (8, [.ref ar_text, .int r_length, .int u.1, .int u.2.1, .int u.2.2.1, .int u.2.2.2, .int r_toldBefore, .ref ar_draft])), (ar_text, .inl (cyB, 240, .inl r_text))]) (va_A [(ar, .inr (8, [.ref ar_text, .int r_length, .int r_place, .int r_failure, .int r_at, .int r_firstFigure, .int r_toldBefore, .ref ar_draft])), (ar_text, .inl (cyB, 240, .inl r_text))] sz)) (va_A [(ar, .inr (8, [.ref ar_text, .int r_length, .int r_place, .int r_failure, .int r_at, .int r_firstFigure, .int r_toldBefore, .ref ar_draft])), (ar_text, .inl (cyB, 240, .inl r_text))] sz)) 0 0 (va_A [(ar, .inr (8, [.ref ar_text, .int r_length, .int r_place, .int r_failure, .int r_at, .int r_firstFigure, .int r_toldBefore, .ref ar_draft])), (ar_text, .inl (cyB, 240, .inl r_text))] sz) := by
  refine Met.ofW (cc := cX8_needNumber) (maxL := 4) (ret := (some .int)) (by decide) rfl ?_
  intro p e s m args below meth c s₁ B hml hv
  obtain ⟨rfl, hsz, hP, hK, hD0, hNw, hw⟩ := hv
  have hx := B.exec
  have hb := B.bytes
  have hr := B.returns
  have hts := atoms_spec (ws := wsX8_needNumber) B.pre
  have hown : s.vm.findClass RX8 = some m.cls := findClass_of_methodNamed B.named
  have hlocks := B.notSynchronized
  subst hsz
  have hD := hD0.self (sz := s.heap.size)
  generalize hAe : va_A [(ar, .inr (8, [.ref ar_text, .int r_length, .int r_place, .int r_failure, .int r_at, .int r_firstFigure, .int r_toldBefore, .ref ar_draft])), (ar_text, .inl (cyB, 240, .inl r_text))] s.heap.size = A at hD ⊢
  have hA : ∀ q : Nat, s.heap.size ≤ q → A q := fun q h => by rw [← hAe]; exact Or.inr h
  have hS : va_S A s.heap s.heap [] := va_S.rf
  have hl := lv_entry ([.ref ar, .int x1, .int x2]) (n := 4) (Nat.le_of_ble_eq_true rfl)
  rw [lg_entry_eq]
  generalize (lg_sl ([.ref ar, .int x1, .int x2]) ++ List.replicate (4 - (lg_sl ([.ref ar, .int x1, .int x2])).length) Slot.unset).toArray = ls at hl ⊢
  have hl : lv_has ls 4 [(0, .ref ar), (1, .int x1), (2, .int x2)] := hl
  refine gx_q (fun Q9 hQ => ?_)
  unfold nf_Reader_needNumber at hw
  have hi_X8 : ∀ w ∈ wsX80, w ∈ wsX8_needNumber := (sub_c (nq_m (n := 27) rfl) (sub_c (nq_m (n := 28) rfl) (sub_c (nq_m (n := 29) rfl) (sub_c (nq_m (n := 30) rfl) (sub_c (nq_m (n := 31) rfl) (sub_c (nq_m (n := 32) rfl) (sub_c (nq_m (n := 33) rfl) (sub_c (nq_m (n := 34) rfl) sub_n))))))))
  have hf25 : (Cond.fieldLink RX8 25 "CoatsHall$Reader" (TX8 4).2.1 (TX8 4).2.2.1).before ([.ref ar, .int x1, .int x2] : List Value).toArray s = true := hts (.fieldLink RX8 25 "CoatsHall$Reader" "at" "I") (nq_m (n := 1) rfl)
  have hf28 : (Cond.fieldLink RX8 28 "CoatsHall$Reader" (TX8 5).2.1 (TX8 5).2.2.1).before ([.ref ar, .int x1, .int x2] : List Value).toArray s = true := hts (.fieldLink RX8 28 "CoatsHall$Reader" "firstFigure" "I") (nq_m (n := 2) rfl)
  have hf15 : (Cond.fieldLink RX8 15 "CoatsHall$Reader" (TX8 1).2.1 (TX8 1).2.2.1).before ([.ref ar, .int x1, .int x2] : List Value).toArray s = true := hts (.fieldLink RX8 15 "CoatsHall$Reader" "length" "I") (nq_m (n := 3) rfl)
  refine lv_aload_n hx hb (nq_d dX8_needNumber_0_g (n := 0) rfl) rfl (lv_at hl 0 rfl) ?_
  refine gx_rv (wr := []) (va_runV (As := []) (rest := []) ⟨hx, hb, hml, hown, hts⟩ (ct_Reader_skipBlanks l dC dI cyB cyI cyJ cyZ ar ar_text ar_draft _ r_length r_place r_failure r_at r_firstFigure r_toldBefore r_text _) (cwV 0 hts gX8_needNumber_X8_skipBlanks rfl rfl rfl cd_X8_skipBlanks ⟨Nat.le_of_ble_eq_true rfl, Nat.le_of_ble_eq_true rfl⟩) (gx_preV hK hP hD hNw [0, 1] rfl (by decide +kernel) hw 0 (ci := 8) rfl rfl rfl) rfl rfl hl.1 rfl (lv_room (Nat.le_of_ble_eq_true rfl)) (nq_d dX8_needNumber_0_g (n := 1) rfl) ⟨Nat.zero_le _, Nat.zero_le _⟩) hP hD hS hA [0, 1] [] [0, 1] rfl rfl (by decide) (by decide) (by decide) (fun u => [(ar, .inr (8, [.ref ar_text, .int r_length, .int r_place, .int r_failure, .int u, .int r_firstFigure, .int r_toldBefore, .ref ar_draft])), (ar_text, .inl (cyB, 240, .inl r_text))]) (fun _ => rfl) (fun u H locs hw hP hD hS => ?_)
  obtain ⟨z1, rfl⟩ : ∃ z, z = u := ⟨_, rfl⟩
  try dsimp only at hw hP hD
  refine lv_aload_n hx hb (nq_d dX8_needNumber_0_g (n := 2) rfl) rfl (lv_at hl 0 rfl) ?_
  refine lv_aload_n hx hb (nq_d dX8_needNumber_0_g (n := 3) rfl) rfl (lv_at hl 0 rfl) ?_
  refine va_get (D := (dC, dI)) (ci := 8) (v := .int z1) (C := RX8) (T := TX8) (N := 8) hx hb hts hi_X8 hown hK hP 0 rfl rfl 4 (by decide) hf25 (fun _ h9 => h9) rfl (nq_d dX8_needNumber_0_g (n := 4) rfl) ?_
  refine gx_put (D := (dC, dI)) (ci := 8) (v := .int z1) (ty := .int) (C := RX8) (T := TX8) (N := 8) hx hb hts hi_X8 tyX8 tyX8_ok nmX8 hown hK hP hD hS 0 rfl rfl 5 (by decide) hf28 (fun _ h9 => h9) rfl (by decide +kernel) rfl rfl (Nat.le_of_ble_eq_true rfl) (nq_d dX8_needNumber_0_g (n := 5) rfl) [(ar, .inr (8, [.ref ar_text, .int r_length, .int r_place, .int r_failure, .int z1, .int z1, .int r_toldBefore, .ref ar_draft])), (ar_text, .inl (cyB, 240, .inl r_text))] rfl (fun H locs hP hD hS => ?_)
  refine lv_iconst (v := (0 : Int32)) hx hb (nq_d dX8_needNumber_0_g (n := 6) rfl) (by decide) ?_
  refine lv_istore_n (lv' := [(3, .int (0 : Int32)), (0, .ref ar), (1, .int x1), (2, .int x2)]) hx hb (nq_d dX8_needNumber_0_g (n := 7) rfl) rfl hl (by decide) rfl (fun ls hl => ?_)
  refine nlp2_el hw (fun X0_21 X1_21 => ∀ (l3_2 : Int32) (z3 : Int32), X0_21 = l3_2.toInt → X1_21 = z3.toInt → ∀ (H : Heap) (locs : List Loc) (ls : Array Slot), va_P (dC, dI) vwCl [(ar, .inr (8, [.ref ar_text, .int r_length, .int r_place, .int r_failure, .int z3, .int z1, .int r_toldBefore, .ref ar_draft])), (ar_text, .inl (cyB, 240, .inl r_text))] H → va_D A [(ar, .inr (8, [.ref ar_text, .int r_length, .int r_place, .int r_failure, .int z3, .int z1, .int r_toldBefore, .ref ar_draft])), (ar_text, .inl (cyB, 240, .inl r_text))] → va_S A s.heap H locs → lv_has ls 4 [(0, .ref ar), (1, .int x1), (2, .int x2), (3, .int l3_2)] → W p l e (headSpec wsX8_needNumber rmX8_needNumber).room s m ([.ref ar, .int x1, .int x2] : List Value).toArray below meth c H locs 0 0 Q9 (F0 m 14 ls [])) (fun self4 hPself4 X0_21 X1_21 hw l3_2 z3 eX0_21 eX1_21 H locs ls hP hD hS hl => ?_) (0 : Int32) z1 rfl rfl _ _ _ hP hD hS (lv_sub hl [1, 2, 3, 0] rfl)
  subst eX0_21
  subst eX1_21
  refine lv_aload_n hx hb (nq_d dX8_needNumber_0_g (n := 8) rfl) rfl (lv_at hl 0 rfl) ?_
  refine va_get (D := (dC, dI)) (ci := 8) (v := .int z3) (C := RX8) (T := TX8) (N := 8) hx hb hts hi_X8 hown hK hP 0 rfl rfl 4 (by decide) hf25 (fun _ h9 => h9) rfl (nq_d dX8_needNumber_0_g (n := 9) rfl) ?_
  refine lv_aload_n hx hb (nq_d dX8_needNumber_0_g (n := 10) rfl) rfl (lv_at hl 0 rfl) ?_
  refine va_get (D := (dC, dI)) (ci := 8) (v := .int r_length) (C := RX8) (T := TX8) (N := 8) hx hb hts hi_X8 hown hK hP 0 rfl rfl 1 (by decide) hf15 (fun _ h9 => h9) rfl (nq_d dX8_needNumber_0_g (n := 11) rfl) ?_
  refine jn0_el hw (fun j5 hj5 hw => ?_)
  have Jj5 : ∀  (H : Heap) (locs : List Loc) (ls : Array Slot), va_P (dC, dI) vwCl [(ar, .inr (8, [.ref ar_text, .int r_length, .int r_place, .int r_failure, .int z3, .int z1, .int r_toldBefore, .ref ar_draft])), (ar_text, .inl (cyB, 240, .inl r_text))] H → va_D A [(ar, .inr (8, [.ref ar_text, .int r_length, .int r_place, .int r_failure, .int z3, .int z1, .int r_toldBefore, .ref ar_draft])), (ar_text, .inl (cyB, 240, .inl r_text))] → va_S A s.heap H locs → lv_has ls 4 [(0, .ref ar), (1, .int x1), (2, .int x2), (3, .int l3_2)] → j5  → W p l e (headSpec wsX8_needNumber rmX8_needNumber).room s m ([.ref ar, .int x1, .int x2] : List Value).toArray below meth c H locs 0 0 Q9 (F0 m 79 ls []) := by
    intro  H locs ls hP hD hS hl hw
    have hw := hj5  hw
    refine lv_aload_n hx hb (nq_d dX8_needNumber_72_g (n := 3) rfl) rfl (lv_at hl 0 rfl) ?_
    refine va_get (D := (dC, dI)) (ci := 8) (v := .int z3) (C := RX8) (T := TX8) (N := 8) hx hb hts hi_X8 hown hK hP 0 rfl rfl 4 (by decide) hf25 (fun _ h9 => h9) rfl (nq_d dX8_needNumber_72_g (n := 4) rfl) ?_
    refine lv_aload_n hx hb (nq_d dX8_needNumber_72_g (n := 5) rfl) rfl (lv_at hl 0 rfl) ?_
    refine va_get (D := (dC, dI)) (ci := 8) (v := .int z1) (C := RX8) (T := TX8) (N := 8) hx hb hts hi_X8 hown hK hP 0 rfl rfl 5 (by decide) hf28 (fun _ h9 => h9) rfl (nq_d dX8_needNumber_72_g (n := 6) rfl) ?_
    refine gx_icmp_ne (tgt := 102) hx hb (nq_d dX8_needNumber_72_g (n := 7) rfl) (by decide) hw (fun hw => ?_) (fun hw => ?_)
    · refine lv_aload_n hx hb (nq_d dX8_needNumber_72_g (n := 14) rfl) rfl (lv_at hl 0 rfl) ?_
      refine va_get (D := (dC, dI)) (ci := 8) (v := .int z3) (C := RX8) (T := TX8) (N := 8) hx hb hts hi_X8 hown hK hP 0 rfl rfl 4 (by decide) hf25 (fun _ h9 => h9) rfl (nq_d dX8_needNumber_72_g (n := 15) rfl) ?_
      refine lv_aload_n hx hb (nq_d dX8_needNumber_72_g (n := 16) rfl) rfl (lv_at hl 0 rfl) ?_
      refine va_get (D := (dC, dI)) (ci := 8) (v := .int z1) (C := RX8) (T := TX8) (N := 8) hx hb hts hi_X8 hown hK hP 0 rfl rfl 5 (by decide) hf28 (fun _ h9 => h9) rfl (nq_d dX8_needNumber_72_g (n := 17) rfl) ?_
      refine gx_isub hx hb (nq_d dX8_needNumber_72_g (n := 18) rfl) hw (fun v6 hw => ?_)
      refine lv_iconst (v := (3 : Int32)) hx hb (nq_d dX8_needNumber_72_g (n := 19) rfl) (by decide) ?_
      refine jn0_el hw (fun j7 hj7 hw => ?_)
      have Jj7 : ∀  (H : Heap) (locs : List Loc) (ls : Array Slot), va_P (dC, dI) vwCl [(ar, .inr (8, [.ref ar_text, .int r_length, .int r_place, .int r_failure, .int z3, .int z1, .int r_toldBefore, .ref ar_draft])), (ar_text, .inl (cyB, 240, .inl r_text))] H → va_D A [(ar, .inr (8, [.ref ar_text, .int r_length, .int r_place, .int r_failure, .int z3, .int z1, .int r_toldBefore, .ref ar_draft])), (ar_text, .inl (cyB, 240, .inl r_text))] → va_S A s.heap H locs → lv_has ls 4 [(0, .ref ar), (3, .int l3_2)] → j7  → W p l e (headSpec wsX8_needNumber rmX8_needNumber).room s m ([.ref ar, .int x1, .int x2] : List Value).toArray below meth c H locs 0 0 Q9 (F0 m 124 ls []) := by
        intro  H locs ls hP hD hS hl hw
        have hw := hj7  hw
        refine lv_aload_n hx hb (nq_d dX8_needNumber_72_g (n := 26) rfl) rfl (lv_at hl 0 rfl) ?_
        refine lv_iconst (v := (2 : Int32)) hx hb (nq_d dX8_needNumber_72_g (n := 27) rfl) (by decide) ?_
        refine lv_aload_n hx hb (nq_d dX8_needNumber_72_g (n := 28) rfl) rfl (lv_at hl 0 rfl) ?_
        refine va_get (D := (dC, dI)) (ci := 8) (v := .int z1) (C := RX8) (T := TX8) (N := 8) hx hb hts hi_X8 hown hK hP 0 rfl rfl 5 (by decide) hf28 (fun _ h9 => h9) rfl (nq_d dX8_needNumber_72_g (n := 29) rfl) ?_
        refine gx_rv (wr := [(ar_text, .inl (cyB, 240, .inl r_text))]) (va_runV (As := [.int (2 : Int32), .int z1]) (rest := []) ⟨hx, hb, hml, hown, hts⟩ (ct_Reader_fail l dC dI cyB cyI cyJ cyZ ar ar_text ar_draft _ r_length r_place r_failure z3 z1 r_toldBefore (2 : Int32) z1 _) (cwV 2 hts gX8_needNumber_X8_fail rfl rfl rfl cd_X8_fail ⟨Nat.le_of_ble_eq_true rfl, Nat.le_of_ble_eq_true rfl⟩) (gx_preV hK hP hD hNw [0] rfl (by decide +kernel) hw 0 (ci := 8) rfl rfl rfl) rfl rfl hl.1 rfl (lv_room (Nat.le_of_ble_eq_true rfl)) (nq_d dX8_needNumber_72_g (n := 30) rfl) ⟨Nat.zero_le _, Nat.zero_le _⟩) hP hD hS hA [0] [1] [1, 0] rfl rfl (by decide) (by decide) (by decide) (fun u => [(ar, .inr (8, [.ref ar_text, .int r_length, .int (u.1), .int (u.2), .int z3, .int z1, .int r_toldBefore, .ref ar_draft])), (ar_text, .inl (cyB, 240, .inl r_text))]) (fun _ => rfl) (fun u H locs hw hP hD hS => ?_)
        obtain ⟨z8, z9⟩ := u
        try dsimp only at hw hP hD
        refine lv_iload_n hx hb (nq_d dX8_needNumber_72_g (n := 31) rfl) rfl (lv_at hl 1 rfl) ?_
        exact rt_i (A1 := A) hQ hx hb hr hlocks hP hD hS (z8, z9, z3, z1) [0, 1] rfl (by decide +kernel) hw (nq_d dX8_needNumber_72_g (n := 32) rfl)
      refine gx_icmp_gt (tgt := 124) hx hb (nq_d dX8_needNumber_72_g (n := 20) rfl) (by decide) hw (fun hw => ?_) (fun hw => ?_)
      · exact Jj7  _ _ _ hP hD hS (lv_sub hl [0, 3] rfl) hw
      · refine lv_iload_n hx hb (nq_d dX8_needNumber_72_g (n := 21) rfl) rfl (lv_at hl 3 rfl) ?_
        refine lv_iload_n hx hb (nq_d dX8_needNumber_72_g (n := 22) rfl) rfl (lv_at hl 1 rfl) ?_
        refine lv_iload_n hx hb (nq_d dX8_needNumber_72_g (n := 23) rfl) rfl (lv_at hl 2 rfl) ?_
        refine gx_ri (wr := [(ar, .inr (8, [.ref ar_text, .int r_length, .int r_place, .int r_failure, .int z3, .int z1, .int r_toldBefore, .ref ar_draft])), (ar_text, .inl (cyB, 240, .inl r_text))]) (va_runSN (As := [.int l3_2, .int x1, .int x2]) (rest := []) ⟨hx, hb, hml, hown, hts⟩ (ct_H_within l dC dI cyB cyI cyJ cyZ  _ l3_2 x1 x2 _) ⟨va_cnB 3 hts gX8_needNumber_X10_within_n119 rfl rfl rfl (nw_12 hNw) (hts (.initialized RX10) (nq_m (n := 19) rfl)) cd_X10_within.2 ⟨Nat.le_of_ble_eq_true rfl, Nat.le_of_ble_eq_true rfl⟩, hts (.static yX10_within) (nq_m (n := 18) rfl), trivial⟩ (gx_preS hK hP hD hNw [] rfl (by decide) hw) rfl rfl hl.1 rfl (lv_room (Nat.le_of_ble_eq_true rfl)) (nq_d dX8_needNumber_72_g (n := 24) rfl) ⟨Nat.zero_le _, Nat.zero_le _⟩) hP hD hS hA [] [0, 1] [0, 1] rfl rfl (by decide) (by decide) (by decide) (fun _ => [(ar, .inr (8, [.ref ar_text, .int r_length, .int r_place, .int r_failure, .int z3, .int z1, .int r_toldBefore, .ref ar_draft])), (ar_text, .inl (cyB, 240, .inl r_text))]) (fun _ => rfl) (fun r10 u H locs hw hP hD hS => ?_)
        try dsimp only at hw hP hD
        refine gx_if_ne (tgt := 133) hx hb (nq_d dX8_needNumber_72_g (n := 25) rfl) (by decide) hw (fun hw => ?_) (fun hw => ?_)
        · refine lv_iload_n hx hb (nq_d dX8_needNumber_72_g (n := 31) rfl) rfl (lv_at hl 3 rfl) ?_
          exact rt_i (A1 := A) hQ hx hb hr hlocks hP hD hS (r_place, r_failure, z3, z1) [0, 1] rfl (by decide +kernel) hw (nq_d dX8_needNumber_72_g (n := 32) rfl)
        · exact Jj7  _ _ _ hP hD hS (lv_sub hl [0, 3] rfl) hw
    · refine lv_aload_n hx hb (nq_d dX8_needNumber_72_g (n := 8) rfl) rfl (lv_at hl 0 rfl) ?_
      refine lv_iconst (v := (1 : Int32)) hx hb (nq_d dX8_needNumber_72_g (n := 9) rfl) (by decide) ?_
      refine lv_aload_n hx hb (nq_d dX8_needNumber_72_g (n := 10) rfl) rfl (lv_at hl 0 rfl) ?_
      refine va_get (D := (dC, dI)) (ci := 8) (v := .int z1) (C := RX8) (T := TX8) (N := 8) hx hb hts hi_X8 hown hK hP 0 rfl rfl 5 (by decide) hf28 (fun _ h9 => h9) rfl (nq_d dX8_needNumber_72_g (n := 11) rfl) ?_
      refine gx_rv (wr := [(ar_text, .inl (cyB, 240, .inl r_text))]) (va_runV (As := [.int (1 : Int32), .int z1]) (rest := []) ⟨hx, hb, hml, hown, hts⟩ (ct_Reader_fail l dC dI cyB cyI cyJ cyZ ar ar_text ar_draft _ r_length r_place r_failure z3 z1 r_toldBefore (1 : Int32) z1 _) (cwV 2 hts gX8_needNumber_X8_fail rfl rfl rfl cd_X8_fail ⟨Nat.le_of_ble_eq_true rfl, Nat.le_of_ble_eq_true rfl⟩) (gx_preV hK hP hD hNw [0] rfl (by decide +kernel) hw 0 (ci := 8) rfl rfl rfl) rfl rfl hl.1 rfl (lv_room (Nat.le_of_ble_eq_true rfl)) (nq_d dX8_needNumber_72_g (n := 12) rfl) ⟨Nat.zero_le _, Nat.zero_le _⟩) hP hD hS hA [0] [1] [1, 0] rfl rfl (by decide) (by decide) (by decide) (fun u => [(ar, .inr (8, [.ref ar_text, .int r_length, .int (u.1), .int (u.2), .int z3, .int z1, .int r_toldBefore, .ref ar_draft])), (ar_text, .inl (cyB, 240, .inl r_text))]) (fun _ => rfl) (fun u H locs hw hP hD hS => ?_)
      obtain ⟨z11, z12⟩ := u
      try dsimp only at hw hP hD
      refine lv_goto (tgt := 133) hx hb (nq_d dX8_needNumber_72_g (n := 13) rfl) (by decide) ?_
      refine lv_iload_n hx hb (nq_d dX8_needNumber_72_g (n := 31) rfl) rfl (lv_at hl 3 rfl) ?_
      exact rt_i (A1 := A) hQ hx hb hr hlocks hP hD hS (z11, z12, z3, z1) [0, 1] rfl (by decide +kernel) hw (nq_d dX8_needNumber_72_g (n := 32) rfl)
  refine gx_icmp_ge (tgt := 79) hx hb (nq_d dX8_needNumber_0_g (n := 12) rfl) (by decide) hw (fun hw => ?_) (fun hw => ?_)
  · exact Jj5  _ _ _ hP hD hS (lv_sub hl [0, 1, 2, 3] rfl) hw
  · refine lv_aload_n hx hb (nq_d dX8_needNumber_0_g (n := 13) rfl) rfl (lv_at hl 0 rfl) ?_
    refine lv_aload_n hx hb (nq_d dX8_needNumber_0_g (n := 14) rfl) rfl (lv_at hl 0 rfl) ?_
    refine va_get (D := (dC, dI)) (ci := 8) (v := .int z3) (C := RX8) (T := TX8) (N := 8) hx hb hts hi_X8 hown hK hP 0 rfl rfl 4 (by decide) hf25 (fun _ h9 => h9) rfl (nq_d dX8_needNumber_0_g (n := 15) rfl) ?_
    refine gx_ri (wr := []) (va_runV (As := [.int z3]) (rest := []) ⟨hx, hb, hml, hown, hts⟩ (ct_Reader_isFigure l dC dI cyB cyI cyJ cyZ ar ar_text ar_draft _ r_length r_place r_failure z3 z1 r_toldBefore r_text z3 _) (cwV 1 hts gX8_needNumber_X8_isFigure rfl rfl rfl cd_X8_isFigure ⟨Nat.le_of_ble_eq_true rfl, Nat.le_of_ble_eq_true rfl⟩) (gx_preV hK hP hD hNw [0, 1] rfl (by decide +kernel) hw 0 (ci := 8) rfl rfl rfl) rfl rfl hl.1 rfl (lv_room (Nat.le_of_ble_eq_true rfl)) (nq_d dX8_needNumber_0_g (n := 16) rfl) ⟨Nat.zero_le _, Nat.zero_le _⟩) hP hD hS hA [0, 1] [] [0, 1] rfl rfl (by decide) (by decide) (by decide) (fun _ => [(ar, .inr (8, [.ref ar_text, .int r_length, .int r_place, .int r_failure, .int z3, .int z1, .int r_toldBefore, .ref ar_draft])), (ar_text, .inl (cyB, 240, .inl r_text))]) (fun _ => rfl) (fun r13 u H locs hw hP hD hS => ?_)
    try dsimp only at hw hP hD
    refine gx_if_eq (tgt := 79) hx hb (nq_d dX8_needNumber_0_g (n := 17) rfl) (by decide) hw (fun hw => ?_) (fun hw => ?_)
    · exact Jj5  _ _ _ hP hD hS (lv_sub hl [0, 1, 2, 3] rfl) hw
    · refine lv_aload_n hx hb (nq_d dX8_needNumber_0_g (n := 18) rfl) rfl (lv_at hl 0 rfl) ?_
      refine va_get (D := (dC, dI)) (ci := 8) (v := .int z3) (C := RX8) (T := TX8) (N := 8) hx hb hts hi_X8 hown hK hP 0 rfl rfl 4 (by decide) hf25 (fun _ h9 => h9) rfl (nq_d dX8_needNumber_0_g (n := 19) rfl) ?_
      refine lv_aload_n hx hb (nq_d dX8_needNumber_0_g (n := 20) rfl) rfl (lv_at hl 0 rfl) ?_
      refine va_get (D := (dC, dI)) (ci := 8) (v := .int z1) (C := RX8) (T := TX8) (N := 8) hx hb hts hi_X8 hown hK hP 0 rfl rfl 5 (by decide) hf28 (fun _ h9 => h9) rfl (nq_d dX8_needNumber_0_g (n := 21) rfl) ?_
      refine gx_isub hx hb (nq_d dX8_needNumber_0_g (n := 22) rfl) hw (fun v14 hw => ?_)
      refine lv_iconst (v := (3 : Int32)) hx hb (nq_d dX8_needNumber_0_g (n := 23) rfl) (by decide) ?_
      refine jn1_el hw (fun j16 hj16 hw => ?_)
      have Jj16 : ∀ (l3_15 : Int32) (H : Heap) (locs : List Loc) (ls : Array Slot), va_P (dC, dI) vwCl [(ar, .inr (8, [.ref ar_text, .int r_length, .int r_place, .int r_failure, .int z3, .int z1, .int r_toldBefore, .ref ar_draft])), (ar_text, .inl (cyB, 240, .inl r_text))] H → va_D A [(ar, .inr (8, [.ref ar_text, .int r_length, .int r_place, .int r_failure, .int z3, .int z1, .int r_toldBefore, .ref ar_draft])), (ar_text, .inl (cyB, 240, .inl r_text))] → va_S A s.heap H locs → lv_has ls 4 [(0, .ref ar), (1, .int x1), (2, .int x2), (3, .int l3_15)] → j16 l3_15.toInt → W p l e (headSpec wsX8_needNumber rmX8_needNumber).room s m ([.ref ar, .int x1, .int x2] : List Value).toArray below meth c H locs 0 0 Q9 (F0 m 66 ls []) := by
        intro l3_15 H locs ls hP hD hS hl hw
        have hw := hj16 _ hw
        refine lv_aload_n hx hb (nq_d dX8_needNumber_0_g (n := 36) rfl) rfl (lv_at hl 0 rfl) ?_
        refine lv_dup hx hb (nq_d dX8_needNumber_0_g (n := 37) rfl) rfl ?_
        refine va_get (D := (dC, dI)) (ci := 8) (v := .int z3) (C := RX8) (T := TX8) (N := 8) hx hb hts hi_X8 hown hK hP 0 rfl rfl 4 (by decide) hf25 (fun _ h9 => h9) rfl (nq_d dX8_needNumber_0_g (n := 38) rfl) ?_
        refine lv_iconst (v := (1 : Int32)) hx hb (nq_d dX8_needNumber_0_g (n := 39) rfl) (by decide) ?_
        refine gx_iadd hx hb (nq_d dX8_needNumber_72_g (n := 0) rfl) hw (fun v17 hw => ?_)
        refine gx_put (D := (dC, dI)) (ci := 8) (v := .int v17) (ty := .int) (C := RX8) (T := TX8) (N := 8) hx hb hts hi_X8 tyX8 tyX8_ok nmX8 hown hK hP hD hS 0 rfl rfl 4 (by decide) hf25 (fun _ h9 => h9) rfl (by decide +kernel) rfl rfl (Nat.le_of_ble_eq_true rfl) (nq_d dX8_needNumber_72_g (n := 1) rfl) [(ar, .inr (8, [.ref ar_text, .int r_length, .int r_place, .int r_failure, .int v17, .int z1, .int r_toldBefore, .ref ar_draft])), (ar_text, .inl (cyB, 240, .inl r_text))] rfl (fun H locs hP hD hS => ?_)
        refine lv_goto (tgt := 14) hx hb (nq_d dX8_needNumber_72_g (n := 2) rfl) (by decide) ?_
        exact hPself4 _ _ hw l3_15 v17 rfl rfl _ _ _ hP hD hS (lv_sub hl [0, 1, 2, 3] rfl)
      refine gx_icmp_ge (tgt := 66) hx hb (nq_d dX8_needNumber_0_g (n := 24) rfl) (by decide) hw (fun hw => ?_) (fun hw => ?_)
      · exact Jj16 l3_2 _ _ _ hP hD hS (lv_sub hl [0, 1, 2, 3] rfl) hw
      · refine lv_iload_n hx hb (nq_d dX8_needNumber_0_g (n := 25) rfl) rfl (lv_at hl 3 rfl) ?_
        refine lv_bipush (v := (10 : Int32)) hx hb (nq_d dX8_needNumber_0_g (n := 26) rfl) (by decide) ?_
        refine gx_imul hx hb (nq_d dX8_needNumber_0_g (n := 27) rfl) hw (fun v18 hw => ?_)
        refine lv_aload_n hx hb (nq_d dX8_needNumber_0_g (n := 28) rfl) rfl (lv_at hl 0 rfl) ?_
        refine lv_aload_n hx hb (nq_d dX8_needNumber_0_g (n := 29) rfl) rfl (lv_at hl 0 rfl) ?_
        refine va_get (D := (dC, dI)) (ci := 8) (v := .int z3) (C := RX8) (T := TX8) (N := 8) hx hb hts hi_X8 hown hK hP 0 rfl rfl 4 (by decide) hf25 (fun _ h9 => h9) rfl (nq_d dX8_needNumber_0_g (n := 30) rfl) ?_
        refine gx_ri (wr := []) (va_runV (As := [.int z3]) (rest := [.int v18]) ⟨hx, hb, hml, hown, hts⟩ (ct_Reader_byteAt l dC dI cyB cyI cyJ cyZ ar ar_text ar_draft _ r_length r_place r_failure z3 z1 r_toldBefore r_text z3 _) (cwV 1 hts gX8_needNumber_X8_byteAt rfl rfl rfl cd_X8_byteAt ⟨Nat.le_of_ble_eq_true rfl, Nat.le_of_ble_eq_true rfl⟩) (gx_preV hK hP hD hNw [0, 1] rfl (by decide +kernel) hw 0 (ci := 8) rfl rfl rfl) rfl rfl hl.1 rfl (lv_room (Nat.le_of_ble_eq_true rfl)) (nq_d dX8_needNumber_0_g (n := 31) rfl) ⟨Nat.zero_le _, Nat.zero_le _⟩) hP hD hS hA [0, 1] [] [0, 1] rfl rfl (by decide) (by decide) (by decide) (fun _ => [(ar, .inr (8, [.ref ar_text, .int r_length, .int r_place, .int r_failure, .int z3, .int z1, .int r_toldBefore, .ref ar_draft])), (ar_text, .inl (cyB, 240, .inl r_text))]) (fun _ => rfl) (fun r19 u H locs hw hP hD hS => ?_)
        try dsimp only at hw hP hD
        refine gx_iadd hx hb (nq_d dX8_needNumber_0_g (n := 32) rfl) hw (fun v20 hw => ?_)
        refine lv_bipush (v := (48 : Int32)) hx hb (nq_d dX8_needNumber_0_g (n := 33) rfl) (by decide) ?_
        refine gx_isub hx hb (nq_d dX8_needNumber_0_g (n := 34) rfl) hw (fun v21 hw => ?_)
        refine lv_istore_n (lv' := [(3, .int v21), (0, .ref ar), (1, .int x1), (2, .int x2)]) hx hb (nq_d dX8_needNumber_0_g (n := 35) rfl) rfl hl (by decide) rfl (fun ls hl => ?_)
        exact Jj16 v21 _ _ _ hP hD hS (lv_sub hl [1, 2, 3, 0] rfl) hw
abbrev rmX8_needEnd : Room := { frames := 2, cells := 0, slots := 0, locals := 41 }
theorem cd_X8_needEnd : yX8_needEnd.cls = RX8 ∧ yX8_needEnd.cls ≠ "java/lang/invoke/MethodHandle" ∧ yX8_needEnd.cls ≠ "java/lang/invoke/VarHandle" ∧ (parseMethodDescriptor yX8_needEnd.desc).map (fun d => d.parameters.length) = some 0 := by decide +kernel
set_option maxHeartbeats 4000000 in
set_option maxRecDepth 100000 in
theorem ct_Reader_needEnd (l : Launch) (dC : Nat → ClassId) (dI : Nat → Nat → Nat) (cyB cyI cyJ cyZ : ClassId) (ar ar_text ar_draft : Nat) (sz : Nat) (r_length : Int32) (r_place : Int32) (r_failure : Int32) (r_at : Int32) (r_firstFigure : Int32) (r_toldBefore : Int32) (r_text : Nat → Int32) (Q : Int → Int → Int → Prop) : Met l yX8_needEnd wsX8_needEnd rmX8_needEnd (va_Pc [.ref ar] (cPre (dC, dI) vwCl (tyS cyB cyI cyJ cyZ) [(ar, .inr (8, [.ref ar_text, .int r_length, .int r_place, .int r_failure, .int r_at, .int r_firstFigure, .int r_toldBefore, .ref ar_draft])), (ar_text, .inl (cyB, 240, .inl r_text))] sz (nf_Reader_needEnd r_length.toInt r_place.toInt r_failure.toInt r_at.toInt (aI 240 r_text)  Q))) (va_Qv (fun (u : Int32 × Int32 × Int32) => Q (u.1).toInt (u.2.1).toInt (u.2.2).toInt) (cPost (dC, dI) vwCl (fun u : Int32 × Int32 × Int32 => [(ar, .inr (8, [.ref ar_text, .int r_length, .int u.1, .int u.2.1, .int u.2.2, .int r_firstFigure, .int r_toldBefore, .ref ar_draft])), (ar_text, .inl (cyB, 240, .inl r_text))]) (va_A [(ar, .inr (8, [.ref ar_text, .int r_length, .int r_place, .int r_failure, .int r_at, .int r_firstFigure, .int r_toldBefore, .ref ar_draft])), (ar_text, .inl (cyB, 240, .inl r_text))] sz)) (va_A [(ar, .inr (8, [.ref ar_text, .int r_length, .int r_place, .int r_failure, .int r_at, .int r_firstFigure, .int r_toldBefore, .ref ar_draft])), (ar_text, .inl (cyB, 240, .inl r_text))] sz)) 0 0 (va_A [(ar, .inr (8, [.ref ar_text, .int r_length, .int r_place, .int r_failure, .int r_at, .int r_firstFigure, .int r_toldBefore, .ref ar_draft])), (ar_text, .inl (cyB, 240, .inl r_text))] sz) := by
  refine Met.ofW (cc := cX8_needEnd) (maxL := 1) (ret := none) (by decide) rfl ?_
  intro p e s m args below meth c s₁ B hml hv
  obtain ⟨rfl, hsz, hP, hK, hD0, hNw, hw⟩ := hv
  have hx := B.exec
  have hb := B.bytes
  have hr := B.returns
  have hts := atoms_spec (ws := wsX8_needEnd) B.pre
  have hown : s.vm.findClass RX8 = some m.cls := findClass_of_methodNamed B.named
  have hlocks := B.notSynchronized
  subst hsz
  have hD := hD0.self (sz := s.heap.size)
  generalize hAe : va_A [(ar, .inr (8, [.ref ar_text, .int r_length, .int r_place, .int r_failure, .int r_at, .int r_firstFigure, .int r_toldBefore, .ref ar_draft])), (ar_text, .inl (cyB, 240, .inl r_text))] s.heap.size = A at hD ⊢
  have hA : ∀ q : Nat, s.heap.size ≤ q → A q := fun q h => by rw [← hAe]; exact Or.inr h
  have hS : va_S A s.heap s.heap [] := va_S.rf
  have hl := lv_entry ([.ref ar]) (n := 1) (Nat.le_of_ble_eq_true rfl)
  rw [lg_entry_eq]
  generalize (lg_sl ([.ref ar]) ++ List.replicate (1 - (lg_sl ([.ref ar])).length) Slot.unset).toArray = ls at hl ⊢
  have hl : lv_has ls 1 [(0, .ref ar)] := hl
  refine gx_q (fun Q9 hQ => ?_)
  unfold nf_Reader_needEnd at hw
  have hi_X8 : ∀ w ∈ wsX80, w ∈ wsX8_needEnd := (sub_c (nq_m (n := 19) rfl) (sub_c (nq_m (n := 20) rfl) (sub_c (nq_m (n := 21) rfl) (sub_c (nq_m (n := 22) rfl) (sub_c (nq_m (n := 23) rfl) (sub_c (nq_m (n := 24) rfl) (sub_c (nq_m (n := 25) rfl) (sub_c (nq_m (n := 26) rfl) sub_n))))))))
  have hf25 : (Cond.fieldLink RX8 25 "CoatsHall$Reader" (TX8 4).2.1 (TX8 4).2.2.1).before ([.ref ar] : List Value).toArray s = true := hts (.fieldLink RX8 25 "CoatsHall$Reader" "at" "I") (nq_m (n := 1) rfl)
  refine lv_aload_n hx hb (nq_d dX8_needEnd_0_g (n := 0) rfl) rfl (lv_at hl 0 rfl) ?_
  refine gx_rv (wr := []) (va_runV (As := []) (rest := []) ⟨hx, hb, hml, hown, hts⟩ (ct_Reader_skipBlanks l dC dI cyB cyI cyJ cyZ ar ar_text ar_draft _ r_length r_place r_failure r_at r_firstFigure r_toldBefore r_text _) (cwV 0 hts gX8_needEnd_X8_skipBlanks rfl rfl rfl cd_X8_skipBlanks ⟨Nat.le_of_ble_eq_true rfl, Nat.le_of_ble_eq_true rfl⟩) (gx_preV hK hP hD hNw [0, 1] rfl (by decide +kernel) hw 0 (ci := 8) rfl rfl rfl) rfl rfl hl.1 rfl (lv_room (Nat.le_of_ble_eq_true rfl)) (nq_d dX8_needEnd_0_g (n := 1) rfl) ⟨Nat.zero_le _, Nat.zero_le _⟩) hP hD hS hA [0, 1] [] [0, 1] rfl rfl (by decide) (by decide) (by decide) (fun u => [(ar, .inr (8, [.ref ar_text, .int r_length, .int r_place, .int r_failure, .int u, .int r_firstFigure, .int r_toldBefore, .ref ar_draft])), (ar_text, .inl (cyB, 240, .inl r_text))]) (fun _ => rfl) (fun u H locs hw hP hD hS => ?_)
  obtain ⟨z1, rfl⟩ : ∃ z, z = u := ⟨_, rfl⟩
  try dsimp only at hw hP hD
  refine lv_aload_n hx hb (nq_d dX8_needEnd_0_g (n := 2) rfl) rfl (lv_at hl 0 rfl) ?_
  refine lv_aload_n hx hb (nq_d dX8_needEnd_0_g (n := 3) rfl) rfl (lv_at hl 0 rfl) ?_
  refine va_get (D := (dC, dI)) (ci := 8) (v := .int z1) (C := RX8) (T := TX8) (N := 8) hx hb hts hi_X8 hown hK hP 0 rfl rfl 4 (by decide) hf25 (fun _ h9 => h9) rfl (nq_d dX8_needEnd_0_g (n := 4) rfl) ?_
  refine gx_ri (wr := []) (va_runV (As := [.int z1]) (rest := []) ⟨hx, hb, hml, hown, hts⟩ (ct_Reader_byteAt l dC dI cyB cyI cyJ cyZ ar ar_text ar_draft _ r_length r_place r_failure z1 r_firstFigure r_toldBefore r_text z1 _) (cwV 1 hts gX8_needEnd_X8_byteAt rfl rfl rfl cd_X8_byteAt ⟨Nat.le_of_ble_eq_true rfl, Nat.le_of_ble_eq_true rfl⟩) (gx_preV hK hP hD hNw [0, 1] rfl (by decide +kernel) hw 0 (ci := 8) rfl rfl rfl) rfl rfl hl.1 rfl (lv_room (Nat.le_of_ble_eq_true rfl)) (nq_d dX8_needEnd_0_g (n := 5) rfl) ⟨Nat.zero_le _, Nat.zero_le _⟩) hP hD hS hA [0, 1] [] [0, 1] rfl rfl (by decide) (by decide) (by decide) (fun _ => [(ar, .inr (8, [.ref ar_text, .int r_length, .int r_place, .int r_failure, .int z1, .int r_firstFigure, .int r_toldBefore, .ref ar_draft])), (ar_text, .inl (cyB, 240, .inl r_text))]) (fun _ => rfl) (fun r2 u H locs hw hP hD hS => ?_)
  try dsimp only at hw hP hD
  refine lv_bipush (v := (59 : Int32)) hx hb (nq_d dX8_needEnd_0_g (n := 6) rfl) (by decide) ?_
  refine gx_icmp_ne (tgt := 30) hx hb (nq_d dX8_needEnd_0_g (n := 7) rfl) (by decide) hw (fun hw => ?_) (fun hw => ?_)
  · refine lv_aload_n hx hb (nq_d dX8_needEnd_0_g (n := 15) rfl) rfl (lv_at hl 0 rfl) ?_
    refine lv_iconst (v := (1 : Int32)) hx hb (nq_d dX8_needEnd_0_g (n := 16) rfl) (by decide) ?_
    refine lv_aload_n hx hb (nq_d dX8_needEnd_0_g (n := 17) rfl) rfl (lv_at hl 0 rfl) ?_
    refine va_get (D := (dC, dI)) (ci := 8) (v := .int z1) (C := RX8) (T := TX8) (N := 8) hx hb hts hi_X8 hown hK hP 0 rfl rfl 4 (by decide) hf25 (fun _ h9 => h9) rfl (nq_d dX8_needEnd_0_g (n := 18) rfl) ?_
    refine gx_rv (wr := [(ar_text, .inl (cyB, 240, .inl r_text))]) (va_runV (As := [.int (1 : Int32), .int z1]) (rest := []) ⟨hx, hb, hml, hown, hts⟩ (ct_Reader_fail l dC dI cyB cyI cyJ cyZ ar ar_text ar_draft _ r_length r_place r_failure z1 r_firstFigure r_toldBefore (1 : Int32) z1 _) (cwV 2 hts gX8_needEnd_X8_fail rfl rfl rfl cd_X8_fail ⟨Nat.le_of_ble_eq_true rfl, Nat.le_of_ble_eq_true rfl⟩) (gx_preV hK hP hD hNw [0] rfl (by decide +kernel) hw 0 (ci := 8) rfl rfl rfl) rfl rfl hl.1 rfl (lv_room (Nat.le_of_ble_eq_true rfl)) (nq_d dX8_needEnd_0_g (n := 19) rfl) ⟨Nat.zero_le _, Nat.zero_le _⟩) hP hD hS hA [0] [1] [1, 0] rfl rfl (by decide) (by decide) (by decide) (fun u => [(ar, .inr (8, [.ref ar_text, .int r_length, .int (u.1), .int (u.2), .int z1, .int r_firstFigure, .int r_toldBefore, .ref ar_draft])), (ar_text, .inl (cyB, 240, .inl r_text))]) (fun _ => rfl) (fun u H locs hw hP hD hS => ?_)
    obtain ⟨z3, z4⟩ := u
    try dsimp only at hw hP hD
    exact rt_v (A1 := A) hQ hx hb hr hlocks hP hD hS (z3, z4, z1) [0, 1] rfl (by decide +kernel) hw (nq_d dX8_needEnd_0_g (n := 20) rfl)
  · refine lv_aload_n hx hb (nq_d dX8_needEnd_0_g (n := 8) rfl) rfl (lv_at hl 0 rfl) ?_
    refine lv_dup hx hb (nq_d dX8_needEnd_0_g (n := 9) rfl) rfl ?_
    refine va_get (D := (dC, dI)) (ci := 8) (v := .int z1) (C := RX8) (T := TX8) (N := 8) hx hb hts hi_X8 hown hK hP 0 rfl rfl 4 (by decide) hf25 (fun _ h9 => h9) rfl (nq_d dX8_needEnd_0_g (n := 10) rfl) ?_
    refine lv_iconst (v := (1 : Int32)) hx hb (nq_d dX8_needEnd_0_g (n := 11) rfl) (by decide) ?_
    refine gx_iadd hx hb (nq_d dX8_needEnd_0_g (n := 12) rfl) hw (fun v5 hw => ?_)
    refine gx_put (D := (dC, dI)) (ci := 8) (v := .int v5) (ty := .int) (C := RX8) (T := TX8) (N := 8) hx hb hts hi_X8 tyX8 tyX8_ok nmX8 hown hK hP hD hS 0 rfl rfl 4 (by decide) hf25 (fun _ h9 => h9) rfl (by decide +kernel) rfl rfl (Nat.le_of_ble_eq_true rfl) (nq_d dX8_needEnd_0_g (n := 13) rfl) [(ar, .inr (8, [.ref ar_text, .int r_length, .int r_place, .int r_failure, .int v5, .int r_firstFigure, .int r_toldBefore, .ref ar_draft])), (ar_text, .inl (cyB, 240, .inl r_text))] rfl (fun H locs hP hD hS => ?_)
    refine lv_goto (tgt := 39) hx hb (nq_d dX8_needEnd_0_g (n := 14) rfl) (by decide) ?_
    exact rt_v (A1 := A) hQ hx hb hr hlocks hP hD hS (r_place, r_failure, v5) [0, 1] rfl (by decide +kernel) hw (nq_d dX8_needEnd_0_g (n := 20) rfl)
abbrev rmX8_tellOnce : Room := { frames := 1, cells := 0, slots := 0, locals := 22 }
theorem cd_X8_tellOnce : yX8_tellOnce.cls = RX8 ∧ yX8_tellOnce.cls ≠ "java/lang/invoke/MethodHandle" ∧ yX8_tellOnce.cls ≠ "java/lang/invoke/VarHandle" ∧ (parseMethodDescriptor yX8_tellOnce.desc).map (fun d => d.parameters.length) = some 2 := by decide +kernel
set_option maxHeartbeats 4000000 in
set_option maxRecDepth 100000 in
theorem ct_Reader_tellOnce (l : Launch) (dC : Nat → ClassId) (dI : Nat → Nat → Nat) (cyB cyI cyJ cyZ : ClassId) (ar ar_text ar_draft : Nat) (sz : Nat) (r_length : Int32) (r_place : Int32) (r_failure : Int32) (r_at : Int32) (r_firstFigure : Int32) (r_toldBefore : Int32) (x1 : Int32) (x2 : Int32) (Q : Int → Int → Int → Prop) : Met l yX8_tellOnce wsX8_tellOnce rmX8_tellOnce (va_Pc [.ref ar, .int x1, .int x2] (cPre (dC, dI) vwCl (tyS cyB cyI cyJ cyZ) [(ar, .inr (8, [.ref ar_text, .int r_length, .int r_place, .int r_failure, .int r_at, .int r_firstFigure, .int r_toldBefore, .ref ar_draft]))] sz (nf_Reader_tellOnce r_place.toInt r_failure.toInt r_toldBefore.toInt x1.toInt x2.toInt Q))) (va_Qv (fun (u : Int32 × Int32 × Int32) => Q (u.1).toInt (u.2.1).toInt (u.2.2).toInt) (cPost (dC, dI) vwCl (fun u : Int32 × Int32 × Int32 => [(ar, .inr (8, [.ref ar_text, .int r_length, .int u.1, .int u.2.1, .int r_at, .int r_firstFigure, .int u.2.2, .ref ar_draft]))]) (va_A [(ar, .inr (8, [.ref ar_text, .int r_length, .int r_place, .int r_failure, .int r_at, .int r_firstFigure, .int r_toldBefore, .ref ar_draft]))] sz)) (va_A [(ar, .inr (8, [.ref ar_text, .int r_length, .int r_place, .int r_failure, .int r_at, .int r_firstFigure, .int r_toldBefore, .ref ar_draft]))] sz)) 0 0 (va_A [(ar, .inr (8, [.ref ar_text, .int r_length, .int r_place, .int r_failure, .int r_at, .int r_firstFigure, .int r_toldBefore, .ref ar_draft]))] sz) := by
  refine Met.ofW (cc := cX8_tellOnce) (maxL := 3) (ret := none) (by decide) rfl ?_
  intro p e s m args below meth c s₁ B hml hv
  obtain ⟨rfl, hsz, hP, hK, hD0, hNw, hw⟩ := hv
  have hx := B.exec
  have hb := B.bytes
  have hr := B.returns
  have hts := atoms_spec (ws := wsX8_tellOnce) B.pre
  have hown : s.vm.findClass RX8 = some m.cls := findClass_of_methodNamed B.named
  have hlocks := B.notSynchronized
  subst hsz
  have hD := hD0.self (sz := s.heap.size)
  generalize hAe : va_A [(ar, .inr (8, [.ref ar_text, .int r_length, .int r_place, .int r_failure, .int r_at, .int r_firstFigure, .int r_toldBefore, .ref ar_draft]))] s.heap.size = A at hD ⊢
  have hA : ∀ q : Nat, s.heap.size ≤ q → A q := fun q h => by rw [← hAe]; exact Or.inr h
  have hS : va_S A s.heap s.heap [] := va_S.rf
  have hl := lv_entry ([.ref ar, .int x1, .int x2]) (n := 3) (Nat.le_of_ble_eq_true rfl)
  rw [lg_entry_eq]
  generalize (lg_sl ([.ref ar, .int x1, .int x2]) ++ List.replicate (3 - (lg_sl ([.ref ar, .int x1, .int x2])).length) Slot.unset).toArray = ls at hl ⊢
  have hl : lv_has ls 3 [(0, .ref ar), (1, .int x1), (2, .int x2)] := hl
  refine gx_q (fun Q9 hQ => ?_)
  unfold nf_Reader_tellOnce at hw
  have hi_X8 : ∀ w ∈ wsX80, w ∈ wsX8_tellOnce := (sub_c (nq_m (n := 9) rfl) (sub_c (nq_m (n := 10) rfl) (sub_c (nq_m (n := 11) rfl) (sub_c (nq_m (n := 12) rfl) (sub_c (nq_m (n := 13) rfl) (sub_c (nq_m (n := 14) rfl) (sub_c (nq_m (n := 15) rfl) (sub_c (nq_m (n := 16) rfl) sub_n))))))))
  have hf31 : (Cond.fieldLink RX8 31 "CoatsHall$Reader" (TX8 6).2.1 (TX8 6).2.2.1).before ([.ref ar, .int x1, .int x2] : List Value).toArray s = true := hts (.fieldLink RX8 31 "CoatsHall$Reader" "toldBefore" "I") (nq_m (n := 1) rfl)
  refine lv_aload_n hx hb (nq_d dX8_tellOnce_0_g (n := 0) rfl) rfl (lv_at hl 0 rfl) ?_
  refine va_get (D := (dC, dI)) (ci := 8) (v := .int r_toldBefore) (C := RX8) (T := TX8) (N := 8) hx hb hts hi_X8 hown hK hP 0 rfl rfl 6 (by decide) hf31 (fun _ h9 => h9) rfl (nq_d dX8_tellOnce_0_g (n := 1) rfl) ?_
  refine lv_iload_n hx hb (nq_d dX8_tellOnce_0_g (n := 2) rfl) rfl (lv_at hl 1 rfl) ?_
  refine gx_iand hx hb (nq_d dX8_tellOnce_0_g (n := 3) rfl) hw (fun v1 hw => ?_)
  refine jn2_el hw (fun j4 hj4 hw => ?_)
  have Jj4 : ∀ (z2 : Int32) (z3 : Int32) (H : Heap) (locs : List Loc) (ls : Array Slot), va_P (dC, dI) vwCl [(ar, .inr (8, [.ref ar_text, .int r_length, .int z2, .int z3, .int r_at, .int r_firstFigure, .int r_toldBefore, .ref ar_draft]))] H → va_D A [(ar, .inr (8, [.ref ar_text, .int r_length, .int z2, .int z3, .int r_at, .int r_firstFigure, .int r_toldBefore, .ref ar_draft]))] → va_S A s.heap H locs → lv_has ls 3 [(0, .ref ar), (1, .int x1)] → j4 z2.toInt z3.toInt → W p l e (headSpec wsX8_tellOnce rmX8_tellOnce).room s m ([.ref ar, .int x1, .int x2] : List Value).toArray below meth c H locs 0 0 Q9 (F0 m 15 ls []) := by
    intro z2 z3 H locs ls hP hD hS hl hw
    have hw := hj4 _ _ hw
    refine lv_aload_n hx hb (nq_d dX8_tellOnce_0_g (n := 9) rfl) rfl (lv_at hl 0 rfl) ?_
    refine lv_dup hx hb (nq_d dX8_tellOnce_0_g (n := 10) rfl) rfl ?_
    refine va_get (D := (dC, dI)) (ci := 8) (v := .int r_toldBefore) (C := RX8) (T := TX8) (N := 8) hx hb hts hi_X8 hown hK hP 0 rfl rfl 6 (by decide) hf31 (fun _ h9 => h9) rfl (nq_d dX8_tellOnce_0_g (n := 11) rfl) ?_
    refine lv_iload_n hx hb (nq_d dX8_tellOnce_0_g (n := 12) rfl) rfl (lv_at hl 1 rfl) ?_
    refine gx_ior hx hb (nq_d dX8_tellOnce_0_g (n := 13) rfl) hw (fun v5 hw => ?_)
    refine gx_put (D := (dC, dI)) (ci := 8) (v := .int v5) (ty := .int) (C := RX8) (T := TX8) (N := 8) hx hb hts hi_X8 tyX8 tyX8_ok nmX8 hown hK hP hD hS 0 rfl rfl 6 (by decide) hf31 (fun _ h9 => h9) rfl (by decide +kernel) rfl rfl (Nat.le_of_ble_eq_true rfl) (nq_d dX8_tellOnce_0_g (n := 14) rfl) [(ar, .inr (8, [.ref ar_text, .int r_length, .int z2, .int z3, .int r_at, .int r_firstFigure, .int v5, .ref ar_draft]))] rfl (fun H locs hP hD hS => ?_)
    exact rt_v (A1 := A) hQ hx hb hr hlocks hP hD hS (z2, z3, v5) [0] rfl (by decide +kernel) hw (nq_d dX8_tellOnce_0_g (n := 15) rfl)
  refine gx_if_eq (tgt := 15) hx hb (nq_d dX8_tellOnce_0_g (n := 4) rfl) (by decide) hw (fun hw => ?_) (fun hw => ?_)
  · exact Jj4 r_place r_failure _ _ _ hP hD hS (lv_sub hl [0, 1] rfl) hw
  · refine lv_aload_n hx hb (nq_d dX8_tellOnce_0_g (n := 5) rfl) rfl (lv_at hl 0 rfl) ?_
    refine lv_iconst (v := (3 : Int32)) hx hb (nq_d dX8_tellOnce_0_g (n := 6) rfl) (by decide) ?_
    refine lv_iload_n hx hb (nq_d dX8_tellOnce_0_g (n := 7) rfl) rfl (lv_at hl 2 rfl) ?_
    refine gx_rv (wr := []) (va_runV (As := [.int (3 : Int32), .int x2]) (rest := []) ⟨hx, hb, hml, hown, hts⟩ (ct_Reader_fail l dC dI cyB cyI cyJ cyZ ar ar_text ar_draft _ r_length r_place r_failure r_at r_firstFigure r_toldBefore (3 : Int32) x2 _) (cwV 2 hts gX8_tellOnce_X8_fail rfl rfl rfl cd_X8_fail ⟨Nat.le_of_ble_eq_true rfl, Nat.le_of_ble_eq_true rfl⟩) (gx_preV hK hP hD hNw [0] rfl (by decide +kernel) hw 0 (ci := 8) rfl rfl rfl) rfl rfl hl.1 rfl (lv_room (Nat.le_of_ble_eq_true rfl)) (nq_d dX8_tellOnce_0_g (n := 8) rfl) ⟨Nat.zero_le _, Nat.zero_le _⟩) hP hD hS hA [0] [] [0] rfl rfl (by decide) (by decide) (by decide) (fun u => [(ar, .inr (8, [.ref ar_text, .int r_length, .int (u.1), .int (u.2), .int r_at, .int r_firstFigure, .int r_toldBefore, .ref ar_draft]))]) (fun _ => rfl) (fun u H locs hw hP hD hS => ?_)
    obtain ⟨z6, z7⟩ := u
    try dsimp only at hw hP hD
    exact Jj4 z6 z7 _ _ _ hP hD hS (lv_sub hl [0, 1] rfl) hw
abbrev rmX8_changeDraft : Room := { frames := 0, cells := 0, slots := 0, locals := 0 }
theorem cd_X8_changeDraft : yX8_changeDraft.cls = RX8 ∧ yX8_changeDraft.cls ≠ "java/lang/invoke/MethodHandle" ∧ yX8_changeDraft.cls ≠ "java/lang/invoke/VarHandle" ∧ (parseMethodDescriptor yX8_changeDraft.desc).map (fun d => d.parameters.length) = some 1 := by decide +kernel
set_option maxHeartbeats 4000000 in
set_option maxRecDepth 100000 in
theorem ct_Reader_changeDraft (l : Launch) (dC : Nat → ClassId) (dI : Nat → Nat → Nat) (cyB cyI cyJ cyZ : ClassId) (ar ar_text ar_draft ax1 : Nat) (sz : Nat) (r_length : Int32) (r_place : Int32) (r_failure : Int32) (r_at : Int32) (r_firstFigure : Int32) (r_toldBefore : Int32) (Q : Prop) : Met l yX8_changeDraft wsX8_changeDraft rmX8_changeDraft (va_Pc [.ref ar, .ref ax1] (cPre (dC, dI) vwCl (tyS cyB cyI cyJ cyZ) [(ar, .inr (8, [.ref ar_text, .int r_length, .int r_place, .int r_failure, .int r_at, .int r_firstFigure, .int r_toldBefore, .ref ar_draft]))] sz (nf_Reader_changeDraft   Q))) (va_Qq (fun (r : Option Nat) (_ : Unit) => r = some ar_draft ∧ Q) (cPost (dC, dI) vwCl (fun _ : Unit => [(ar, .inr (8, [.ref ar_text, .int r_length, .int r_place, .int r_failure, .int r_at, .int r_firstFigure, .int r_toldBefore, .ref ax1]))]) (va_A [(ar, .inr (8, [.ref ar_text, .int r_length, .int r_place, .int r_failure, .int r_at, .int r_firstFigure, .int r_toldBefore, .ref ar_draft]))] sz)) (va_A [(ar, .inr (8, [.ref ar_text, .int r_length, .int r_place, .int r_failure, .int r_at, .int r_firstFigure, .int r_toldBefore, .ref ar_draft]))] sz)) 0 0 (va_A [(ar, .inr (8, [.ref ar_text, .int r_length, .int r_place, .int r_failure, .int r_at, .int r_firstFigure, .int r_toldBefore, .ref ar_draft]))] sz) := by
  refine Met.ofW (cc := cX8_changeDraft) (maxL := 3) (ret := (some (.object "CoatsHall$Hall"))) (by decide) rfl ?_
  intro p e s m args below meth c s₁ B hml hv
  obtain ⟨rfl, hsz, hP, hK, hD0, hNw, hw⟩ := hv
  have hx := B.exec
  have hb := B.bytes
  have hr := B.returns
  have hts := atoms_spec (ws := wsX8_changeDraft) B.pre
  have hown : s.vm.findClass RX8 = some m.cls := findClass_of_methodNamed B.named
  have hlocks := B.notSynchronized
  subst hsz
  have hD := hD0.self (sz := s.heap.size)
  generalize hAe : va_A [(ar, .inr (8, [.ref ar_text, .int r_length, .int r_place, .int r_failure, .int r_at, .int r_firstFigure, .int r_toldBefore, .ref ar_draft]))] s.heap.size = A at hD ⊢
  have hA : ∀ q : Nat, s.heap.size ≤ q → A q := fun q h => by rw [← hAe]; exact Or.inr h
  have hS : va_S A s.heap s.heap [] := va_S.rf
  have hl := lv_entry ([.ref ar, .ref ax1]) (n := 3) (Nat.le_of_ble_eq_true rfl)
  rw [lg_entry_eq]
  generalize (lg_sl ([.ref ar, .ref ax1]) ++ List.replicate (3 - (lg_sl ([.ref ar, .ref ax1])).length) Slot.unset).toArray = ls at hl ⊢
  have hl : lv_has ls 3 [(0, .ref ar), (1, .ref ax1)] := hl
  refine gx_q (fun Q9 hQ => ?_)
  unfold nf_Reader_changeDraft at hw
  have hi_X8 : ∀ w ∈ wsX80, w ∈ wsX8_changeDraft := (sub_c (nq_m (n := 2) rfl) (sub_c (nq_m (n := 3) rfl) (sub_c (nq_m (n := 4) rfl) (sub_c (nq_m (n := 5) rfl) (sub_c (nq_m (n := 6) rfl) (sub_c (nq_m (n := 7) rfl) (sub_c (nq_m (n := 8) rfl) (sub_c (nq_m (n := 9) rfl) sub_n))))))))
  have hf37 : (Cond.fieldLink RX8 37 "CoatsHall$Reader" (TX8 7).2.1 (TX8 7).2.2.1).before ([.ref ar, .ref ax1] : List Value).toArray s = true := hts (.fieldLink RX8 37 "CoatsHall$Reader" "draft" "LCoatsHall$Hall;") (nq_m (n := 1) rfl)
  refine lv_aload_n hx hb (nq_d dX8_changeDraft_0_g (n := 0) rfl) rfl (lv_at hl 0 rfl) ?_
  refine va_get (D := (dC, dI)) (ci := 8) (v := .ref ar_draft) (C := RX8) (T := TX8) (N := 8) hx hb hts hi_X8 hown hK hP 0 rfl rfl 7 (by decide) hf37 (fun _ h9 => h9) rfl (nq_d dX8_changeDraft_0_g (n := 1) rfl) ?_
  refine lv_astore_n (lv' := [(2, .ref ar_draft), (0, .ref ar), (1, .ref ax1)]) hx hb (nq_d dX8_changeDraft_0_g (n := 2) rfl) rfl hl (by decide) rfl (fun ls hl => ?_)
  refine lv_aload_n hx hb (nq_d dX8_changeDraft_0_g (n := 3) rfl) rfl (lv_at hl 1 rfl) ?_
  refine lv_aload_n hx hb (nq_d dX8_changeDraft_0_g (n := 4) rfl) rfl (lv_at hl 2 rfl) ?_
  refine gx_put (D := (dC, dI)) (ci := 8) (v := .ref ax1) (ty := .object "CoatsHall$Hall") (C := RX8) (T := TX8) (N := 8) hx hb hts hi_X8 tyX8 tyX8_ok nmX8 hown hK hP hD hS 0 rfl rfl 7 (by decide) hf37 (fun _ h9 => h9) rfl (by decide +kernel) rfl rfl (Nat.le_of_ble_eq_true rfl) (nq_d dX8_changeDraft_0_g (n := 5) rfl) [(ar, .inr (8, [.ref ar_text, .int r_length, .int r_place, .int r_failure, .int r_at, .int r_firstFigure, .int r_toldBefore, .ref ax1]))] rfl (fun H locs hP hD hS => ?_)
  refine lv_aload_n hx hb (nq_d dX8_changeDraft_0_g (n := 6) rfl) rfl (lv_at hl 0 rfl) ?_
  exact rt_q (A1 := A) hQ hx hb hr hlocks hP hD hS () [0] rfl (by decide +kernel) (some ar_draft) rfl ⟨rfl, hw⟩ (nq_d dX8_changeDraft_0_g (n := 7) rfl)
abbrev rmX9_load : Room := { frames := 2, cells := 0, slots := 0, locals := 42 }
theorem cd_X9_load : yX9_load.cls = RX9 ∧ yX9_load.cls ≠ "java/lang/invoke/MethodHandle" ∧ yX9_load.cls ≠ "java/lang/invoke/VarHandle" ∧ (parseMethodDescriptor yX9_load.desc).map (fun d => d.parameters.length) = some 3 := by decide +kernel
set_option maxHeartbeats 4000000 in
set_option maxRecDepth 100000 in
theorem ct_Rush_load (l : Launch) (dC : Nat → ClassId) (dI : Nat → Nat → Nat) (cyB cyI cyJ cyZ : ClassId) (ag ag_sort ag_kind ag_tip ag_marks ag_brass ag_peg ag_has ah ah_kind ah_walk ah_share ah_weight au au_ticks au_tip au_row au_freeAt au_waits au_greatest au_tips au_best : Nat) (sz : Nat) (g_number : Int32) (h_pegs : Int32) (h_ticks : Int32) (h_loss : Int32) (u_size : Int32) (u_loss : Int32) (u_bestTips : Int32) (u_bestWaits : Int32) (g_tip : Nat → Int32) (g_peg : Nat → Int32) (h_walk : Nat → Int32) (u_ticks : Nat → Int32) (u_tip : Nat → Int32) (u_row : Nat → Int32) (x1 : Int32) (Q : Int → Int → (Int → Int) → (Int → Int) → (Int → Int) → Prop) : Met l yX9_load wsX9_load rmX9_load (va_Pc [.ref au, .int x1, .ref ag, .ref ah] (cPre (dC, dI) vwCl (tyS cyB cyI cyJ cyZ) [(ag, .inr (2, [.int g_number, .ref ag_sort, .ref ag_kind, .ref ag_tip, .ref ag_marks, .ref ag_brass, .ref ag_peg, .ref ag_has])), (ag_tip, .inl (cyI, 16, .inl g_tip)), (ag_peg, .inl (cyI, 16, .inl g_peg)), (ah, .inr (3, [.ref ah_kind, .ref ah_walk, .ref ah_share, .ref ah_weight, .int h_pegs, .int h_ticks, .int h_loss])), (ah_walk, .inl (cyI, 24, .inl h_walk)), (au, .inr (9, [.ref au_ticks, .ref au_tip, .ref au_row, .ref au_freeAt, .ref au_waits, .ref au_greatest, .ref au_tips, .ref au_best, .int u_size, .int u_loss, .int u_bestTips, .int u_bestWaits])), (au_ticks, .inl (cyI, 16, .inl u_ticks)), (au_tip, .inl (cyI, 16, .inl u_tip)), (au_row, .inl (cyI, 16, .inl u_row))] sz (nf_Rush_load g_number.toInt (aI 16 g_tip) (aI 16 g_peg) h_pegs.toInt h_ticks.toInt h_loss.toInt (aI 24 h_walk) u_size.toInt u_loss.toInt (aI 16 u_ticks) (aI 16 u_tip) (aI 16 u_row) x1.toInt Q))) (va_Qv (fun (u : Int32 × Int32 × (Nat → Int32) × (Nat → Int32) × (Nat → Int32)) => Q (u.1).toInt (u.2.1).toInt (aI 16 (u.2.2.1)) (aI 16 (u.2.2.2.1)) (aI 16 (u.2.2.2.2))) (cPost (dC, dI) vwCl (fun u : Int32 × Int32 × (Nat → Int32) × (Nat → Int32) × (Nat → Int32) => [(ag, .inr (2, [.int g_number, .ref ag_sort, .ref ag_kind, .ref ag_tip, .ref ag_marks, .ref ag_brass, .ref ag_peg, .ref ag_has])), (ag_tip, .inl (cyI, 16, .inl g_tip)), (ag_peg, .inl (cyI, 16, .inl g_peg)), (ah, .inr (3, [.ref ah_kind, .ref ah_walk, .ref ah_share, .ref ah_weight, .int h_pegs, .int h_ticks, .int h_loss])), (ah_walk, .inl (cyI, 24, .inl h_walk)), (au, .inr (9, [.ref au_ticks, .ref au_tip, .ref au_row, .ref au_freeAt, .ref au_waits, .ref au_greatest, .ref au_tips, .ref au_best, .int u.1, .int u.2.1, .int u_bestTips, .int u_bestWaits])), (au_ticks, .inl (cyI, 16, .inl (u.2.2.1))), (au_tip, .inl (cyI, 16, .inl (u.2.2.2.1))), (au_row, .inl (cyI, 16, .inl (u.2.2.2.2)))]) (va_A [(ag, .inr (2, [.int g_number, .ref ag_sort, .ref ag_kind, .ref ag_tip, .ref ag_marks, .ref ag_brass, .ref ag_peg, .ref ag_has])), (ag_tip, .inl (cyI, 16, .inl g_tip)), (ag_peg, .inl (cyI, 16, .inl g_peg)), (ah, .inr (3, [.ref ah_kind, .ref ah_walk, .ref ah_share, .ref ah_weight, .int h_pegs, .int h_ticks, .int h_loss])), (ah_walk, .inl (cyI, 24, .inl h_walk)), (au, .inr (9, [.ref au_ticks, .ref au_tip, .ref au_row, .ref au_freeAt, .ref au_waits, .ref au_greatest, .ref au_tips, .ref au_best, .int u_size, .int u_loss, .int u_bestTips, .int u_bestWaits])), (au_ticks, .inl (cyI, 16, .inl u_ticks)), (au_tip, .inl (cyI, 16, .inl u_tip)), (au_row, .inl (cyI, 16, .inl u_row))] sz)) (va_A [(ag, .inr (2, [.int g_number, .ref ag_sort, .ref ag_kind, .ref ag_tip, .ref ag_marks, .ref ag_brass, .ref ag_peg, .ref ag_has])), (ag_tip, .inl (cyI, 16, .inl g_tip)), (ag_peg, .inl (cyI, 16, .inl g_peg)), (ah, .inr (3, [.ref ah_kind, .ref ah_walk, .ref ah_share, .ref ah_weight, .int h_pegs, .int h_ticks, .int h_loss])), (ah_walk, .inl (cyI, 24, .inl h_walk)), (au, .inr (9, [.ref au_ticks, .ref au_tip, .ref au_row, .ref au_freeAt, .ref au_waits, .ref au_greatest, .ref au_tips, .ref au_best, .int u_size, .int u_loss, .int u_bestTips, .int u_bestWaits])), (au_ticks, .inl (cyI, 16, .inl u_ticks)), (au_tip, .inl (cyI, 16, .inl u_tip)), (au_row, .inl (cyI, 16, .inl u_row))] sz)) 0 0 (va_A [(ag, .inr (2, [.int g_number, .ref ag_sort, .ref ag_kind, .ref ag_tip, .ref ag_marks, .ref ag_brass, .ref ag_peg, .ref ag_has])), (ag_tip, .inl (cyI, 16, .inl g_tip)), (ag_peg, .inl (cyI, 16, .inl g_peg)), (ah, .inr (3, [.ref ah_kind, .ref ah_walk, .ref ah_share, .ref ah_weight, .int h_pegs, .int h_ticks, .int h_loss])), (ah_walk, .inl (cyI, 24, .inl h_walk)), (au, .inr (9, [.ref au_ticks, .ref au_tip, .ref au_row, .ref au_freeAt, .ref au_waits, .ref au_greatest, .ref au_tips, .ref au_best, .int u_size, .int u_loss, .int u_bestTips, .int u_bestWaits])), (au_ticks, .inl (cyI, 16, .inl u_ticks)), (au_tip, .inl (cyI, 16, .inl u_tip)), (au_row, .inl (cyI, 16, .inl u_row))] sz) := by
  refine Met.ofW (cc := cX9_load) (maxL := 5) (ret := none) (by decide) rfl ?_
  intro p e s m args below meth c s₁ B hml hv
  obtain ⟨rfl, hsz, hP, hK, hD0, hNw, hw⟩ := hv
  have hx := B.exec
  have hb := B.bytes
  have hr := B.returns
  have hts := atoms_spec (ws := wsX9_load) B.pre
  have hown : s.vm.findClass RX9 = some m.cls := findClass_of_methodNamed B.named
  have hlocks := B.notSynchronized
  subst hsz
  have hD := hD0.self (sz := s.heap.size)
  generalize hAe : va_A [(ag, .inr (2, [.int g_number, .ref ag_sort, .ref ag_kind, .ref ag_tip, .ref ag_marks, .ref ag_brass, .ref ag_peg, .ref ag_has])), (ag_tip, .inl (cyI, 16, .inl g_tip)), (ag_peg, .inl (cyI, 16, .inl g_peg)), (ah, .inr (3, [.ref ah_kind, .ref ah_walk, .ref ah_share, .ref ah_weight, .int h_pegs, .int h_ticks, .int h_loss])), (ah_walk, .inl (cyI, 24, .inl h_walk)), (au, .inr (9, [.ref au_ticks, .ref au_tip, .ref au_row, .ref au_freeAt, .ref au_waits, .ref au_greatest, .ref au_tips, .ref au_best, .int u_size, .int u_loss, .int u_bestTips, .int u_bestWaits])), (au_ticks, .inl (cyI, 16, .inl u_ticks)), (au_tip, .inl (cyI, 16, .inl u_tip)), (au_row, .inl (cyI, 16, .inl u_row))] s.heap.size = A at hD ⊢
  have hA : ∀ q : Nat, s.heap.size ≤ q → A q := fun q h => by rw [← hAe]; exact Or.inr h
  have hS : va_S A s.heap s.heap [] := va_S.rf
  have hl := lv_entry ([.ref au, .int x1, .ref ag, .ref ah]) (n := 5) (Nat.le_of_ble_eq_true rfl)
  rw [lg_entry_eq]
  generalize (lg_sl ([.ref au, .int x1, .ref ag, .ref ah]) ++ List.replicate (5 - (lg_sl ([.ref au, .int x1, .ref ag, .ref ah])).length) Slot.unset).toArray = ls at hl ⊢
  have hl : lv_has ls 5 [(0, .ref au), (1, .int x1), (2, .ref ag), (3, .ref ah)] := hl
  refine gx_q (fun Q9 hQ => ?_)
  unfold nf_Rush_load at hw
  have hi_X9 : ∀ w ∈ wsX90, w ∈ wsX9_load := (sub_c (nq_m (n := 22) rfl) (sub_c (nq_m (n := 23) rfl) (sub_c (nq_m (n := 24) rfl) (sub_c (nq_m (n := 25) rfl) (sub_c (nq_m (n := 26) rfl) (sub_c (nq_m (n := 27) rfl) (sub_c (nq_m (n := 28) rfl) (sub_c (nq_m (n := 29) rfl) (sub_c (nq_m (n := 30) rfl) (sub_c (nq_m (n := 31) rfl) (sub_c (nq_m (n := 32) rfl) (sub_c (nq_m (n := 33) rfl) sub_n))))))))))))
  have hf36 : (Cond.fieldLink RX9 36 "CoatsHall$Rush" (TX9 8).2.1 (TX9 8).2.2.1).before ([.ref au, .int x1, .ref ag, .ref ah] : List Value).toArray s = true := hts (.fieldLink RX9 36 "CoatsHall$Rush" "size" "I") (nq_m (n := 1) rfl)
  have hi_X3 : ∀ w ∈ wsX30, w ∈ wsX9_load := (sub_c (nq_m (n := 34) rfl) (sub_c (nq_m (n := 35) rfl) (sub_c (nq_m (n := 36) rfl) (sub_c (nq_m (n := 37) rfl) (sub_c (nq_m (n := 38) rfl) (sub_c (nq_m (n := 39) rfl) (sub_c (nq_m (n := 40) rfl) sub_n)))))))
  have hf49 : (Cond.fieldLink RX9 49 "CoatsHall$Hall" (TX3 6).2.1 (TX3 6).2.2.1).before ([.ref au, .int x1, .ref ag, .ref ah] : List Value).toArray s = true := hts (.fieldLink RX9 49 "CoatsHall$Hall" "loss" "I") (nq_m (n := 2) rfl)
  have hf40 : (Cond.fieldLink RX9 40 "CoatsHall$Rush" (TX9 9).2.1 (TX9 9).2.2.1).before ([.ref au, .int x1, .ref ag, .ref ah] : List Value).toArray s = true := hts (.fieldLink RX9 40 "CoatsHall$Rush" "loss" "I") (nq_m (n := 3) rfl)
  have hi_X2 : ∀ w ∈ wsX20, w ∈ wsX9_load := (sub_c (nq_m (n := 41) rfl) (sub_c (nq_m (n := 42) rfl) (sub_c (nq_m (n := 43) rfl) (sub_c (nq_m (n := 44) rfl) (sub_c (nq_m (n := 45) rfl) (sub_c (nq_m (n := 46) rfl) (sub_c (nq_m (n := 47) rfl) (sub_c (nq_m (n := 48) rfl) sub_n))))))))
  have hf52 : (Cond.fieldLink RX9 52 "CoatsHall$Guests" (TX2 0).2.1 (TX2 0).2.2.1).before ([.ref au, .int x1, .ref ag, .ref ah] : List Value).toArray s = true := hts (.fieldLink RX9 52 "CoatsHall$Guests" "number" "I") (nq_m (n := 4) rfl)
  have hf9 : (Cond.fieldLink RX9 9 "CoatsHall$Rush" (TX9 0).2.1 (TX9 0).2.2.1).before ([.ref au, .int x1, .ref ag, .ref ah] : List Value).toArray s = true := hts (.fieldLink RX9 9 "CoatsHall$Rush" "ticks" "[I") (nq_m (n := 5) rfl)
  have hf57 : (Cond.fieldLink RX9 57 "CoatsHall$Guests" (TX2 6).2.1 (TX2 6).2.2.1).before ([.ref au, .int x1, .ref ag, .ref ah] : List Value).toArray s = true := hts (.fieldLink RX9 57 "CoatsHall$Guests" "peg" "[I") (nq_m (n := 6) rfl)
  have hf64 : (Cond.fieldLink RX9 64 "CoatsHall$Hall" (TX3 5).2.1 (TX3 5).2.2.1).before ([.ref au, .int x1, .ref ag, .ref ah] : List Value).toArray s = true := hts (.fieldLink RX9 64 "CoatsHall$Hall" "ticks" "I") (nq_m (n := 7) rfl)
  have hf15 : (Cond.fieldLink RX9 15 "CoatsHall$Rush" (TX9 1).2.1 (TX9 1).2.2.1).before ([.ref au, .int x1, .ref ag, .ref ah] : List Value).toArray s = true := hts (.fieldLink RX9 15 "CoatsHall$Rush" "tip" "[I") (nq_m (n := 8) rfl)
  have hf66 : (Cond.fieldLink RX9 66 "CoatsHall$Guests" (TX2 3).2.1 (TX2 3).2.2.1).before ([.ref au, .int x1, .ref ag, .ref ah] : List Value).toArray s = true := hts (.fieldLink RX9 66 "CoatsHall$Guests" "tip" "[I") (nq_m (n := 9) rfl)
  have hf18 : (Cond.fieldLink RX9 18 "CoatsHall$Rush" (TX9 2).2.1 (TX9 2).2.2.1).before ([.ref au, .int x1, .ref ag, .ref ah] : List Value).toArray s = true := hts (.fieldLink RX9 18 "CoatsHall$Rush" "row" "[I") (nq_m (n := 10) rfl)
  refine lv_aload_n hx hb (nq_d dX9_load_0_g (n := 0) rfl) rfl (lv_at hl 0 rfl) ?_
  refine lv_iconst (v := (0 : Int32)) hx hb (nq_d dX9_load_0_g (n := 1) rfl) (by decide) ?_
  refine gx_put (D := (dC, dI)) (ci := 9) (v := .int (0 : Int32)) (ty := .int) (C := RX9) (T := TX9) (N := 12) hx hb hts hi_X9 tyX9 tyX9_ok nmX9 hown hK hP hD hS 5 rfl rfl 8 (by decide) hf36 (fun _ h9 => h9) rfl (by decide +kernel) rfl rfl (Nat.le_of_ble_eq_true rfl) (nq_d dX9_load_0_g (n := 2) rfl) [(ag, .inr (2, [.int g_number, .ref ag_sort, .ref ag_kind, .ref ag_tip, .ref ag_marks, .ref ag_brass, .ref ag_peg, .ref ag_has])), (ag_tip, .inl (cyI, 16, .inl g_tip)), (ag_peg, .inl (cyI, 16, .inl g_peg)), (ah, .inr (3, [.ref ah_kind, .ref ah_walk, .ref ah_share, .ref ah_weight, .int h_pegs, .int h_ticks, .int h_loss])), (ah_walk, .inl (cyI, 24, .inl h_walk)), (au, .inr (9, [.ref au_ticks, .ref au_tip, .ref au_row, .ref au_freeAt, .ref au_waits, .ref au_greatest, .ref au_tips, .ref au_best, .int (0 : Int32), .int u_loss, .int u_bestTips, .int u_bestWaits])), (au_ticks, .inl (cyI, 16, .inl u_ticks)), (au_tip, .inl (cyI, 16, .inl u_tip)), (au_row, .inl (cyI, 16, .inl u_row))] rfl (fun H locs hP hD hS => ?_)
  refine lv_aload_n hx hb (nq_d dX9_load_0_g (n := 3) rfl) rfl (lv_at hl 0 rfl) ?_
  refine lv_aload_n hx hb (nq_d dX9_load_0_g (n := 4) rfl) rfl (lv_at hl 3 rfl) ?_
  refine va_get (D := (dC, dI)) (ci := 3) (v := .int h_loss) (C := RX3) (T := TX3) (N := 7) hx hb hts hi_X3 hown hK hP 3 rfl rfl 6 (by decide) hf49 (fun _ h9 => h9) rfl (nq_d dX9_load_0_g (n := 5) rfl) ?_
  refine gx_put (D := (dC, dI)) (ci := 9) (v := .int h_loss) (ty := .int) (C := RX9) (T := TX9) (N := 12) hx hb hts hi_X9 tyX9 tyX9_ok nmX9 hown hK hP hD hS 5 rfl rfl 9 (by decide) hf40 (fun _ h9 => h9) rfl (by decide +kernel) rfl rfl (Nat.le_of_ble_eq_true rfl) (nq_d dX9_load_0_g (n := 6) rfl) [(ag, .inr (2, [.int g_number, .ref ag_sort, .ref ag_kind, .ref ag_tip, .ref ag_marks, .ref ag_brass, .ref ag_peg, .ref ag_has])), (ag_tip, .inl (cyI, 16, .inl g_tip)), (ag_peg, .inl (cyI, 16, .inl g_peg)), (ah, .inr (3, [.ref ah_kind, .ref ah_walk, .ref ah_share, .ref ah_weight, .int h_pegs, .int h_ticks, .int h_loss])), (ah_walk, .inl (cyI, 24, .inl h_walk)), (au, .inr (9, [.ref au_ticks, .ref au_tip, .ref au_row, .ref au_freeAt, .ref au_waits, .ref au_greatest, .ref au_tips, .ref au_best, .int (0 : Int32), .int h_loss, .int u_bestTips, .int u_bestWaits])), (au_ticks, .inl (cyI, 16, .inl u_ticks)), (au_tip, .inl (cyI, 16, .inl u_tip)), (au_row, .inl (cyI, 16, .inl u_row))] rfl (fun H locs hP hD hS => ?_)
  refine lv_iconst (v := (0 : Int32)) hx hb (nq_d dX9_load_0_g (n := 7) rfl) (by decide) ?_
  refine lv_istore (lv' := [(4, .int (0 : Int32)), (0, .ref au), (1, .int x1), (2, .ref ag), (3, .ref ah)]) hx hb (nq_d dX9_load_0_g (n := 8) rfl) hl (by decide) rfl (fun ls hl => ?_)
  refine nlp5_el hw (fun X0_23 X1_23 X2_23 X3_23 X4_23 => ∀ (l4_1 : Int32) (z2 : Int32) (z3 : (Nat → Int32)) (z4 : (Nat → Int32)) (z5 : (Nat → Int32)), X0_23 = l4_1.toInt → X1_23 = z2.toInt → X2_23 = (aI 16 z3) → X3_23 = (aI 16 z4) → X4_23 = (aI 16 z5) → ∀ (H : Heap) (locs : List Loc) (ls : Array Slot), va_P (dC, dI) vwCl [(ag, .inr (2, [.int g_number, .ref ag_sort, .ref ag_kind, .ref ag_tip, .ref ag_marks, .ref ag_brass, .ref ag_peg, .ref ag_has])), (ag_tip, .inl (cyI, 16, .inl g_tip)), (ag_peg, .inl (cyI, 16, .inl g_peg)), (ah, .inr (3, [.ref ah_kind, .ref ah_walk, .ref ah_share, .ref ah_weight, .int h_pegs, .int h_ticks, .int h_loss])), (ah_walk, .inl (cyI, 24, .inl h_walk)), (au, .inr (9, [.ref au_ticks, .ref au_tip, .ref au_row, .ref au_freeAt, .ref au_waits, .ref au_greatest, .ref au_tips, .ref au_best, .int z2, .int h_loss, .int u_bestTips, .int u_bestWaits])), (au_ticks, .inl (cyI, 16, .inl z3)), (au_tip, .inl (cyI, 16, .inl z4)), (au_row, .inl (cyI, 16, .inl z5))] H → va_D A [(ag, .inr (2, [.int g_number, .ref ag_sort, .ref ag_kind, .ref ag_tip, .ref ag_marks, .ref ag_brass, .ref ag_peg, .ref ag_has])), (ag_tip, .inl (cyI, 16, .inl g_tip)), (ag_peg, .inl (cyI, 16, .inl g_peg)), (ah, .inr (3, [.ref ah_kind, .ref ah_walk, .ref ah_share, .ref ah_weight, .int h_pegs, .int h_ticks, .int h_loss])), (ah_walk, .inl (cyI, 24, .inl h_walk)), (au, .inr (9, [.ref au_ticks, .ref au_tip, .ref au_row, .ref au_freeAt, .ref au_waits, .ref au_greatest, .ref au_tips, .ref au_best, .int z2, .int h_loss, .int u_bestTips, .int u_bestWaits])), (au_ticks, .inl (cyI, 16, .inl z3)), (au_tip, .inl (cyI, 16, .inl z4)), (au_row, .inl (cyI, 16, .inl z5))] → va_S A s.heap H locs → lv_has ls 5 [(0, .ref au), (1, .int x1), (2, .ref ag), (3, .ref ah), (4, .int l4_1)] → W p l e (headSpec wsX9_load rmX9_load).room s m ([.ref au, .int x1, .ref ag, .ref ah] : List Value).toArray below meth c H locs 0 0 Q9 (F0 m 16 ls [])) (fun self6 hPself6 X0_23 X1_23 X2_23 X3_23 X4_23 hw l4_1 z2 z3 z4 z5 eX0_23 eX1_23 eX2_23 eX3_23 eX4_23 H locs ls hP hD hS hl => ?_) (0 : Int32) (0 : Int32) u_ticks u_tip u_row rfl rfl rfl rfl rfl _ _ _ hP hD hS (lv_sub hl [1, 2, 3, 4, 0] rfl)
  subst eX0_23
  subst eX1_23
  subst eX2_23
  subst eX3_23
  subst eX4_23
  refine lv_iload hx hb (nq_d dX9_load_0_g (n := 9) rfl) (lv_at hl 4 rfl) ?_
  refine lv_aload_n hx hb (nq_d dX9_load_0_g (n := 10) rfl) rfl (lv_at hl 2 rfl) ?_
  refine va_get (D := (dC, dI)) (ci := 2) (v := .int g_number) (C := RX2) (T := TX2) (N := 8) hx hb hts hi_X2 hown hK hP 0 rfl rfl 0 (by decide) hf52 (fun _ h9 => h9) rfl (nq_d dX9_load_0_g (n := 11) rfl) ?_
  refine gx_icmp_ge (tgt := 101) hx hb (nq_d dX9_load_0_g (n := 12) rfl) (by decide) hw (fun hw => ?_) (fun hw => ?_)
  · exact rt_v (A1 := A) hQ hx hb hr hlocks hP hD hS (z2, h_loss, z3, z4, z5) [0, 1, 2, 3, 4, 5, 6, 7, 8] rfl (by decide +kernel) hw (nq_d dX9_load_70_g (n := 17) rfl)
  · refine lv_iload_n hx hb (nq_d dX9_load_0_g (n := 13) rfl) rfl (lv_at hl 1 rfl) ?_
    refine lv_iload hx hb (nq_d dX9_load_0_g (n := 14) rfl) (lv_at hl 4 rfl) ?_
    refine gx_ishr hx hb (nq_d dX9_load_0_g (n := 15) rfl) hw (fun v7 hw => ?_)
    refine lv_iconst (v := (1 : Int32)) hx hb (nq_d dX9_load_0_g (n := 16) rfl) (by decide) ?_
    refine gx_iand hx hb (nq_d dX9_load_0_g (n := 17) rfl) hw (fun v8 hw => ?_)
    refine lv_iconst (v := (1 : Int32)) hx hb (nq_d dX9_load_0_g (n := 18) rfl) (by decide) ?_
    refine jn4_el hw (fun j13 hj13 hw => ?_)
    have Jj13 : ∀ (z9 : Int32) (z10 : (Nat → Int32)) (z11 : (Nat → Int32)) (z12 : (Nat → Int32)) (H : Heap) (locs : List Loc) (ls : Array Slot), va_P (dC, dI) vwCl [(ag, .inr (2, [.int g_number, .ref ag_sort, .ref ag_kind, .ref ag_tip, .ref ag_marks, .ref ag_brass, .ref ag_peg, .ref ag_has])), (ag_tip, .inl (cyI, 16, .inl g_tip)), (ag_peg, .inl (cyI, 16, .inl g_peg)), (ah, .inr (3, [.ref ah_kind, .ref ah_walk, .ref ah_share, .ref ah_weight, .int h_pegs, .int h_ticks, .int h_loss])), (ah_walk, .inl (cyI, 24, .inl h_walk)), (au, .inr (9, [.ref au_ticks, .ref au_tip, .ref au_row, .ref au_freeAt, .ref au_waits, .ref au_greatest, .ref au_tips, .ref au_best, .int z9, .int h_loss, .int u_bestTips, .int u_bestWaits])), (au_ticks, .inl (cyI, 16, .inl z10)), (au_tip, .inl (cyI, 16, .inl z11)), (au_row, .inl (cyI, 16, .inl z12))] H → va_D A [(ag, .inr (2, [.int g_number, .ref ag_sort, .ref ag_kind, .ref ag_tip, .ref ag_marks, .ref ag_brass, .ref ag_peg, .ref ag_has])), (ag_tip, .inl (cyI, 16, .inl g_tip)), (ag_peg, .inl (cyI, 16, .inl g_peg)), (ah, .inr (3, [.ref ah_kind, .ref ah_walk, .ref ah_share, .ref ah_weight, .int h_pegs, .int h_ticks, .int h_loss])), (ah_walk, .inl (cyI, 24, .inl h_walk)), (au, .inr (9, [.ref au_ticks, .ref au_tip, .ref au_row, .ref au_freeAt, .ref au_waits, .ref au_greatest, .ref au_tips, .ref au_best, .int z9, .int h_loss, .int u_bestTips, .int u_bestWaits])), (au_ticks, .inl (cyI, 16, .inl z10)), (au_tip, .inl (cyI, 16, .inl z11)), (au_row, .inl (cyI, 16, .inl z12))] → va_S A s.heap H locs → lv_has ls 5 [(0, .ref au), (1, .int x1), (2, .ref ag), (3, .ref ah), (4, .int l4_1)] → j13 z9.toInt (aI 16 z10) (aI 16 z11) (aI 16 z12) → W p l e (headSpec wsX9_load rmX9_load).room s m ([.ref au, .int x1, .ref ag, .ref ah] : List Value).toArray below meth c H locs 0 0 Q9 (F0 m 95 ls []) := by
      intro z9 z10 z11 z12 H locs ls hP hD hS hl hw
      have hw := hj13 _ _ _ _ hw
      refine gx_iinc (k := 4) (z := (1 : Int32)) (lv' := fun v14 => [(4, .int v14), (0, .ref au), (1, .int x1), (2, .ref ag), (3, .ref ah)]) hx hb (nq_d dX9_load_70_g (n := 15) rfl) hl rfl (by decide) (by decide) (fun _ => rfl) hw (fun v14 ls hw hl => ?_)
      refine lv_goto (tgt := 16) hx hb (nq_d dX9_load_70_g (n := 16) rfl) (by decide) ?_
      exact hPself6 _ _ _ _ _ hw v14 z9 z10 z11 z12 rfl rfl rfl rfl rfl _ _ _ hP hD hS (lv_sub hl [1, 2, 3, 4, 0] rfl)
    refine gx_icmp_ne (tgt := 95) hx hb (nq_d dX9_load_0_g (n := 19) rfl) (by decide) hw (fun hw => ?_) (fun hw => ?_)
    · exact Jj13 z2 z3 z4 z5 _ _ _ hP hD hS (lv_sub hl [0, 1, 2, 3, 4] rfl) hw
    · refine lv_aload_n hx hb (nq_d dX9_load_0_g (n := 20) rfl) rfl (lv_at hl 0 rfl) ?_
      refine va_get (D := (dC, dI)) (ci := 9) (v := .ref au_ticks) (C := RX9) (T := TX9) (N := 12) hx hb hts hi_X9 hown hK hP 5 rfl rfl 0 (by decide) hf9 (fun _ h9 => h9) rfl (nq_d dX9_load_0_g (n := 21) rfl) ?_
      refine lv_iload hx hb (nq_d dX9_load_0_g (n := 22) rfl) (lv_at hl 4 rfl) ?_
      refine lv_iconst (v := (2 : Int32)) hx hb (nq_d dX9_load_0_g (n := 23) rfl) (by decide) ?_
      refine lv_aload_n hx hb (nq_d dX9_load_0_g (n := 24) rfl) rfl (lv_at hl 3 rfl) ?_
      refine lv_aload_n hx hb (nq_d dX9_load_0_g (n := 25) rfl) rfl (lv_at hl 2 rfl) ?_
      refine va_get (D := (dC, dI)) (ci := 2) (v := .ref ag_peg) (C := RX2) (T := TX2) (N := 8) hx hb hts hi_X2 hown hK hP 0 rfl rfl 6 (by decide) hf57 (fun _ h9 => h9) rfl (nq_d dX9_load_0_g (n := 26) rfl) ?_
      refine lv_iload hx hb (nq_d dX9_load_0_g (n := 27) rfl) (lv_at hl 4 rfl) ?_
      refine gx_iald hx hb hK hP 2 1 rfl rfl (nq_d dX9_load_0_g (n := 28) rfl) hw (fun v15 hw => ?_)
      refine gx_ri (wr := [(ag, .inr (2, [.int g_number, .ref ag_sort, .ref ag_kind, .ref ag_tip, .ref ag_marks, .ref ag_brass, .ref ag_peg, .ref ag_has])), (ag_tip, .inl (cyI, 16, .inl g_tip)), (ag_peg, .inl (cyI, 16, .inl g_peg)), (au, .inr (9, [.ref au_ticks, .ref au_tip, .ref au_row, .ref au_freeAt, .ref au_waits, .ref au_greatest, .ref au_tips, .ref au_best, .int z2, .int h_loss, .int u_bestTips, .int u_bestWaits])), (au_ticks, .inl (cyI, 16, .inl z3)), (au_tip, .inl (cyI, 16, .inl z4)), (au_row, .inl (cyI, 16, .inl z5))]) (va_runV (As := [.int v15]) (rest := [.int (2 : Int32), .int l4_1, .ref au_ticks]) ⟨hx, hb, hml, hown, hts⟩ (ct_Hall_walkOf l dC dI cyB cyI cyJ cyZ ah ah_kind ah_walk ah_share ah_weight _ h_pegs h_ticks h_loss h_walk v15 _) (cwV 1 hts gX9_load_X3_walkOf rfl rfl rfl cd_X3_walkOf ⟨Nat.le_of_ble_eq_true rfl, Nat.le_of_ble_eq_true rfl⟩) (gx_preV hK hP hD hNw [3, 4] rfl (by decide +kernel) hw 3 (ci := 3) rfl rfl rfl) rfl rfl hl.1 rfl (lv_room (Nat.le_of_ble_eq_true rfl)) (nq_d dX9_load_0_g (n := 29) rfl) ⟨Nat.zero_le _, Nat.zero_le _⟩) hP hD hS hA [3, 4] [0, 1, 2, 5, 6, 7, 8] [0, 1, 2, 7, 8, 3, 4, 5, 6] rfl rfl (by decide) (by decide) (by decide) (fun _ => [(ag, .inr (2, [.int g_number, .ref ag_sort, .ref ag_kind, .ref ag_tip, .ref ag_marks, .ref ag_brass, .ref ag_peg, .ref ag_has])), (ag_tip, .inl (cyI, 16, .inl g_tip)), (ag_peg, .inl (cyI, 16, .inl g_peg)), (ah, .inr (3, [.ref ah_kind, .ref ah_walk, .ref ah_share, .ref ah_weight, .int h_pegs, .int h_ticks, .int h_loss])), (ah_walk, .inl (cyI, 24, .inl h_walk)), (au, .inr (9, [.ref au_ticks, .ref au_tip, .ref au_row, .ref au_freeAt, .ref au_waits, .ref au_greatest, .ref au_tips, .ref au_best, .int z2, .int h_loss, .int u_bestTips, .int u_bestWaits])), (au_ticks, .inl (cyI, 16, .inl z3)), (au_tip, .inl (cyI, 16, .inl z4)), (au_row, .inl (cyI, 16, .inl z5))]) (fun _ => rfl) (fun r16 u H locs hw hP hD hS => ?_)
      try dsimp only at hw hP hD
      refine gx_imul hx hb (nq_d dX9_load_0_g (n := 30) rfl) hw (fun v17 hw => ?_)
      refine lv_aload_n hx hb (nq_d dX9_load_0_g (n := 31) rfl) rfl (lv_at hl 3 rfl) ?_
      refine va_get (D := (dC, dI)) (ci := 3) (v := .int h_ticks) (C := RX3) (T := TX3) (N := 7) hx hb hts hi_X3 hown hK hP 3 rfl rfl 5 (by decide) hf64 (fun _ h9 => h9) rfl (nq_d dX9_load_0_g (n := 32) rfl) ?_
      refine gx_iadd hx hb (nq_d dX9_load_0_g (n := 33) rfl) hw (fun v18 hw => ?_)
      refine gx_iast hx hb hK hP hD hS 6 1 rfl rfl (nq_d dX9_load_0_g (n := 34) rfl) (fun f19 => [(ag, .inr (2, [.int g_number, .ref ag_sort, .ref ag_kind, .ref ag_tip, .ref ag_marks, .ref ag_brass, .ref ag_peg, .ref ag_has])), (ag_tip, .inl (cyI, 16, .inl g_tip)), (ag_peg, .inl (cyI, 16, .inl g_peg)), (ah, .inr (3, [.ref ah_kind, .ref ah_walk, .ref ah_share, .ref ah_weight, .int h_pegs, .int h_ticks, .int h_loss])), (ah_walk, .inl (cyI, 24, .inl h_walk)), (au, .inr (9, [.ref au_ticks, .ref au_tip, .ref au_row, .ref au_freeAt, .ref au_waits, .ref au_greatest, .ref au_tips, .ref au_best, .int z2, .int h_loss, .int u_bestTips, .int u_bestWaits])), (au_ticks, .inl (cyI, 16, .inl f19)), (au_tip, .inl (cyI, 16, .inl z4)), (au_row, .inl (cyI, 16, .inl z5))]) (fun _ => rfl) hw (fun f19 H locs hw hP hD hS => ?_)
      refine lv_aload_n hx hb (nq_d dX9_load_0_g (n := 35) rfl) rfl (lv_at hl 0 rfl) ?_
      refine va_get (D := (dC, dI)) (ci := 9) (v := .ref au_tip) (C := RX9) (T := TX9) (N := 12) hx hb hts hi_X9 hown hK hP 5 rfl rfl 1 (by decide) hf15 (fun _ h9 => h9) rfl (nq_d dX9_load_0_g (n := 36) rfl) ?_
      refine lv_iload hx hb (nq_d dX9_load_0_g (n := 37) rfl) (lv_at hl 4 rfl) ?_
      refine lv_aload_n hx hb (nq_d dX9_load_0_g (n := 38) rfl) rfl (lv_at hl 2 rfl) ?_
      refine va_get (D := (dC, dI)) (ci := 2) (v := .ref ag_tip) (C := RX2) (T := TX2) (N := 8) hx hb hts hi_X2 hown hK hP 0 rfl rfl 3 (by decide) hf66 (fun _ h9 => h9) rfl (nq_d dX9_load_0_g (n := 39) rfl) ?_
      refine lv_iload hx hb (nq_d dX9_load_70_g (n := 0) rfl) (lv_at hl 4 rfl) ?_
      refine gx_iald hx hb hK hP 1 1 rfl rfl (nq_d dX9_load_70_g (n := 1) rfl) hw (fun v20 hw => ?_)
      refine gx_iast hx hb hK hP hD hS 7 1 rfl rfl (nq_d dX9_load_70_g (n := 2) rfl) (fun f21 => [(ag, .inr (2, [.int g_number, .ref ag_sort, .ref ag_kind, .ref ag_tip, .ref ag_marks, .ref ag_brass, .ref ag_peg, .ref ag_has])), (ag_tip, .inl (cyI, 16, .inl g_tip)), (ag_peg, .inl (cyI, 16, .inl g_peg)), (ah, .inr (3, [.ref ah_kind, .ref ah_walk, .ref ah_share, .ref ah_weight, .int h_pegs, .int h_ticks, .int h_loss])), (ah_walk, .inl (cyI, 24, .inl h_walk)), (au, .inr (9, [.ref au_ticks, .ref au_tip, .ref au_row, .ref au_freeAt, .ref au_waits, .ref au_greatest, .ref au_tips, .ref au_best, .int z2, .int h_loss, .int u_bestTips, .int u_bestWaits])), (au_ticks, .inl (cyI, 16, .inl f19)), (au_tip, .inl (cyI, 16, .inl f21)), (au_row, .inl (cyI, 16, .inl z5))]) (fun _ => rfl) hw (fun f21 H locs hw hP hD hS => ?_)
      refine lv_aload_n hx hb (nq_d dX9_load_70_g (n := 3) rfl) rfl (lv_at hl 0 rfl) ?_
      refine va_get (D := (dC, dI)) (ci := 9) (v := .ref au_row) (C := RX9) (T := TX9) (N := 12) hx hb hts hi_X9 hown hK hP 5 rfl rfl 2 (by decide) hf18 (fun _ h9 => h9) rfl (nq_d dX9_load_70_g (n := 4) rfl) ?_
      refine lv_aload_n hx hb (nq_d dX9_load_70_g (n := 5) rfl) rfl (lv_at hl 0 rfl) ?_
      refine va_get (D := (dC, dI)) (ci := 9) (v := .int z2) (C := RX9) (T := TX9) (N := 12) hx hb hts hi_X9 hown hK hP 5 rfl rfl 8 (by decide) hf36 (fun _ h9 => h9) rfl (nq_d dX9_load_70_g (n := 6) rfl) ?_
      refine lv_iload hx hb (nq_d dX9_load_70_g (n := 7) rfl) (lv_at hl 4 rfl) ?_
      refine gx_iast hx hb hK hP hD hS 8 1 rfl rfl (nq_d dX9_load_70_g (n := 8) rfl) (fun f22 => [(ag, .inr (2, [.int g_number, .ref ag_sort, .ref ag_kind, .ref ag_tip, .ref ag_marks, .ref ag_brass, .ref ag_peg, .ref ag_has])), (ag_tip, .inl (cyI, 16, .inl g_tip)), (ag_peg, .inl (cyI, 16, .inl g_peg)), (ah, .inr (3, [.ref ah_kind, .ref ah_walk, .ref ah_share, .ref ah_weight, .int h_pegs, .int h_ticks, .int h_loss])), (ah_walk, .inl (cyI, 24, .inl h_walk)), (au, .inr (9, [.ref au_ticks, .ref au_tip, .ref au_row, .ref au_freeAt, .ref au_waits, .ref au_greatest, .ref au_tips, .ref au_best, .int z2, .int h_loss, .int u_bestTips, .int u_bestWaits])), (au_ticks, .inl (cyI, 16, .inl f19)), (au_tip, .inl (cyI, 16, .inl f21)), (au_row, .inl (cyI, 16, .inl f22))]) (fun _ => rfl) hw (fun f22 H locs hw hP hD hS => ?_)
      refine lv_aload_n hx hb (nq_d dX9_load_70_g (n := 9) rfl) rfl (lv_at hl 0 rfl) ?_
      refine lv_dup hx hb (nq_d dX9_load_70_g (n := 10) rfl) rfl ?_
      refine va_get (D := (dC, dI)) (ci := 9) (v := .int z2) (C := RX9) (T := TX9) (N := 12) hx hb hts hi_X9 hown hK hP 5 rfl rfl 8 (by decide) hf36 (fun _ h9 => h9) rfl (nq_d dX9_load_70_g (n := 11) rfl) ?_
      refine lv_iconst (v := (1 : Int32)) hx hb (nq_d dX9_load_70_g (n := 12) rfl) (by decide) ?_
      refine gx_iadd hx hb (nq_d dX9_load_70_g (n := 13) rfl) hw (fun v23 hw => ?_)
      refine gx_put (D := (dC, dI)) (ci := 9) (v := .int v23) (ty := .int) (C := RX9) (T := TX9) (N := 12) hx hb hts hi_X9 tyX9 tyX9_ok nmX9 hown hK hP hD hS 5 rfl rfl 8 (by decide) hf36 (fun _ h9 => h9) rfl (by decide +kernel) rfl rfl (Nat.le_of_ble_eq_true rfl) (nq_d dX9_load_70_g (n := 14) rfl) [(ag, .inr (2, [.int g_number, .ref ag_sort, .ref ag_kind, .ref ag_tip, .ref ag_marks, .ref ag_brass, .ref ag_peg, .ref ag_has])), (ag_tip, .inl (cyI, 16, .inl g_tip)), (ag_peg, .inl (cyI, 16, .inl g_peg)), (ah, .inr (3, [.ref ah_kind, .ref ah_walk, .ref ah_share, .ref ah_weight, .int h_pegs, .int h_ticks, .int h_loss])), (ah_walk, .inl (cyI, 24, .inl h_walk)), (au, .inr (9, [.ref au_ticks, .ref au_tip, .ref au_row, .ref au_freeAt, .ref au_waits, .ref au_greatest, .ref au_tips, .ref au_best, .int v23, .int h_loss, .int u_bestTips, .int u_bestWaits])), (au_ticks, .inl (cyI, 16, .inl f19)), (au_tip, .inl (cyI, 16, .inl f21)), (au_row, .inl (cyI, 16, .inl f22))] rfl (fun H locs hP hD hS => ?_)
      exact Jj13 v23 f19 f21 f22 _ _ _ hP hD hS (lv_sub hl [0, 1, 2, 3, 4] rfl) hw
abbrev rmX9_sumOfWaits : Room := { frames := 0, cells := 0, slots := 0, locals := 0 }
theorem cd_X9_sumOfWaits : yX9_sumOfWaits.cls = RX9 ∧ yX9_sumOfWaits.cls ≠ "java/lang/invoke/MethodHandle" ∧ yX9_sumOfWaits.cls ≠ "java/lang/invoke/VarHandle" ∧ (parseMethodDescriptor yX9_sumOfWaits.desc).map (fun d => d.parameters.length) = some 0 := by decide +kernel
set_option maxHeartbeats 4000000 in
set_option maxRecDepth 100000 in
theorem ct_Rush_sumOfWaits (l : Launch) (dC : Nat → ClassId) (dI : Nat → Nat → Nat) (cyB cyI cyJ cyZ : ClassId) (au au_ticks au_tip au_row au_freeAt au_waits au_greatest au_tips au_best : Nat) (sz : Nat) (u_size : Int32) (u_loss : Int32) (u_bestTips : Int32) (u_bestWaits : Int32) (u_waits : Nat → Int32) (Q : Int → Prop) : Met l yX9_sumOfWaits wsX9_sumOfWaits rmX9_sumOfWaits (va_Pc [.ref au] (cPre (dC, dI) vwCl (tyS cyB cyI cyJ cyZ) [(au, .inr (9, [.ref au_ticks, .ref au_tip, .ref au_row, .ref au_freeAt, .ref au_waits, .ref au_greatest, .ref au_tips, .ref au_best, .int u_size, .int u_loss, .int u_bestTips, .int u_bestWaits])), (au_waits, .inl (cyI, 17, .inl u_waits))] sz (nf_Rush_sumOfWaits u_size.toInt (aI 17 u_waits)  Q))) (va_Qi (fun (r : Int32) (_ : Unit) => Q r.toInt ) (cPost (dC, dI) vwCl (fun _ : Unit => [(au, .inr (9, [.ref au_ticks, .ref au_tip, .ref au_row, .ref au_freeAt, .ref au_waits, .ref au_greatest, .ref au_tips, .ref au_best, .int u_size, .int u_loss, .int u_bestTips, .int u_bestWaits])), (au_waits, .inl (cyI, 17, .inl u_waits))]) (va_A [(au, .inr (9, [.ref au_ticks, .ref au_tip, .ref au_row, .ref au_freeAt, .ref au_waits, .ref au_greatest, .ref au_tips, .ref au_best, .int u_size, .int u_loss, .int u_bestTips, .int u_bestWaits])), (au_waits, .inl (cyI, 17, .inl u_waits))] sz)) (va_A [(au, .inr (9, [.ref au_ticks, .ref au_tip, .ref au_row, .ref au_freeAt, .ref au_waits, .ref au_greatest, .ref au_tips, .ref au_best, .int u_size, .int u_loss, .int u_bestTips, .int u_bestWaits])), (au_waits, .inl (cyI, 17, .inl u_waits))] sz)) 0 0 (va_A [(au, .inr (9, [.ref au_ticks, .ref au_tip, .ref au_row, .ref au_freeAt, .ref au_waits, .ref au_greatest, .ref au_tips, .ref au_best, .int u_size, .int u_loss, .int u_bestTips, .int u_bestWaits])), (au_waits, .inl (cyI, 17, .inl u_waits))] sz) := by
  refine Met.ofW (cc := cX9_sumOfWaits) (maxL := 1) (ret := (some .int)) (by decide) rfl ?_
  intro p e s m args below meth c s₁ B hml hv
  obtain ⟨rfl, hsz, hP, hK, hD0, hNw, hw⟩ := hv
  have hx := B.exec
  have hb := B.bytes
  have hr := B.returns
  have hts := atoms_spec (ws := wsX9_sumOfWaits) B.pre
  have hown : s.vm.findClass RX9 = some m.cls := findClass_of_methodNamed B.named
  have hlocks := B.notSynchronized
  subst hsz
  have hD := hD0.self (sz := s.heap.size)
  generalize hAe : va_A [(au, .inr (9, [.ref au_ticks, .ref au_tip, .ref au_row, .ref au_freeAt, .ref au_waits, .ref au_greatest, .ref au_tips, .ref au_best, .int u_size, .int u_loss, .int u_bestTips, .int u_bestWaits])), (au_waits, .inl (cyI, 17, .inl u_waits))] s.heap.size = A at hD ⊢
  have hA : ∀ q : Nat, s.heap.size ≤ q → A q := fun q h => by rw [← hAe]; exact Or.inr h
  have hS : va_S A s.heap s.heap [] := va_S.rf
  have hl := lv_entry ([.ref au]) (n := 1) (Nat.le_of_ble_eq_true rfl)
  rw [lg_entry_eq]
  generalize (lg_sl ([.ref au]) ++ List.replicate (1 - (lg_sl ([.ref au])).length) Slot.unset).toArray = ls at hl ⊢
  have hl : lv_has ls 1 [(0, .ref au)] := hl
  refine gx_q (fun Q9 hQ => ?_)
  unfold nf_Rush_sumOfWaits at hw
  have hi_X9 : ∀ w ∈ wsX90, w ∈ wsX9_sumOfWaits := (sub_c (nq_m (n := 3) rfl) (sub_c (nq_m (n := 4) rfl) (sub_c (nq_m (n := 5) rfl) (sub_c (nq_m (n := 6) rfl) (sub_c (nq_m (n := 7) rfl) (sub_c (nq_m (n := 8) rfl) (sub_c (nq_m (n := 9) rfl) (sub_c (nq_m (n := 10) rfl) (sub_c (nq_m (n := 11) rfl) (sub_c (nq_m (n := 12) rfl) (sub_c (nq_m (n := 13) rfl) (sub_c (nq_m (n := 14) rfl) sub_n))))))))))))
  have hf24 : (Cond.fieldLink RX9 24 "CoatsHall$Rush" (TX9 4).2.1 (TX9 4).2.2.1).before ([.ref au] : List Value).toArray s = true := hts (.fieldLink RX9 24 "CoatsHall$Rush" "waits" "[I") (nq_m (n := 1) rfl)
  have hf36 : (Cond.fieldLink RX9 36 "CoatsHall$Rush" (TX9 8).2.1 (TX9 8).2.2.1).before ([.ref au] : List Value).toArray s = true := hts (.fieldLink RX9 36 "CoatsHall$Rush" "size" "I") (nq_m (n := 2) rfl)
  refine lv_aload_n hx hb (nq_d dX9_sumOfWaits_0_g (n := 0) rfl) rfl (lv_at hl 0 rfl) ?_
  refine va_get (D := (dC, dI)) (ci := 9) (v := .ref au_waits) (C := RX9) (T := TX9) (N := 12) hx hb hts hi_X9 hown hK hP 0 rfl rfl 4 (by decide) hf24 (fun _ h9 => h9) rfl (nq_d dX9_sumOfWaits_0_g (n := 1) rfl) ?_
  refine lv_aload_n hx hb (nq_d dX9_sumOfWaits_0_g (n := 2) rfl) rfl (lv_at hl 0 rfl) ?_
  refine va_get (D := (dC, dI)) (ci := 9) (v := .int u_size) (C := RX9) (T := TX9) (N := 12) hx hb hts hi_X9 hown hK hP 0 rfl rfl 8 (by decide) hf36 (fun _ h9 => h9) rfl (nq_d dX9_sumOfWaits_0_g (n := 3) rfl) ?_
  refine gx_iald hx hb hK hP 1 1 rfl rfl (nq_d dX9_sumOfWaits_0_g (n := 4) rfl) hw (fun v1 hw => ?_)
  exact rt_i (A1 := A) hQ hx hb hr hlocks hP hD hS () [0, 1] rfl (by decide +kernel) hw (nq_d dX9_sumOfWaits_0_g (n := 5) rfl)
abbrev rmX9_greatestWait : Room := { frames := 0, cells := 0, slots := 0, locals := 0 }
theorem cd_X9_greatestWait : yX9_greatestWait.cls = RX9 ∧ yX9_greatestWait.cls ≠ "java/lang/invoke/MethodHandle" ∧ yX9_greatestWait.cls ≠ "java/lang/invoke/VarHandle" ∧ (parseMethodDescriptor yX9_greatestWait.desc).map (fun d => d.parameters.length) = some 0 := by decide +kernel
set_option maxHeartbeats 4000000 in
set_option maxRecDepth 100000 in
theorem ct_Rush_greatestWait (l : Launch) (dC : Nat → ClassId) (dI : Nat → Nat → Nat) (cyB cyI cyJ cyZ : ClassId) (au au_ticks au_tip au_row au_freeAt au_waits au_greatest au_tips au_best : Nat) (sz : Nat) (u_size : Int32) (u_loss : Int32) (u_bestTips : Int32) (u_bestWaits : Int32) (u_greatest : Nat → Int32) (Q : Int → Prop) : Met l yX9_greatestWait wsX9_greatestWait rmX9_greatestWait (va_Pc [.ref au] (cPre (dC, dI) vwCl (tyS cyB cyI cyJ cyZ) [(au, .inr (9, [.ref au_ticks, .ref au_tip, .ref au_row, .ref au_freeAt, .ref au_waits, .ref au_greatest, .ref au_tips, .ref au_best, .int u_size, .int u_loss, .int u_bestTips, .int u_bestWaits])), (au_greatest, .inl (cyI, 17, .inl u_greatest))] sz (nf_Rush_greatestWait u_size.toInt (aI 17 u_greatest)  Q))) (va_Qi (fun (r : Int32) (_ : Unit) => Q r.toInt ) (cPost (dC, dI) vwCl (fun _ : Unit => [(au, .inr (9, [.ref au_ticks, .ref au_tip, .ref au_row, .ref au_freeAt, .ref au_waits, .ref au_greatest, .ref au_tips, .ref au_best, .int u_size, .int u_loss, .int u_bestTips, .int u_bestWaits])), (au_greatest, .inl (cyI, 17, .inl u_greatest))]) (va_A [(au, .inr (9, [.ref au_ticks, .ref au_tip, .ref au_row, .ref au_freeAt, .ref au_waits, .ref au_greatest, .ref au_tips, .ref au_best, .int u_size, .int u_loss, .int u_bestTips, .int u_bestWaits])), (au_greatest, .inl (cyI, 17, .inl u_greatest))] sz)) (va_A [(au, .inr (9, [.ref au_ticks, .ref au_tip, .ref au_row, .ref au_freeAt, .ref au_waits, .ref au_greatest, .ref au_tips, .ref au_best, .int u_size, .int u_loss, .int u_bestTips, .int u_bestWaits])), (au_greatest, .inl (cyI, 17, .inl u_greatest))] sz)) 0 0 (va_A [(au, .inr (9, [.ref au_ticks, .ref au_tip, .ref au_row, .ref au_freeAt, .ref au_waits, .ref au_greatest, .ref au_tips, .ref au_best, .int u_size, .int u_loss, .int u_bestTips, .int u_bestWaits])), (au_greatest, .inl (cyI, 17, .inl u_greatest))] sz) := by
  refine Met.ofW (cc := cX9_greatestWait) (maxL := 1) (ret := (some .int)) (by decide) rfl ?_
  intro p e s m args below meth c s₁ B hml hv
  obtain ⟨rfl, hsz, hP, hK, hD0, hNw, hw⟩ := hv
  have hx := B.exec
  have hb := B.bytes
  have hr := B.returns
  have hts := atoms_spec (ws := wsX9_greatestWait) B.pre
  have hown : s.vm.findClass RX9 = some m.cls := findClass_of_methodNamed B.named
  have hlocks := B.notSynchronized
  subst hsz
  have hD := hD0.self (sz := s.heap.size)
  generalize hAe : va_A [(au, .inr (9, [.ref au_ticks, .ref au_tip, .ref au_row, .ref au_freeAt, .ref au_waits, .ref au_greatest, .ref au_tips, .ref au_best, .int u_size, .int u_loss, .int u_bestTips, .int u_bestWaits])), (au_greatest, .inl (cyI, 17, .inl u_greatest))] s.heap.size = A at hD ⊢
  have hA : ∀ q : Nat, s.heap.size ≤ q → A q := fun q h => by rw [← hAe]; exact Or.inr h
  have hS : va_S A s.heap s.heap [] := va_S.rf
  have hl := lv_entry ([.ref au]) (n := 1) (Nat.le_of_ble_eq_true rfl)
  rw [lg_entry_eq]
  generalize (lg_sl ([.ref au]) ++ List.replicate (1 - (lg_sl ([.ref au])).length) Slot.unset).toArray = ls at hl ⊢
  have hl : lv_has ls 1 [(0, .ref au)] := hl
  refine gx_q (fun Q9 hQ => ?_)
  unfold nf_Rush_greatestWait at hw
  have hi_X9 : ∀ w ∈ wsX90, w ∈ wsX9_greatestWait := (sub_c (nq_m (n := 3) rfl) (sub_c (nq_m (n := 4) rfl) (sub_c (nq_m (n := 5) rfl) (sub_c (nq_m (n := 6) rfl) (sub_c (nq_m (n := 7) rfl) (sub_c (nq_m (n := 8) rfl) (sub_c (nq_m (n := 9) rfl) (sub_c (nq_m (n := 10) rfl) (sub_c (nq_m (n := 11) rfl) (sub_c (nq_m (n := 12) rfl) (sub_c (nq_m (n := 13) rfl) (sub_c (nq_m (n := 14) rfl) sub_n))))))))))))
  have hf27 : (Cond.fieldLink RX9 27 "CoatsHall$Rush" (TX9 5).2.1 (TX9 5).2.2.1).before ([.ref au] : List Value).toArray s = true := hts (.fieldLink RX9 27 "CoatsHall$Rush" "greatest" "[I") (nq_m (n := 1) rfl)
  have hf36 : (Cond.fieldLink RX9 36 "CoatsHall$Rush" (TX9 8).2.1 (TX9 8).2.2.1).before ([.ref au] : List Value).toArray s = true := hts (.fieldLink RX9 36 "CoatsHall$Rush" "size" "I") (nq_m (n := 2) rfl)
  refine lv_aload_n hx hb (nq_d dX9_greatestWait_0_g (n := 0) rfl) rfl (lv_at hl 0 rfl) ?_
  refine va_get (D := (dC, dI)) (ci := 9) (v := .ref au_greatest) (C := RX9) (T := TX9) (N := 12) hx hb hts hi_X9 hown hK hP 0 rfl rfl 5 (by decide) hf27 (fun _ h9 => h9) rfl (nq_d dX9_greatestWait_0_g (n := 1) rfl) ?_
  refine lv_aload_n hx hb (nq_d dX9_greatestWait_0_g (n := 2) rfl) rfl (lv_at hl 0 rfl) ?_
  refine va_get (D := (dC, dI)) (ci := 9) (v := .int u_size) (C := RX9) (T := TX9) (N := 12) hx hb hts hi_X9 hown hK hP 0 rfl rfl 8 (by decide) hf36 (fun _ h9 => h9) rfl (nq_d dX9_greatestWait_0_g (n := 3) rfl) ?_
  refine gx_iald hx hb hK hP 1 1 rfl rfl (nq_d dX9_greatestWait_0_g (n := 4) rfl) hw (fun v1 hw => ?_)
  exact rt_i (A1 := A) hQ hx hb hr hlocks hP hD hS () [0, 1] rfl (by decide +kernel) hw (nq_d dX9_greatestWait_0_g (n := 5) rfl)
abbrev rmX9_sumOfTips : Room := { frames := 0, cells := 0, slots := 0, locals := 0 }
theorem cd_X9_sumOfTips : yX9_sumOfTips.cls = RX9 ∧ yX9_sumOfTips.cls ≠ "java/lang/invoke/MethodHandle" ∧ yX9_sumOfTips.cls ≠ "java/lang/invoke/VarHandle" ∧ (parseMethodDescriptor yX9_sumOfTips.desc).map (fun d => d.parameters.length) = some 0 := by decide +kernel
set_option maxHeartbeats 4000000 in
set_option maxRecDepth 100000 in
theorem ct_Rush_sumOfTips (l : Launch) (dC : Nat → ClassId) (dI : Nat → Nat → Nat) (cyB cyI cyJ cyZ : ClassId) (au au_ticks au_tip au_row au_freeAt au_waits au_greatest au_tips au_best : Nat) (sz : Nat) (u_size : Int32) (u_loss : Int32) (u_bestTips : Int32) (u_bestWaits : Int32) (u_tips : Nat → Int32) (Q : Int → Prop) : Met l yX9_sumOfTips wsX9_sumOfTips rmX9_sumOfTips (va_Pc [.ref au] (cPre (dC, dI) vwCl (tyS cyB cyI cyJ cyZ) [(au, .inr (9, [.ref au_ticks, .ref au_tip, .ref au_row, .ref au_freeAt, .ref au_waits, .ref au_greatest, .ref au_tips, .ref au_best, .int u_size, .int u_loss, .int u_bestTips, .int u_bestWaits])), (au_tips, .inl (cyI, 17, .inl u_tips))] sz (nf_Rush_sumOfTips u_size.toInt (aI 17 u_tips)  Q))) (va_Qi (fun (r : Int32) (_ : Unit) => Q r.toInt ) (cPost (dC, dI) vwCl (fun _ : Unit => [(au, .inr (9, [.ref au_ticks, .ref au_tip, .ref au_row, .ref au_freeAt, .ref au_waits, .ref au_greatest, .ref au_tips, .ref au_best, .int u_size, .int u_loss, .int u_bestTips, .int u_bestWaits])), (au_tips, .inl (cyI, 17, .inl u_tips))]) (va_A [(au, .inr (9, [.ref au_ticks, .ref au_tip, .ref au_row, .ref au_freeAt, .ref au_waits, .ref au_greatest, .ref au_tips, .ref au_best, .int u_size, .int u_loss, .int u_bestTips, .int u_bestWaits])), (au_tips, .inl (cyI, 17, .inl u_tips))] sz)) (va_A [(au, .inr (9, [.ref au_ticks, .ref au_tip, .ref au_row, .ref au_freeAt, .ref au_waits, .ref au_greatest, .ref au_tips, .ref au_best, .int u_size, .int u_loss, .int u_bestTips, .int u_bestWaits])), (au_tips, .inl (cyI, 17, .inl u_tips))] sz)) 0 0 (va_A [(au, .inr (9, [.ref au_ticks, .ref au_tip, .ref au_row, .ref au_freeAt, .ref au_waits, .ref au_greatest, .ref au_tips, .ref au_best, .int u_size, .int u_loss, .int u_bestTips, .int u_bestWaits])), (au_tips, .inl (cyI, 17, .inl u_tips))] sz) := by
  refine Met.ofW (cc := cX9_sumOfTips) (maxL := 1) (ret := (some .int)) (by decide) rfl ?_
  intro p e s m args below meth c s₁ B hml hv
  obtain ⟨rfl, hsz, hP, hK, hD0, hNw, hw⟩ := hv
  have hx := B.exec
  have hb := B.bytes
  have hr := B.returns
  have hts := atoms_spec (ws := wsX9_sumOfTips) B.pre
  have hown : s.vm.findClass RX9 = some m.cls := findClass_of_methodNamed B.named
  have hlocks := B.notSynchronized
  subst hsz
  have hD := hD0.self (sz := s.heap.size)
  generalize hAe : va_A [(au, .inr (9, [.ref au_ticks, .ref au_tip, .ref au_row, .ref au_freeAt, .ref au_waits, .ref au_greatest, .ref au_tips, .ref au_best, .int u_size, .int u_loss, .int u_bestTips, .int u_bestWaits])), (au_tips, .inl (cyI, 17, .inl u_tips))] s.heap.size = A at hD ⊢
  have hA : ∀ q : Nat, s.heap.size ≤ q → A q := fun q h => by rw [← hAe]; exact Or.inr h
  have hS : va_S A s.heap s.heap [] := va_S.rf
  have hl := lv_entry ([.ref au]) (n := 1) (Nat.le_of_ble_eq_true rfl)
  rw [lg_entry_eq]
  generalize (lg_sl ([.ref au]) ++ List.replicate (1 - (lg_sl ([.ref au])).length) Slot.unset).toArray = ls at hl ⊢
  have hl : lv_has ls 1 [(0, .ref au)] := hl
  refine gx_q (fun Q9 hQ => ?_)
  unfold nf_Rush_sumOfTips at hw
  have hi_X9 : ∀ w ∈ wsX90, w ∈ wsX9_sumOfTips := (sub_c (nq_m (n := 3) rfl) (sub_c (nq_m (n := 4) rfl) (sub_c (nq_m (n := 5) rfl) (sub_c (nq_m (n := 6) rfl) (sub_c (nq_m (n := 7) rfl) (sub_c (nq_m (n := 8) rfl) (sub_c (nq_m (n := 9) rfl) (sub_c (nq_m (n := 10) rfl) (sub_c (nq_m (n := 11) rfl) (sub_c (nq_m (n := 12) rfl) (sub_c (nq_m (n := 13) rfl) (sub_c (nq_m (n := 14) rfl) sub_n))))))))))))
  have hf30 : (Cond.fieldLink RX9 30 "CoatsHall$Rush" (TX9 6).2.1 (TX9 6).2.2.1).before ([.ref au] : List Value).toArray s = true := hts (.fieldLink RX9 30 "CoatsHall$Rush" "tips" "[I") (nq_m (n := 1) rfl)
  have hf36 : (Cond.fieldLink RX9 36 "CoatsHall$Rush" (TX9 8).2.1 (TX9 8).2.2.1).before ([.ref au] : List Value).toArray s = true := hts (.fieldLink RX9 36 "CoatsHall$Rush" "size" "I") (nq_m (n := 2) rfl)
  refine lv_aload_n hx hb (nq_d dX9_sumOfTips_0_g (n := 0) rfl) rfl (lv_at hl 0 rfl) ?_
  refine va_get (D := (dC, dI)) (ci := 9) (v := .ref au_tips) (C := RX9) (T := TX9) (N := 12) hx hb hts hi_X9 hown hK hP 0 rfl rfl 6 (by decide) hf30 (fun _ h9 => h9) rfl (nq_d dX9_sumOfTips_0_g (n := 1) rfl) ?_
  refine lv_aload_n hx hb (nq_d dX9_sumOfTips_0_g (n := 2) rfl) rfl (lv_at hl 0 rfl) ?_
  refine va_get (D := (dC, dI)) (ci := 9) (v := .int u_size) (C := RX9) (T := TX9) (N := 12) hx hb hts hi_X9 hown hK hP 0 rfl rfl 8 (by decide) hf36 (fun _ h9 => h9) rfl (nq_d dX9_sumOfTips_0_g (n := 3) rfl) ?_
  refine gx_iald hx hb hK hP 1 1 rfl rfl (nq_d dX9_sumOfTips_0_g (n := 4) rfl) hw (fun v1 hw => ?_)
  exact rt_i (A1 := A) hQ hx hb hr hlocks hP hD hS () [0, 1] rfl (by decide +kernel) hw (nq_d dX9_sumOfTips_0_g (n := 5) rfl)
abbrev rmX9_bestMember : Room := { frames := 0, cells := 0, slots := 0, locals := 0 }
theorem cd_X9_bestMember : yX9_bestMember.cls = RX9 ∧ yX9_bestMember.cls ≠ "java/lang/invoke/MethodHandle" ∧ yX9_bestMember.cls ≠ "java/lang/invoke/VarHandle" ∧ (parseMethodDescriptor yX9_bestMember.desc).map (fun d => d.parameters.length) = some 1 := by decide +kernel
set_option maxHeartbeats 4000000 in
set_option maxRecDepth 100000 in
theorem ct_Rush_bestMember (l : Launch) (dC : Nat → ClassId) (dI : Nat → Nat → Nat) (cyB cyI cyJ cyZ : ClassId) (au au_ticks au_tip au_row au_freeAt au_waits au_greatest au_tips au_best : Nat) (sz : Nat) (u_size : Int32) (u_loss : Int32) (u_bestTips : Int32) (u_bestWaits : Int32) (u_best : Nat → Int32) (x1 : Int32) (Q : Int → Prop) : Met l yX9_bestMember wsX9_bestMember rmX9_bestMember (va_Pc [.ref au, .int x1] (cPre (dC, dI) vwCl (tyS cyB cyI cyJ cyZ) [(au, .inr (9, [.ref au_ticks, .ref au_tip, .ref au_row, .ref au_freeAt, .ref au_waits, .ref au_greatest, .ref au_tips, .ref au_best, .int u_size, .int u_loss, .int u_bestTips, .int u_bestWaits])), (au_best, .inl (cyI, 7, .inl u_best))] sz (nf_Rush_bestMember u_size.toInt (aI 7 u_best) x1.toInt Q))) (va_Qi (fun (r : Int32) (_ : Unit) => Q r.toInt ) (cPost (dC, dI) vwCl (fun _ : Unit => [(au, .inr (9, [.ref au_ticks, .ref au_tip, .ref au_row, .ref au_freeAt, .ref au_waits, .ref au_greatest, .ref au_tips, .ref au_best, .int u_size, .int u_loss, .int u_bestTips, .int u_bestWaits])), (au_best, .inl (cyI, 7, .inl u_best))]) (va_A [(au, .inr (9, [.ref au_ticks, .ref au_tip, .ref au_row, .ref au_freeAt, .ref au_waits, .ref au_greatest, .ref au_tips, .ref au_best, .int u_size, .int u_loss, .int u_bestTips, .int u_bestWaits])), (au_best, .inl (cyI, 7, .inl u_best))] sz)) (va_A [(au, .inr (9, [.ref au_ticks, .ref au_tip, .ref au_row, .ref au_freeAt, .ref au_waits, .ref au_greatest, .ref au_tips, .ref au_best, .int u_size, .int u_loss, .int u_bestTips, .int u_bestWaits])), (au_best, .inl (cyI, 7, .inl u_best))] sz)) 0 0 (va_A [(au, .inr (9, [.ref au_ticks, .ref au_tip, .ref au_row, .ref au_freeAt, .ref au_waits, .ref au_greatest, .ref au_tips, .ref au_best, .int u_size, .int u_loss, .int u_bestTips, .int u_bestWaits])), (au_best, .inl (cyI, 7, .inl u_best))] sz) := by
  refine Met.ofW (cc := cX9_bestMember) (maxL := 2) (ret := (some .int)) (by decide) rfl ?_
  intro p e s m args below meth c s₁ B hml hv
  obtain ⟨rfl, hsz, hP, hK, hD0, hNw, hw⟩ := hv
  have hx := B.exec
  have hb := B.bytes
  have hr := B.returns
  have hts := atoms_spec (ws := wsX9_bestMember) B.pre
  have hown : s.vm.findClass RX9 = some m.cls := findClass_of_methodNamed B.named
  have hlocks := B.notSynchronized
  subst hsz
  have hD := hD0.self (sz := s.heap.size)
  generalize hAe : va_A [(au, .inr (9, [.ref au_ticks, .ref au_tip, .ref au_row, .ref au_freeAt, .ref au_waits, .ref au_greatest, .ref au_tips, .ref au_best, .int u_size, .int u_loss, .int u_bestTips, .int u_bestWaits])), (au_best, .inl (cyI, 7, .inl u_best))] s.heap.size = A at hD ⊢
  have hA : ∀ q : Nat, s.heap.size ≤ q → A q := fun q h => by rw [← hAe]; exact Or.inr h
  have hS : va_S A s.heap s.heap [] := va_S.rf
  have hl := lv_entry ([.ref au, .int x1]) (n := 2) (Nat.le_of_ble_eq_true rfl)
  rw [lg_entry_eq]
  generalize (lg_sl ([.ref au, .int x1]) ++ List.replicate (2 - (lg_sl ([.ref au, .int x1])).length) Slot.unset).toArray = ls at hl ⊢
  have hl : lv_has ls 2 [(0, .ref au), (1, .int x1)] := hl
  refine gx_q (fun Q9 hQ => ?_)
  unfold nf_Rush_bestMember at hw
  have hi_X9 : ∀ w ∈ wsX90, w ∈ wsX9_bestMember := (sub_c (nq_m (n := 3) rfl) (sub_c (nq_m (n := 4) rfl) (sub_c (nq_m (n := 5) rfl) (sub_c (nq_m (n := 6) rfl) (sub_c (nq_m (n := 7) rfl) (sub_c (nq_m (n := 8) rfl) (sub_c (nq_m (n := 9) rfl) (sub_c (nq_m (n := 10) rfl) (sub_c (nq_m (n := 11) rfl) (sub_c (nq_m (n := 12) rfl) (sub_c (nq_m (n := 13) rfl) (sub_c (nq_m (n := 14) rfl) sub_n))))))))))))
  have hf36 : (Cond.fieldLink RX9 36 "CoatsHall$Rush" (TX9 8).2.1 (TX9 8).2.2.1).before ([.ref au, .int x1] : List Value).toArray s = true := hts (.fieldLink RX9 36 "CoatsHall$Rush" "size" "I") (nq_m (n := 1) rfl)
  have hf33 : (Cond.fieldLink RX9 33 "CoatsHall$Rush" (TX9 7).2.1 (TX9 7).2.2.1).before ([.ref au, .int x1] : List Value).toArray s = true := hts (.fieldLink RX9 33 "CoatsHall$Rush" "best" "[I") (nq_m (n := 2) rfl)
  refine lv_iload_n hx hb (nq_d dX9_bestMember_0_g (n := 0) rfl) rfl (lv_at hl 1 rfl) ?_
  refine gx_if_lt (tgt := 27) hx hb (nq_d dX9_bestMember_0_g (n := 1) rfl) (by decide) hw (fun hw => ?_) (fun hw => ?_)
  · refine lv_iconst (v := ((-1) : Int32)) hx hb (nq_d dX9_bestMember_0_g (n := 14) rfl) (by decide) ?_
    exact rt_i (A1 := A) hQ hx hb hr hlocks hP hD hS () [0, 1] rfl (by decide +kernel) hw (nq_d dX9_bestMember_0_g (n := 15) rfl)
  · refine lv_iload_n hx hb (nq_d dX9_bestMember_0_g (n := 2) rfl) rfl (lv_at hl 1 rfl) ?_
    refine lv_aload_n hx hb (nq_d dX9_bestMember_0_g (n := 3) rfl) rfl (lv_at hl 0 rfl) ?_
    refine va_get (D := (dC, dI)) (ci := 9) (v := .int u_size) (C := RX9) (T := TX9) (N := 12) hx hb hts hi_X9 hown hK hP 0 rfl rfl 8 (by decide) hf36 (fun _ h9 => h9) rfl (nq_d dX9_bestMember_0_g (n := 4) rfl) ?_
    refine gx_icmp_ge (tgt := 27) hx hb (nq_d dX9_bestMember_0_g (n := 5) rfl) (by decide) hw (fun hw => ?_) (fun hw => ?_)
    · refine lv_iconst (v := ((-1) : Int32)) hx hb (nq_d dX9_bestMember_0_g (n := 14) rfl) (by decide) ?_
      exact rt_i (A1 := A) hQ hx hb hr hlocks hP hD hS () [0, 1] rfl (by decide +kernel) hw (nq_d dX9_bestMember_0_g (n := 15) rfl)
    · refine lv_iload_n hx hb (nq_d dX9_bestMember_0_g (n := 6) rfl) rfl (lv_at hl 1 rfl) ?_
      refine lv_bipush (v := (7 : Int32)) hx hb (nq_d dX9_bestMember_0_g (n := 7) rfl) (by decide) ?_
      refine gx_icmp_ge (tgt := 27) hx hb (nq_d dX9_bestMember_0_g (n := 8) rfl) (by decide) hw (fun hw => ?_) (fun hw => ?_)
      · refine lv_iconst (v := ((-1) : Int32)) hx hb (nq_d dX9_bestMember_0_g (n := 14) rfl) (by decide) ?_
        exact rt_i (A1 := A) hQ hx hb hr hlocks hP hD hS () [0, 1] rfl (by decide +kernel) hw (nq_d dX9_bestMember_0_g (n := 15) rfl)
      · refine lv_aload_n hx hb (nq_d dX9_bestMember_0_g (n := 9) rfl) rfl (lv_at hl 0 rfl) ?_
        refine va_get (D := (dC, dI)) (ci := 9) (v := .ref au_best) (C := RX9) (T := TX9) (N := 12) hx hb hts hi_X9 hown hK hP 0 rfl rfl 7 (by decide) hf33 (fun _ h9 => h9) rfl (nq_d dX9_bestMember_0_g (n := 10) rfl) ?_
        refine lv_iload_n hx hb (nq_d dX9_bestMember_0_g (n := 11) rfl) rfl (lv_at hl 1 rfl) ?_
        refine gx_iald hx hb hK hP 1 1 rfl rfl (nq_d dX9_bestMember_0_g (n := 12) rfl) hw (fun v1 hw => ?_)
        refine lv_goto (tgt := 28) hx hb (nq_d dX9_bestMember_0_g (n := 13) rfl) (by decide) ?_
        exact rt_i (A1 := A) hQ hx hb hr hlocks hP hD hS () [0, 1] rfl (by decide +kernel) hw (nq_d dX9_bestMember_0_g (n := 15) rfl)
