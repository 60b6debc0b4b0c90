/-! CONTRACTS, printed by program: the machine does what the nice form says -/
abbrev rmX9_serve : Room := { frames := 1, cells := 0, slots := 0, locals := 22 }
theorem cd_X9_serve : yX9_serve.cls = RX9 ∧ yX9_serve.cls ≠ "java/lang/invoke/MethodHandle" ∧ yX9_serve.cls ≠ "java/lang/invoke/VarHandle" ∧ (parseMethodDescriptor yX9_serve.desc).map (fun d => d.parameters.length) = some 2 := by decide +kernel
set_option maxHeartbeats 4000000 in
set_option maxRecDepth 100000 in
theorem ct_Rush_serve (l : Launch) (dC : Nat → ClassId) (dI : Nat → Nat → Nat) (cyB cyI cyJ cyZ : ClassId) (au au_ticks au_tip au_row au_freeAt au_waits au_greatest au_tips au_best : Nat) (sz : Nat) (u_size : Int32) (u_loss : Int32) (u_bestTips : Int32) (u_bestWaits : Int32) (u_ticks : Nat → Int32) (u_tip : Nat → Int32) (u_row : Nat → Int32) (u_freeAt : Nat → Int32) (u_waits : Nat → Int32) (u_greatest : Nat → Int32) (u_tips : Nat → Int32) (x1 : Int32) (x2 : Int32) (Q : (Int → Int) → (Int → Int) → (Int → Int) → (Int → Int) → Prop) : Met l yX9_serve wsX9_serve rmX9_serve (va_Pc [.ref au, .int x1, .int x2] (cPre (dC, dI) vwCl (tyS cyB cyI cyJ cyZ) [(au, .inr (9, [.ref au_ticks, .ref au_tip, .ref au_row, .ref au_freeAt, .ref au_waits, .ref au_greatest, .ref au_tips, .ref au_best, .int u_size, .int u_loss, .int u_bestTips, .int u_bestWaits])), (au_ticks, .inl (cyI, 16, .inl u_ticks)), (au_tip, .inl (cyI, 16, .inl u_tip)), (au_row, .inl (cyI, 16, .inl u_row)), (au_freeAt, .inl (cyI, 68, .inl u_freeAt)), (au_waits, .inl (cyI, 17, .inl u_waits)), (au_greatest, .inl (cyI, 17, .inl u_greatest)), (au_tips, .inl (cyI, 17, .inl u_tips))] sz (nf_Rush_serve u_loss.toInt (aI 16 u_ticks) (aI 16 u_tip) (aI 16 u_row) (aI 68 u_freeAt) (aI 17 u_waits) (aI 17 u_greatest) (aI 17 u_tips) x1.toInt x2.toInt Q))) (va_Qv (fun (u : (Nat → Int32) × (Nat → Int32) × (Nat → Int32) × (Nat → Int32)) => Q (aI 68 (u.1)) (aI 17 (u.2.1)) (aI 17 (u.2.2.1)) (aI 17 (u.2.2.2))) (cPost (dC, dI) vwCl (fun u : (Nat → Int32) × (Nat → Int32) × (Nat → Int32) × (Nat → Int32) => [(au, .inr (9, [.ref au_ticks, .ref au_tip, .ref au_row, .ref au_freeAt, .ref au_waits, .ref au_greatest, .ref au_tips, .ref au_best, .int u_size, .int u_loss, .int u_bestTips, .int u_bestWaits])), (au_ticks, .inl (cyI, 16, .inl u_ticks)), (au_tip, .inl (cyI, 16, .inl u_tip)), (au_row, .inl (cyI, 16, .inl u_row)), (au_freeAt, .inl (cyI, 68, .inl (u.1))), (au_waits, .inl (cyI, 17, .inl (u.2.1))), (au_greatest, .inl (cyI, 17, .inl (u.2.2.1))), (au_tips, .inl (cyI, 17, .inl (u.2.2.2)))]) (va_A [(au, .inr (9, [.ref au_ticks, .ref au_tip, .ref au_row, .ref au_freeAt, .ref au_waits, .ref au_greatest, .ref au_tips, .ref au_best, .int u_size, .int u_loss, .int u_bestTips, .int u_bestWaits])), (au_ticks, .inl (cyI, 16, .inl u_ticks)), (au_tip, .inl (cyI, 16, .inl u_tip)), (au_row, .inl (cyI, 16, .inl u_row)), (au_freeAt, .inl (cyI, 68, .inl u_freeAt)), (au_waits, .inl (cyI, 17, .inl u_waits)), (au_greatest, .inl (cyI, 17, .inl u_greatest)), (au_tips, .inl (cyI, 17, .inl u_tips))] sz)) (va_A [(au, .inr (9, [.ref au_ticks, .ref au_tip, .ref au_row, .ref au_freeAt, .ref au_waits, .ref au_greatest, .ref au_tips, .ref au_best, .int u_size, .int u_loss, .int u_bestTips, .int u_bestWaits])), (au_ticks, .inl (cyI, 16, .inl u_ticks)), (au_tip, .inl (cyI, 16, .inl u_tip)), (au_row, .inl (cyI, 16, .inl u_row)), (au_freeAt, .inl (cyI, 68, .inl u_freeAt)), (au_waits, .inl (cyI, 17, .inl u_waits)), (au_greatest, .inl (cyI, 17, .inl u_greatest)), (au_tips, .inl (cyI, 17, .inl u_tips))] sz)) 0 0 (va_A [(au, .inr (9, [.ref au_ticks, .ref au_tip, .ref au_row, .ref au_freeAt, .ref au_waits, .ref au_greatest, .ref au_tips, .ref au_best, .int u_size, .int u_loss, .int u_bestTips, .int u_bestWaits])), (au_ticks, .inl (cyI, 16, .inl u_ticks)), (au_tip, .inl (cyI, 16, .inl u_tip)), (au_row, .inl (cyI, 16, .inl u_row)), (au_freeAt, .inl (cyI, 68, .inl u_freeAt)), (au_waits, .inl (cyI, 17, .inl u_waits)), (au_greatest, .inl (cyI, 17, .inl u_greatest)), (au_tips, .inl (cyI, 17, .inl u_tips))] sz) := by
  refine Met.ofW (cc := cX9_serve) (maxL := 7) (ret := none) (by decide) rfl ?_
  intro p e s m args below meth c s₁ B hml hv
  obtain ⟨rfl, hsz, hP, hK, hD0, hNw, hw⟩ := hv
  have hx := B.exec
  have hb := B.bytes
  have hr := B.returns
  have hts := atoms_spec (ws := wsX9_serve) B.pre
  have hown : s.vm.findClass RX9 = some m.cls := findClass_of_methodNamed B.named
  have hlocks := B.notSynchronized
  subst hsz
  have hD := hD0.self (sz := s.heap.size)
  generalize hAe : va_A [(au, .inr (9, [.ref au_ticks, .ref au_tip, .ref au_row, .ref au_freeAt, .ref au_waits, .ref au_greatest, .ref au_tips, .ref au_best, .int u_size, .int u_loss, .int u_bestTips, .int u_bestWaits])), (au_ticks, .inl (cyI, 16, .inl u_ticks)), (au_tip, .inl (cyI, 16, .inl u_tip)), (au_row, .inl (cyI, 16, .inl u_row)), (au_freeAt, .inl (cyI, 68, .inl u_freeAt)), (au_waits, .inl (cyI, 17, .inl u_waits)), (au_greatest, .inl (cyI, 17, .inl u_greatest)), (au_tips, .inl (cyI, 17, .inl u_tips))] s.heap.size = A at hD ⊢
  have hA : ∀ q : Nat, s.heap.size ≤ q → A q := fun q h => by rw [← hAe]; exact Or.inr h
  have hS : va_S A s.heap s.heap [] := va_S.rf
  have hl := lv_entry ([.ref au, .int x1, .int x2]) (n := 7) (Nat.le_of_ble_eq_true rfl)
  rw [lg_entry_eq]
  generalize (lg_sl ([.ref au, .int x1, .int x2]) ++ List.replicate (7 - (lg_sl ([.ref au, .int x1, .int x2])).length) Slot.unset).toArray = ls at hl ⊢
  have hl : lv_has ls 7 [(0, .ref au), (1, .int x1), (2, .int x2)] := hl
  refine gx_q (fun Q9 hQ => ?_)
  unfold nf_Rush_serve at hw
  have hi_X9 : ∀ w ∈ wsX90, w ∈ wsX9_serve := (sub_c (nq_m (n := 16) rfl) (sub_c (nq_m (n := 17) rfl) (sub_c (nq_m (n := 18) rfl) (sub_c (nq_m (n := 19) rfl) (sub_c (nq_m (n := 20) rfl) (sub_c (nq_m (n := 21) rfl) (sub_c (nq_m (n := 22) rfl) (sub_c (nq_m (n := 23) rfl) (sub_c (nq_m (n := 24) rfl) (sub_c (nq_m (n := 25) rfl) (sub_c (nq_m (n := 26) rfl) (sub_c (nq_m (n := 27) rfl) sub_n))))))))))))
  have hf18 : (Cond.fieldLink RX9 18 "CoatsHall$Rush" (TX9 2).2.1 (TX9 2).2.2.1).before ([.ref au, .int x1, .int x2] : List Value).toArray s = true := hts (.fieldLink RX9 18 "CoatsHall$Rush" "row" "[I") (nq_m (n := 2) rfl)
  have hf21 : (Cond.fieldLink RX9 21 "CoatsHall$Rush" (TX9 3).2.1 (TX9 3).2.2.1).before ([.ref au, .int x1, .int x2] : List Value).toArray s = true := hts (.fieldLink RX9 21 "CoatsHall$Rush" "freeAt" "[I") (nq_m (n := 1) rfl)
  have hf9 : (Cond.fieldLink RX9 9 "CoatsHall$Rush" (TX9 0).2.1 (TX9 0).2.2.1).before ([.ref au, .int x1, .int x2] : List Value).toArray s = true := hts (.fieldLink RX9 9 "CoatsHall$Rush" "ticks" "[I") (nq_m (n := 3) rfl)
  have hf24 : (Cond.fieldLink RX9 24 "CoatsHall$Rush" (TX9 4).2.1 (TX9 4).2.2.1).before ([.ref au, .int x1, .int x2] : List Value).toArray s = true := hts (.fieldLink RX9 24 "CoatsHall$Rush" "waits" "[I") (nq_m (n := 4) rfl)
  have hf27 : (Cond.fieldLink RX9 27 "CoatsHall$Rush" (TX9 5).2.1 (TX9 5).2.2.1).before ([.ref au, .int x1, .int x2] : List Value).toArray s = true := hts (.fieldLink RX9 27 "CoatsHall$Rush" "greatest" "[I") (nq_m (n := 5) rfl)
  have hf30 : (Cond.fieldLink RX9 30 "CoatsHall$Rush" (TX9 6).2.1 (TX9 6).2.2.1).before ([.ref au, .int x1, .int x2] : List Value).toArray s = true := hts (.fieldLink RX9 30 "CoatsHall$Rush" "tips" "[I") (nq_m (n := 10) rfl)
  have hf15 : (Cond.fieldLink RX9 15 "CoatsHall$Rush" (TX9 1).2.1 (TX9 1).2.2.1).before ([.ref au, .int x1, .int x2] : List Value).toArray s = true := hts (.fieldLink RX9 15 "CoatsHall$Rush" "tip" "[I") (nq_m (n := 11) rfl)
  have hf40 : (Cond.fieldLink RX9 40 "CoatsHall$Rush" (TX9 9).2.1 (TX9 9).2.2.1).before ([.ref au, .int x1, .int x2] : List Value).toArray s = true := hts (.fieldLink RX9 40 "CoatsHall$Rush" "loss" "I") (nq_m (n := 12) rfl)
  refine lv_iload_n hx hb (nq_d dX9_serve_0_g (n := 0) rfl) rfl (lv_at hl 1 rfl) ?_
  refine lv_iconst (v := (4 : Int32)) hx hb (nq_d dX9_serve_0_g (n := 1) rfl) (by decide) ?_
  refine gx_imul hx hb (nq_d dX9_serve_0_g (n := 2) rfl) hw (fun v1 hw => ?_)
  refine lv_istore_n (lv' := [(3, .int v1), (0, .ref au), (1, .int x1), (2, .int x2)]) hx hb (nq_d dX9_serve_0_g (n := 3) rfl) rfl hl (by decide) rfl (fun ls hl => ?_)
  refine lv_iconst (v := (0 : Int32)) hx hb (nq_d dX9_serve_0_g (n := 4) rfl) (by decide) ?_
  refine lv_istore (lv' := [(4, .int (0 : Int32)), (3, .int v1), (0, .ref au), (1, .int x1), (2, .int x2)]) hx hb (nq_d dX9_serve_0_g (n := 5) rfl) hl (by decide) rfl (fun ls hl => ?_)
  refine lv_iconst (v := (0 : Int32)) hx hb (nq_d dX9_serve_0_g (n := 6) rfl) (by decide) ?_
  refine lv_istore (lv' := [(5, .int (0 : Int32)), (4, .int (0 : Int32)), (3, .int v1), (0, .ref au), (1, .int x1), (2, .int x2)]) hx hb (nq_d dX9_serve_0_g (n := 7) rfl) hl (by decide) rfl (fun ls hl => ?_)
  refine nlp3_el hw (fun X0_43 X1_43 X2_43 => ∀ (l4_2 : Int32) (l5_3 : Int32) (z4 : (Nat → Int32)), X0_43 = l4_2.toInt → X1_43 = l5_3.toInt → X2_43 = (aI 68 z4) → ∀ (H : Heap) (locs : List Loc) (ls : Array Slot), va_P (dC, dI) vwCl [(au, .inr (9, [.ref au_ticks, .ref au_tip, .ref au_row, .ref au_freeAt, .ref au_waits, .ref au_greatest, .ref au_tips, .ref au_best, .int u_size, .int u_loss, .int u_bestTips, .int u_bestWaits])), (au_ticks, .inl (cyI, 16, .inl u_ticks)), (au_tip, .inl (cyI, 16, .inl u_tip)), (au_row, .inl (cyI, 16, .inl u_row)), (au_freeAt, .inl (cyI, 68, .inl z4)), (au_waits, .inl (cyI, 17, .inl u_waits)), (au_greatest, .inl (cyI, 17, .inl u_greatest)), (au_tips, .inl (cyI, 17, .inl u_tips))] H → va_D A [(au, .inr (9, [.ref au_ticks, .ref au_tip, .ref au_row, .ref au_freeAt, .ref au_waits, .ref au_greatest, .ref au_tips, .ref au_best, .int u_size, .int u_loss, .int u_bestTips, .int u_bestWaits])), (au_ticks, .inl (cyI, 16, .inl u_ticks)), (au_tip, .inl (cyI, 16, .inl u_tip)), (au_row, .inl (cyI, 16, .inl u_row)), (au_freeAt, .inl (cyI, 68, .inl z4)), (au_waits, .inl (cyI, 17, .inl u_waits)), (au_greatest, .inl (cyI, 17, .inl u_greatest)), (au_tips, .inl (cyI, 17, .inl u_tips))] → va_S A s.heap H locs → lv_has ls 7 [(0, .ref au), (1, .int x1), (2, .int x2), (3, .int v1), (4, .int l4_2), (5, .int l5_3)] → W p l e (headSpec wsX9_serve rmX9_serve).room s m ([.ref au, .int x1, .int x2] : List Value).toArray below meth c H locs 0 0 Q9 (F0 m 10 ls [])) (fun self5 hPself5 X0_43 X1_43 X2_43 hw l4_2 l5_3 z4 eX0_43 eX1_43 eX2_43 H locs ls hP hD hS hl => ?_) (0 : Int32) (0 : Int32) u_freeAt rfl rfl rfl _ _ _ hP hD hS (lv_sub hl [3, 4, 5, 2, 1, 0] rfl)
  subst eX0_43
  subst eX1_43
  subst eX2_43
  refine lv_iload hx hb (nq_d dX9_serve_0_g (n := 8) rfl) (lv_at hl 5 rfl) ?_
  refine lv_iload_n hx hb (nq_d dX9_serve_0_g (n := 9) rfl) rfl (lv_at hl 2 rfl) ?_
  refine gx_icmp_ge (tgt := 67) hx hb (nq_d dX9_serve_0_g (n := 10) rfl) (by decide) hw (fun hw => ?_) (fun hw => ?_)
  · refine lv_aload_n hx hb (nq_d dX9_serve_61_g (n := 2) rfl) rfl (lv_at hl 0 rfl) ?_
    refine va_get (D := (dC, dI)) (ci := 9) (v := .ref au_row) (C := RX9) (T := TX9) (N := 12) hx hb hts hi_X9 hown hK hP 0 rfl rfl 2 (by decide) hf18 (fun _ h9 => h9) rfl (nq_d dX9_serve_61_g (n := 3) rfl) ?_
    refine lv_iload_n hx hb (nq_d dX9_serve_61_g (n := 4) rfl) rfl (lv_at hl 1 rfl) ?_
    refine gx_iald hx hb hK hP 3 1 rfl rfl (nq_d dX9_serve_61_g (n := 5) rfl) hw (fun v6 hw => ?_)
    refine lv_istore (lv' := [(5, .int v6), (0, .ref au), (1, .int x1), (2, .int x2), (3, .int v1), (4, .int l4_2)]) hx hb (nq_d dX9_serve_61_g (n := 6) rfl) hl (by decide) rfl (fun ls hl => ?_)
    refine lv_iload hx hb (nq_d dX9_serve_61_g (n := 7) rfl) (lv_at hl 0 rfl) ?_
    refine lv_iconst (v := (0 : Int32)) hx hb (nq_d dX9_serve_61_g (n := 8) rfl) (by decide) ?_
    refine lv_bipush (v := (15 : Int32)) hx hb (nq_d dX9_serve_61_g (n := 9) rfl) (by decide) ?_
    refine gx_ri (wr := [(au, .inr (9, [.ref au_ticks, .ref au_tip, .ref au_row, .ref au_freeAt, .ref au_waits, .ref au_greatest, .ref au_tips, .ref au_best, .int u_size, .int u_loss, .int u_bestTips, .int u_bestWaits])), (au_ticks, .inl (cyI, 16, .inl u_ticks)), (au_tip, .inl (cyI, 16, .inl u_tip)), (au_row, .inl (cyI, 16, .inl u_row)), (au_freeAt, .inl (cyI, 68, .inl z4)), (au_waits, .inl (cyI, 17, .inl u_waits)), (au_greatest, .inl (cyI, 17, .inl u_greatest)), (au_tips, .inl (cyI, 17, .inl u_tips))]) (va_runSN (As := [.int v6, .int (0 : Int32), .int (15 : Int32)]) (rest := []) ⟨hx, hb, hml, hown, hts⟩ (ct_H_within l dC dI cyB cyI cyJ cyZ  _ v6 (0 : Int32) (15 : Int32) _) ⟨va_cnB 3 hts gX9_serve_X10_within_n71 rfl rfl rfl (nw_16 hNw) (hts (.initialized RX10) (nq_m (n := 14) rfl)) cd_X10_within.2 ⟨Nat.le_of_ble_eq_true rfl, Nat.le_of_ble_eq_true rfl⟩, hts (.static yX10_within) (nq_m (n := 13) rfl), trivial⟩ (gx_preS hK hP hD hNw [] rfl (by decide) hw) rfl rfl hl.1 rfl (lv_room (Nat.le_of_ble_eq_true rfl)) (nq_d dX9_serve_61_g (n := 10) rfl) ⟨Nat.zero_le _, Nat.zero_le _⟩) hP hD hS hA [] [0, 1, 2, 3, 4, 5, 6, 7] [0, 1, 2, 3, 4, 5, 6, 7] rfl rfl (by decide) (by decide) (by decide) (fun _ => [(au, .inr (9, [.ref au_ticks, .ref au_tip, .ref au_row, .ref au_freeAt, .ref au_waits, .ref au_greatest, .ref au_tips, .ref au_best, .int u_size, .int u_loss, .int u_bestTips, .int u_bestWaits])), (au_ticks, .inl (cyI, 16, .inl u_ticks)), (au_tip, .inl (cyI, 16, .inl u_tip)), (au_row, .inl (cyI, 16, .inl u_row)), (au_freeAt, .inl (cyI, 68, .inl z4)), (au_waits, .inl (cyI, 17, .inl u_waits)), (au_greatest, .inl (cyI, 17, .inl u_greatest)), (au_tips, .inl (cyI, 17, .inl u_tips))]) (fun _ => rfl) (fun r7 u H locs hw hP hD hS => ?_)
    try dsimp only at hw hP hD
    refine gx_if_ne (tgt := 87) hx hb (nq_d dX9_serve_61_g (n := 11) rfl) (by decide) hw (fun hw => ?_) (fun hw => ?_)
    · refine lv_aload_n hx hb (nq_d dX9_serve_61_g (n := 13) rfl) rfl (lv_at hl 1 rfl) ?_
      refine va_get (D := (dC, dI)) (ci := 9) (v := .ref au_freeAt) (C := RX9) (T := TX9) (N := 12) hx hb hts hi_X9 hown hK hP 0 rfl rfl 3 (by decide) hf21 (fun _ h9 => h9) rfl (nq_d dX9_serve_61_g (n := 14) rfl) ?_
      refine lv_iload_n hx hb (nq_d dX9_serve_61_g (n := 15) rfl) rfl (lv_at hl 4 rfl) ?_
      refine lv_iload hx hb (nq_d dX9_serve_61_g (n := 16) rfl) (lv_at hl 5 rfl) ?_
      refine gx_iadd hx hb (nq_d dX9_serve_61_g (n := 17) rfl) hw (fun v8 hw => ?_)
      refine gx_iald hx hb hK hP 4 1 rfl rfl (nq_d dX9_serve_61_g (n := 18) rfl) hw (fun v9 hw => ?_)
      refine lv_aload_n hx hb (nq_d dX9_serve_61_g (n := 19) rfl) rfl (lv_at hl 1 rfl) ?_
      refine va_get (D := (dC, dI)) (ci := 9) (v := .ref au_ticks) (C := RX9) (T := TX9) (N := 12) hx hb hts hi_X9 hown hK hP 0 rfl rfl 0 (by decide) hf9 (fun _ h9 => h9) rfl (nq_d dX9_serve_61_g (n := 20) rfl) ?_
      refine lv_iload hx hb (nq_d dX9_serve_61_g (n := 21) rfl) (lv_at hl 0 rfl) ?_
      refine gx_iald hx hb hK hP 1 1 rfl rfl (nq_d dX9_serve_61_g (n := 22) rfl) hw (fun v10 hw => ?_)
      refine gx_iadd hx hb (nq_d dX9_serve_61_g (n := 23) rfl) hw (fun v11 hw => ?_)
      refine lv_istore (lv' := [(6, .int v11), (5, .int v6), (0, .ref au), (1, .int x1), (2, .int x2), (3, .int v1), (4, .int l4_2)]) hx hb (nq_d dX9_serve_61_g (n := 24) rfl) hl (by decide) rfl (fun ls hl => ?_)
      refine lv_aload_n hx hb (nq_d dX9_serve_61_g (n := 25) rfl) rfl (lv_at hl 2 rfl) ?_
      refine va_get (D := (dC, dI)) (ci := 9) (v := .ref au_freeAt) (C := RX9) (T := TX9) (N := 12) hx hb hts hi_X9 hown hK hP 0 rfl rfl 3 (by decide) hf21 (fun _ h9 => h9) rfl (nq_d dX9_serve_61_g (n := 26) rfl) ?_
      refine lv_iload_n hx hb (nq_d dX9_serve_61_g (n := 27) rfl) rfl (lv_at hl 5 rfl) ?_
      refine lv_iconst (v := (4 : Int32)) hx hb (nq_d dX9_serve_61_g (n := 28) rfl) (by decide) ?_
      refine gx_iadd hx hb (nq_d dX9_serve_61_g (n := 29) rfl) hw (fun v12 hw => ?_)
      refine lv_iload hx hb (nq_d dX9_serve_61_g (n := 30) rfl) (lv_at hl 6 rfl) ?_
      refine gx_iadd hx hb (nq_d dX9_serve_61_g (n := 31) rfl) hw (fun v13 hw => ?_)
      refine lv_iload hx hb (nq_d dX9_serve_61_g (n := 32) rfl) (lv_at hl 0 rfl) ?_
      refine gx_iast hx hb hK hP hD hS 4 1 rfl rfl (nq_d dX9_serve_61_g (n := 33) rfl) (fun f14 => [(au, .inr (9, [.ref au_ticks, .ref au_tip, .ref au_row, .ref au_freeAt, .ref au_waits, .ref au_greatest, .ref au_tips, .ref au_best, .int u_size, .int u_loss, .int u_bestTips, .int u_bestWaits])), (au_ticks, .inl (cyI, 16, .inl u_ticks)), (au_tip, .inl (cyI, 16, .inl u_tip)), (au_row, .inl (cyI, 16, .inl u_row)), (au_freeAt, .inl (cyI, 68, .inl f14)), (au_waits, .inl (cyI, 17, .inl u_waits)), (au_greatest, .inl (cyI, 17, .inl u_greatest)), (au_tips, .inl (cyI, 17, .inl u_tips))]) (fun _ => rfl) hw (fun f14 H locs hw hP hD hS => ?_)
      refine lv_aload_n hx hb (nq_d dX9_serve_61_g (n := 34) rfl) rfl (lv_at hl 2 rfl) ?_
      refine va_get (D := (dC, dI)) (ci := 9) (v := .ref au_waits) (C := RX9) (T := TX9) (N := 12) hx hb hts hi_X9 hown hK hP 0 rfl rfl 4 (by decide) hf24 (fun _ h9 => h9) rfl (nq_d dX9_serve_61_g (n := 35) rfl) ?_
      refine lv_iload_n hx hb (nq_d dX9_serve_61_g (n := 36) rfl) rfl (lv_at hl 3 rfl) ?_
      refine lv_iconst (v := (1 : Int32)) hx hb (nq_d dX9_serve_61_g (n := 37) rfl) (by decide) ?_
      refine gx_iadd hx hb (nq_d dX9_serve_61_g (n := 38) rfl) hw (fun v15 hw => ?_)
      refine lv_aload_n hx hb (nq_d dX9_serve_61_g (n := 39) rfl) rfl (lv_at hl 2 rfl) ?_
      refine va_get (D := (dC, dI)) (ci := 9) (v := .ref au_waits) (C := RX9) (T := TX9) (N := 12) hx hb hts hi_X9 hown hK hP 0 rfl rfl 4 (by decide) hf24 (fun _ h9 => h9) rfl (nq_d dX9_serve_127_g (n := 0) rfl) ?_
      refine lv_iload_n hx hb (nq_d dX9_serve_127_g (n := 1) rfl) rfl (lv_at hl 3 rfl) ?_
      refine gx_iald hx hb hK hP 5 1 rfl rfl (nq_d dX9_serve_127_g (n := 2) rfl) hw (fun v16 hw => ?_)
      refine lv_iload hx hb (nq_d dX9_serve_127_g (n := 3) rfl) (lv_at hl 0 rfl) ?_
      refine gx_iadd hx hb (nq_d dX9_serve_127_g (n := 4) rfl) hw (fun v17 hw => ?_)
      refine gx_iast hx hb hK hP hD hS 5 1 rfl rfl (nq_d dX9_serve_127_g (n := 5) rfl) (fun f18 => [(au, .inr (9, [.ref au_ticks, .ref au_tip, .ref au_row, .ref au_freeAt, .ref au_waits, .ref au_greatest, .ref au_tips, .ref au_best, .int u_size, .int u_loss, .int u_bestTips, .int u_bestWaits])), (au_ticks, .inl (cyI, 16, .inl u_ticks)), (au_tip, .inl (cyI, 16, .inl u_tip)), (au_row, .inl (cyI, 16, .inl u_row)), (au_freeAt, .inl (cyI, 68, .inl f14)), (au_waits, .inl (cyI, 17, .inl f18)), (au_greatest, .inl (cyI, 17, .inl u_greatest)), (au_tips, .inl (cyI, 17, .inl u_tips))]) (fun _ => rfl) hw (fun f18 H locs hw hP hD hS => ?_)
      refine lv_aload_n hx hb (nq_d dX9_serve_127_g (n := 6) rfl) rfl (lv_at hl 2 rfl) ?_
      refine va_get (D := (dC, dI)) (ci := 9) (v := .ref au_greatest) (C := RX9) (T := TX9) (N := 12) hx hb hts hi_X9 hown hK hP 0 rfl rfl 5 (by decide) hf27 (fun _ h9 => h9) rfl (nq_d dX9_serve_127_g (n := 7) rfl) ?_
      refine lv_iload_n hx hb (nq_d dX9_serve_127_g (n := 8) rfl) rfl (lv_at hl 3 rfl) ?_
      refine lv_iconst (v := (1 : Int32)) hx hb (nq_d dX9_serve_127_g (n := 9) rfl) (by decide) ?_
      refine gx_iadd hx hb (nq_d dX9_serve_127_g (n := 10) rfl) hw (fun v19 hw => ?_)
      refine lv_aload_n hx hb (nq_d dX9_serve_127_g (n := 11) rfl) rfl (lv_at hl 2 rfl) ?_
      refine va_get (D := (dC, dI)) (ci := 9) (v := .ref au_greatest) (C := RX9) (T := TX9) (N := 12) hx hb hts hi_X9 hown hK hP 0 rfl rfl 5 (by decide) hf27 (fun _ h9 => h9) rfl (nq_d dX9_serve_127_g (n := 12) rfl) ?_
      refine lv_iload_n hx hb (nq_d dX9_serve_127_g (n := 13) rfl) rfl (lv_at hl 3 rfl) ?_
      refine gx_iald hx hb hK hP 6 1 rfl rfl (nq_d dX9_serve_127_g (n := 14) rfl) hw (fun v20 hw => ?_)
      refine lv_iload hx hb (nq_d dX9_serve_127_g (n := 15) rfl) (lv_at hl 0 rfl) ?_
      refine gx_mmax hx hb (hml.trans hl.1.symm) hown (hts (.methodLink RX9 75 Lib.Math.max.name) (nq_m (n := 6) rfl)) (hts (.static Lib.Math.max.name) (nq_m (n := 7) rfl)) (hts (.initialized "java/lang/Math") (nq_m (n := 8) rfl)) (hts (.code Lib.Math.max.name Lib.Math.max.code 2 (some .int)) (nq_m (n := 9) rfl)) (Nat.le_of_ble_eq_true rfl) (Nat.le_of_ble_eq_true rfl) (Nat.zero_le _) (Nat.zero_le _) (nq_d dX9_serve_127_g (n := 16) rfl) hw (fun v21 hw => ?_)
      refine gx_iast hx hb hK hP hD hS 6 1 rfl rfl (nq_d dX9_serve_127_g (n := 17) rfl) (fun f22 => [(au, .inr (9, [.ref au_ticks, .ref au_tip, .ref au_row, .ref au_freeAt, .ref au_waits, .ref au_greatest, .ref au_tips, .ref au_best, .int u_size, .int u_loss, .int u_bestTips, .int u_bestWaits])), (au_ticks, .inl (cyI, 16, .inl u_ticks)), (au_tip, .inl (cyI, 16, .inl u_tip)), (au_row, .inl (cyI, 16, .inl u_row)), (au_freeAt, .inl (cyI, 68, .inl f14)), (au_waits, .inl (cyI, 17, .inl f18)), (au_greatest, .inl (cyI, 17, .inl f22)), (au_tips, .inl (cyI, 17, .inl u_tips))]) (fun _ => rfl) hw (fun f22 H locs hw hP hD hS => ?_)
      refine lv_aload_n hx hb (nq_d dX9_serve_127_g (n := 18) rfl) rfl (lv_at hl 2 rfl) ?_
      refine va_get (D := (dC, dI)) (ci := 9) (v := .ref au_tips) (C := RX9) (T := TX9) (N := 12) hx hb hts hi_X9 hown hK hP 0 rfl rfl 6 (by decide) hf30 (fun _ h9 => h9) rfl (nq_d dX9_serve_127_g (n := 19) rfl) ?_
      refine lv_iload_n hx hb (nq_d dX9_serve_127_g (n := 20) rfl) rfl (lv_at hl 3 rfl) ?_
      refine lv_iconst (v := (1 : Int32)) hx hb (nq_d dX9_serve_127_g (n := 21) rfl) (by decide) ?_
      refine gx_iadd hx hb (nq_d dX9_serve_127_g (n := 22) rfl) hw (fun v23 hw => ?_)
      refine lv_aload_n hx hb (nq_d dX9_serve_127_g (n := 23) rfl) rfl (lv_at hl 2 rfl) ?_
      refine va_get (D := (dC, dI)) (ci := 9) (v := .ref au_tips) (C := RX9) (T := TX9) (N := 12) hx hb hts hi_X9 hown hK hP 0 rfl rfl 6 (by decide) hf30 (fun _ h9 => h9) rfl (nq_d dX9_serve_127_g (n := 24) rfl) ?_
      refine lv_iload_n hx hb (nq_d dX9_serve_127_g (n := 25) rfl) rfl (lv_at hl 3 rfl) ?_
      refine gx_iald hx hb hK hP 7 1 rfl rfl (nq_d dX9_serve_127_g (n := 26) rfl) hw (fun v24 hw => ?_)
      refine lv_iconst (v := (0 : Int32)) hx hb (nq_d dX9_serve_127_g (n := 27) rfl) (by decide) ?_
      refine lv_aload_n hx hb (nq_d dX9_serve_127_g (n := 28) rfl) rfl (lv_at hl 2 rfl) ?_
      refine va_get (D := (dC, dI)) (ci := 9) (v := .ref au_tip) (C := RX9) (T := TX9) (N := 12) hx hb hts hi_X9 hown hK hP 0 rfl rfl 1 (by decide) hf15 (fun _ h9 => h9) rfl (nq_d dX9_serve_127_g (n := 29) rfl) ?_
      refine lv_iload hx hb (nq_d dX9_serve_127_g (n := 30) rfl) (lv_at hl 1 rfl) ?_
      refine gx_iald hx hb hK hP 2 1 rfl rfl (nq_d dX9_serve_127_g (n := 31) rfl) hw (fun v25 hw => ?_)
      refine lv_aload_n hx hb (nq_d dX9_serve_127_g (n := 32) rfl) rfl (lv_at hl 2 rfl) ?_
      refine va_get (D := (dC, dI)) (ci := 9) (v := .int u_loss) (C := RX9) (T := TX9) (N := 12) hx hb hts hi_X9 hown hK hP 0 rfl rfl 9 (by decide) hf40 (fun _ h9 => h9) rfl (nq_d dX9_serve_127_g (n := 33) rfl) ?_
      refine lv_iload hx hb (nq_d dX9_serve_127_g (n := 34) rfl) (lv_at hl 0 rfl) ?_
      refine gx_imul hx hb (nq_d dX9_serve_127_g (n := 35) rfl) hw (fun v26 hw => ?_)
      refine lv_bipush (v := (10 : Int32)) hx hb (nq_d dX9_serve_127_g (n := 36) rfl) (by decide) ?_
      refine gx_idiv hx hb (nq_d dX9_serve_127_g (n := 37) rfl) hw (fun v27 hw => ?_)
      refine gx_isub hx hb (nq_d dX9_serve_127_g (n := 38) rfl) hw (fun v28 hw => ?_)
      refine gx_mmax hx hb (hml.trans hl.1.symm) hown (hts (.methodLink RX9 75 Lib.Math.max.name) (nq_m (n := 6) rfl)) (hts (.static Lib.Math.max.name) (nq_m (n := 7) rfl)) (hts (.initialized "java/lang/Math") (nq_m (n := 8) rfl)) (hts (.code Lib.Math.max.name Lib.Math.max.code 2 (some .int)) (nq_m (n := 9) rfl)) (Nat.le_of_ble_eq_true rfl) (Nat.le_of_ble_eq_true rfl) (Nat.zero_le _) (Nat.zero_le _) (nq_d dX9_serve_127_g (n := 39) rfl) hw (fun v29 hw => ?_)
      refine gx_iadd hx hb (nq_d dX9_serve_190_g (n := 0) rfl) hw (fun v30 hw => ?_)
      refine gx_iast hx hb hK hP hD hS 7 1 rfl rfl (nq_d dX9_serve_190_g (n := 1) rfl) (fun f31 => [(au, .inr (9, [.ref au_ticks, .ref au_tip, .ref au_row, .ref au_freeAt, .ref au_waits, .ref au_greatest, .ref au_tips, .ref au_best, .int u_size, .int u_loss, .int u_bestTips, .int u_bestWaits])), (au_ticks, .inl (cyI, 16, .inl u_ticks)), (au_tip, .inl (cyI, 16, .inl u_tip)), (au_row, .inl (cyI, 16, .inl u_row)), (au_freeAt, .inl (cyI, 68, .inl f14)), (au_waits, .inl (cyI, 17, .inl f18)), (au_greatest, .inl (cyI, 17, .inl f22)), (au_tips, .inl (cyI, 17, .inl f31))]) (fun _ => rfl) hw (fun f31 H locs hw hP hD hS => ?_)
      exact rt_v (A1 := A) hQ hx hb hr hlocks hP hD hS (f14, f18, f22, f31) [0, 1, 2, 3, 4, 5, 6, 7] rfl (by decide +kernel) hw (nq_d dX9_serve_190_g (n := 2) rfl)
    · exact rt_v (A1 := A) hQ hx hb hr hlocks hP hD hS (z4, u_waits, u_greatest, u_tips) [0, 1, 2, 3, 4, 5, 6, 7] rfl (by decide +kernel) hw (nq_d dX9_serve_61_g (n := 12) rfl)
  · refine lv_aload_n hx hb (nq_d dX9_serve_0_g (n := 11) rfl) rfl (lv_at hl 0 rfl) ?_
    refine va_get (D := (dC, dI)) (ci := 9) (v := .ref au_freeAt) (C := RX9) (T := TX9) (N := 12) hx hb hts hi_X9 hown hK hP 0 rfl rfl 3 (by decide) hf21 (fun _ h9 => h9) rfl (nq_d dX9_serve_0_g (n := 12) rfl) ?_
    refine lv_iload_n hx hb (nq_d dX9_serve_0_g (n := 13) rfl) rfl (lv_at hl 3 rfl) ?_
    refine lv_iload hx hb (nq_d dX9_serve_0_g (n := 14) rfl) (lv_at hl 5 rfl) ?_
    refine gx_iadd hx hb (nq_d dX9_serve_0_g (n := 15) rfl) hw (fun v32 hw => ?_)
    refine gx_iald hx hb hK hP 4 1 rfl rfl (nq_d dX9_serve_0_g (n := 16) rfl) hw (fun v33 hw => ?_)
    refine lv_aload_n hx hb (nq_d dX9_serve_0_g (n := 17) rfl) rfl (lv_at hl 0 rfl) ?_
    refine va_get (D := (dC, dI)) (ci := 9) (v := .ref au_freeAt) (C := RX9) (T := TX9) (N := 12) hx hb hts hi_X9 hown hK hP 0 rfl rfl 3 (by decide) hf21 (fun _ h9 => h9) rfl (nq_d dX9_serve_0_g (n := 18) rfl) ?_
    refine lv_iload_n hx hb (nq_d dX9_serve_0_g (n := 19) rfl) rfl (lv_at hl 3 rfl) ?_
    refine lv_iload hx hb (nq_d dX9_serve_0_g (n := 20) rfl) (lv_at hl 4 rfl) ?_
    refine gx_iadd hx hb (nq_d dX9_serve_0_g (n := 21) rfl) hw (fun v34 hw => ?_)
    refine gx_iald hx hb hK hP 4 1 rfl rfl (nq_d dX9_serve_0_g (n := 22) rfl) hw (fun v35 hw => ?_)
    refine jn1_el hw (fun j37 hj37 hw => ?_)
    have Jj37 : ∀ (l4_36 : Int32) (H : Heap) (locs : List Loc) (ls : Array Slot), va_P (dC, dI) vwCl [(au, .inr (9, [.ref au_ticks, .ref au_tip, .ref au_row, .ref au_freeAt, .ref au_waits, .ref au_greatest, .ref au_tips, .ref au_best, .int u_size, .int u_loss, .int u_bestTips, .int u_bestWaits])), (au_ticks, .inl (cyI, 16, .inl u_ticks)), (au_tip, .inl (cyI, 16, .inl u_tip)), (au_row, .inl (cyI, 16, .inl u_row)), (au_freeAt, .inl (cyI, 68, .inl z4)), (au_waits, .inl (cyI, 17, .inl u_waits)), (au_greatest, .inl (cyI, 17, .inl u_greatest)), (au_tips, .inl (cyI, 17, .inl u_tips))] H → va_D A [(au, .inr (9, [.ref au_ticks, .ref au_tip, .ref au_row, .ref au_freeAt, .ref au_waits, .ref au_greatest, .ref au_tips, .ref au_best, .int u_size, .int u_loss, .int u_bestTips, .int u_bestWaits])), (au_ticks, .inl (cyI, 16, .inl u_ticks)), (au_tip, .inl (cyI, 16, .inl u_tip)), (au_row, .inl (cyI, 16, .inl u_row)), (au_freeAt, .inl (cyI, 68, .inl z4)), (au_waits, .inl (cyI, 17, .inl u_waits)), (au_greatest, .inl (cyI, 17, .inl u_greatest)), (au_tips, .inl (cyI, 17, .inl u_tips))] → va_S A s.heap H locs → lv_has ls 7 [(0, .ref au), (1, .int x1), (2, .int x2), (3, .int v1), (4, .int l4_36), (5, .int l5_3)] → j37 l4_36.toInt → W p l e (headSpec wsX9_serve rmX9_serve).room s m ([.ref au, .int x1, .int x2] : List Value).toArray below meth c H locs 0 0 Q9 (F0 m 41 ls []) := by
      intro l4_36 H locs ls hP hD hS hl hw
      have hw := hj37 _ hw
      refine lv_aload_n hx hb (nq_d dX9_serve_0_g (n := 26) rfl) rfl (lv_at hl 0 rfl) ?_
      refine va_get (D := (dC, dI)) (ci := 9) (v := .ref au_freeAt) (C := RX9) (T := TX9) (N := 12) hx hb hts hi_X9 hown hK hP 0 rfl rfl 3 (by decide) hf21 (fun _ h9 => h9) rfl (nq_d dX9_serve_0_g (n := 27) rfl) ?_
      refine lv_iload_n hx hb (nq_d dX9_serve_0_g (n := 28) rfl) rfl (lv_at hl 3 rfl) ?_
      refine lv_iconst (v := (4 : Int32)) hx hb (nq_d dX9_serve_0_g (n := 29) rfl) (by decide) ?_
      refine gx_iadd hx hb (nq_d dX9_serve_0_g (n := 30) rfl) hw (fun v38 hw => ?_)
      refine lv_iload hx hb (nq_d dX9_serve_0_g (n := 31) rfl) (lv_at hl 5 rfl) ?_
      refine gx_iadd hx hb (nq_d dX9_serve_0_g (n := 32) rfl) hw (fun v39 hw => ?_)
      refine lv_aload_n hx hb (nq_d dX9_serve_0_g (n := 33) rfl) rfl (lv_at hl 0 rfl) ?_
      refine va_get (D := (dC, dI)) (ci := 9) (v := .ref au_freeAt) (C := RX9) (T := TX9) (N := 12) hx hb hts hi_X9 hown hK hP 0 rfl rfl 3 (by decide) hf21 (fun _ h9 => h9) rfl (nq_d dX9_serve_0_g (n := 34) rfl) ?_
      refine lv_iload_n hx hb (nq_d dX9_serve_0_g (n := 35) rfl) rfl (lv_at hl 3 rfl) ?_
      refine lv_iload hx hb (nq_d dX9_serve_0_g (n := 36) rfl) (lv_at hl 5 rfl) ?_
      refine gx_iadd hx hb (nq_d dX9_serve_0_g (n := 37) rfl) hw (fun v40 hw => ?_)
      refine gx_iald hx hb hK hP 4 1 rfl rfl (nq_d dX9_serve_0_g (n := 38) rfl) hw (fun v41 hw => ?_)
      refine gx_iast hx hb hK hP hD hS 4 1 rfl rfl (nq_d dX9_serve_0_g (n := 39) rfl) (fun f42 => [(au, .inr (9, [.ref au_ticks, .ref au_tip, .ref au_row, .ref au_freeAt, .ref au_waits, .ref au_greatest, .ref au_tips, .ref au_best, .int u_size, .int u_loss, .int u_bestTips, .int u_bestWaits])), (au_ticks, .inl (cyI, 16, .inl u_ticks)), (au_tip, .inl (cyI, 16, .inl u_tip)), (au_row, .inl (cyI, 16, .inl u_row)), (au_freeAt, .inl (cyI, 68, .inl f42)), (au_waits, .inl (cyI, 17, .inl u_waits)), (au_greatest, .inl (cyI, 17, .inl u_greatest)), (au_tips, .inl (cyI, 17, .inl u_tips))]) (fun _ => rfl) hw (fun f42 H locs hw hP hD hS => ?_)
      refine gx_iinc (k := 5) (z := (1 : Int32)) (lv' := fun v43 => [(5, .int v43), (0, .ref au), (1, .int x1), (2, .int x2), (3, .int v1), (4, .int l4_36)]) hx hb (nq_d dX9_serve_61_g (n := 0) rfl) hl rfl (by decide) (by decide) (fun _ => rfl) hw (fun v43 ls hw hl => ?_)
      refine lv_goto (tgt := 10) hx hb (nq_d dX9_serve_61_g (n := 1) rfl) (by decide) ?_
      exact hPself5 _ _ _ hw l4_36 v43 f42 rfl rfl rfl _ _ _ hP hD hS (lv_sub hl [1, 2, 3, 4, 5, 0] rfl)
    refine gx_icmp_ge (tgt := 41) hx hb (nq_d dX9_serve_0_g (n := 23) rfl) (by decide) hw (fun hw => ?_) (fun hw => ?_)
    · exact Jj37 l4_2 _ _ _ hP hD hS (lv_sub hl [0, 1, 2, 3, 4, 5] rfl) hw
    · refine lv_iload hx hb (nq_d dX9_serve_0_g (n := 24) rfl) (lv_at hl 5 rfl) ?_
      refine lv_istore (lv' := [(4, .int l5_3), (0, .ref au), (1, .int x1), (2, .int x2), (3, .int v1), (5, .int l5_3)]) hx hb (nq_d dX9_serve_0_g (n := 25) rfl) hl (by decide) rfl (fun ls hl => ?_)
      exact Jj37 l5_3 _ _ _ hP hD hS (lv_sub hl [1, 2, 3, 4, 0, 5] rfl) hw
abbrev rmX9_serveFrom : Room := { frames := 2, cells := 0, slots := 0, locals := 48 }
theorem cd_X9_serveFrom : yX9_serveFrom.cls = RX9 ∧ yX9_serveFrom.cls ≠ "java/lang/invoke/MethodHandle" ∧ yX9_serveFrom.cls ≠ "java/lang/invoke/VarHandle" ∧ (parseMethodDescriptor yX9_serveFrom.desc).map (fun d => d.parameters.length) = some 2 := by decide +kernel
set_option maxHeartbeats 4000000 in
set_option maxRecDepth 100000 in
theorem ct_Rush_serveFrom (l : Launch) (dC : Nat → ClassId) (dI : Nat → Nat → Nat) (cyB cyI cyJ cyZ : ClassId) (au au_ticks au_tip au_row au_freeAt au_waits au_greatest au_tips au_best : Nat) (sz : Nat) (u_size : Int32) (u_loss : Int32) (u_bestTips : Int32) (u_bestWaits : Int32) (u_ticks : Nat → Int32) (u_tip : Nat → Int32) (u_row : Nat → Int32) (u_freeAt : Nat → Int32) (u_waits : Nat → Int32) (u_greatest : Nat → Int32) (u_tips : Nat → Int32) (x1 : Int32) (x2 : Int32) (Q : (Int → Int) → (Int → Int) → (Int → Int) → (Int → Int) → Prop) : Met l yX9_serveFrom wsX9_serveFrom rmX9_serveFrom (va_Pc [.ref au, .int x1, .int x2] (cPre (dC, dI) vwCl (tyS cyB cyI cyJ cyZ) [(au, .inr (9, [.ref au_ticks, .ref au_tip, .ref au_row, .ref au_freeAt, .ref au_waits, .ref au_greatest, .ref au_tips, .ref au_best, .int u_size, .int u_loss, .int u_bestTips, .int u_bestWaits])), (au_ticks, .inl (cyI, 16, .inl u_ticks)), (au_tip, .inl (cyI, 16, .inl u_tip)), (au_row, .inl (cyI, 16, .inl u_row)), (au_freeAt, .inl (cyI, 68, .inl u_freeAt)), (au_waits, .inl (cyI, 17, .inl u_waits)), (au_greatest, .inl (cyI, 17, .inl u_greatest)), (au_tips, .inl (cyI, 17, .inl u_tips))] sz (nf_Rush_serveFrom u_size.toInt u_loss.toInt (aI 16 u_ticks) (aI 16 u_tip) (aI 16 u_row) (aI 68 u_freeAt) (aI 17 u_waits) (aI 17 u_greatest) (aI 17 u_tips) x1.toInt x2.toInt Q))) (va_Qv (fun (u : (Nat → Int32) × (Nat → Int32) × (Nat → Int32) × (Nat → Int32)) => Q (aI 68 (u.1)) (aI 17 (u.2.1)) (aI 17 (u.2.2.1)) (aI 17 (u.2.2.2))) (cPost (dC, dI) vwCl (fun u : (Nat → Int32) × (Nat → Int32) × (Nat → Int32) × (Nat → Int32) => [(au, .inr (9, [.ref au_ticks, .ref au_tip, .ref au_row, .ref au_freeAt, .ref au_waits, .ref au_greatest, .ref au_tips, .ref au_best, .int u_size, .int u_loss, .int u_bestTips, .int u_bestWaits])), (au_ticks, .inl (cyI, 16, .inl u_ticks)), (au_tip, .inl (cyI, 16, .inl u_tip)), (au_row, .inl (cyI, 16, .inl u_row)), (au_freeAt, .inl (cyI, 68, .inl (u.1))), (au_waits, .inl (cyI, 17, .inl (u.2.1))), (au_greatest, .inl (cyI, 17, .inl (u.2.2.1))), (au_tips, .inl (cyI, 17, .inl (u.2.2.2)))]) (va_A [(au, .inr (9, [.ref au_ticks, .ref au_tip, .ref au_row, .ref au_freeAt, .ref au_waits, .ref au_greatest, .ref au_tips, .ref au_best, .int u_size, .int u_loss, .int u_bestTips, .int u_bestWaits])), (au_ticks, .inl (cyI, 16, .inl u_ticks)), (au_tip, .inl (cyI, 16, .inl u_tip)), (au_row, .inl (cyI, 16, .inl u_row)), (au_freeAt, .inl (cyI, 68, .inl u_freeAt)), (au_waits, .inl (cyI, 17, .inl u_waits)), (au_greatest, .inl (cyI, 17, .inl u_greatest)), (au_tips, .inl (cyI, 17, .inl u_tips))] sz)) (va_A [(au, .inr (9, [.ref au_ticks, .ref au_tip, .ref au_row, .ref au_freeAt, .ref au_waits, .ref au_greatest, .ref au_tips, .ref au_best, .int u_size, .int u_loss, .int u_bestTips, .int u_bestWaits])), (au_ticks, .inl (cyI, 16, .inl u_ticks)), (au_tip, .inl (cyI, 16, .inl u_tip)), (au_row, .inl (cyI, 16, .inl u_row)), (au_freeAt, .inl (cyI, 68, .inl u_freeAt)), (au_waits, .inl (cyI, 17, .inl u_waits)), (au_greatest, .inl (cyI, 17, .inl u_greatest)), (au_tips, .inl (cyI, 17, .inl u_tips))] sz)) 0 0 (va_A [(au, .inr (9, [.ref au_ticks, .ref au_tip, .ref au_row, .ref au_freeAt, .ref au_waits, .ref au_greatest, .ref au_tips, .ref au_best, .int u_size, .int u_loss, .int u_bestTips, .int u_bestWaits])), (au_ticks, .inl (cyI, 16, .inl u_ticks)), (au_tip, .inl (cyI, 16, .inl u_tip)), (au_row, .inl (cyI, 16, .inl u_row)), (au_freeAt, .inl (cyI, 68, .inl u_freeAt)), (au_waits, .inl (cyI, 17, .inl u_waits)), (au_greatest, .inl (cyI, 17, .inl u_greatest)), (au_tips, .inl (cyI, 17, .inl u_tips))] sz) := by
  refine Met.ofW (cc := cX9_serveFrom) (maxL := 4) (ret := none) (by decide) rfl ?_
  intro p e s m args below meth c s₁ B hml hv
  obtain ⟨rfl, hsz, hP, hK, hD0, hNw, hw⟩ := hv
  have hx := B.exec
  have hb := B.bytes
  have hr := B.returns
  have hts := atoms_spec (ws := wsX9_serveFrom) B.pre
  have hown : s.vm.findClass RX9 = some m.cls := findClass_of_methodNamed B.named
  have hlocks := B.notSynchronized
  subst hsz
  have hD := hD0.self (sz := s.heap.size)
  generalize hAe : va_A [(au, .inr (9, [.ref au_ticks, .ref au_tip, .ref au_row, .ref au_freeAt, .ref au_waits, .ref au_greatest, .ref au_tips, .ref au_best, .int u_size, .int u_loss, .int u_bestTips, .int u_bestWaits])), (au_ticks, .inl (cyI, 16, .inl u_ticks)), (au_tip, .inl (cyI, 16, .inl u_tip)), (au_row, .inl (cyI, 16, .inl u_row)), (au_freeAt, .inl (cyI, 68, .inl u_freeAt)), (au_waits, .inl (cyI, 17, .inl u_waits)), (au_greatest, .inl (cyI, 17, .inl u_greatest)), (au_tips, .inl (cyI, 17, .inl u_tips))] s.heap.size = A at hD ⊢
  have hA : ∀ q : Nat, s.heap.size ≤ q → A q := fun q h => by rw [← hAe]; exact Or.inr h
  have hS : va_S A s.heap s.heap [] := va_S.rf
  have hl := lv_entry ([.ref au, .int x1, .int x2]) (n := 4) (Nat.le_of_ble_eq_true rfl)
  rw [lg_entry_eq]
  generalize (lg_sl ([.ref au, .int x1, .int x2]) ++ List.replicate (4 - (lg_sl ([.ref au, .int x1, .int x2])).length) Slot.unset).toArray = ls at hl ⊢
  have hl : lv_has ls 4 [(0, .ref au), (1, .int x1), (2, .int x2)] := hl
  refine gx_q (fun Q9 hQ => ?_)
  unfold nf_Rush_serveFrom at hw
  have hi_X9 : ∀ w ∈ wsX90, w ∈ wsX9_serveFrom := (sub_c (nq_m (n := 22) rfl) (sub_c (nq_m (n := 23) rfl) (sub_c (nq_m (n := 24) rfl) (sub_c (nq_m (n := 25) rfl) (sub_c (nq_m (n := 26) rfl) (sub_c (nq_m (n := 27) rfl) (sub_c (nq_m (n := 28) rfl) (sub_c (nq_m (n := 29) rfl) (sub_c (nq_m (n := 30) rfl) (sub_c (nq_m (n := 31) rfl) (sub_c (nq_m (n := 32) rfl) (sub_c (nq_m (n := 33) rfl) sub_n))))))))))))
  have hf36 : (Cond.fieldLink RX9 36 "CoatsHall$Rush" (TX9 8).2.1 (TX9 8).2.2.1).before ([.ref au, .int x1, .int x2] : List Value).toArray s = true := hts (.fieldLink RX9 36 "CoatsHall$Rush" "size" "I") (nq_m (n := 1) rfl)
  refine lv_iload_n hx hb (nq_d dX9_serveFrom_0_g (n := 0) rfl) rfl (lv_at hl 1 rfl) ?_
  refine gx_if_lt (tgt := 14) hx hb (nq_d dX9_serveFrom_0_g (n := 1) rfl) (by decide) hw (fun hw => ?_) (fun hw => ?_)
  · exact rt_v (A1 := A) hQ hx hb hr hlocks hP hD hS (u_freeAt, u_waits, u_greatest, u_tips) [0, 1, 2, 3, 4, 5, 6, 7] rfl (by decide +kernel) hw (nq_d dX9_serveFrom_0_g (n := 8) rfl)
  · refine lv_iload_n hx hb (nq_d dX9_serveFrom_0_g (n := 2) rfl) rfl (lv_at hl 2 rfl) ?_
    refine lv_iconst (v := (1 : Int32)) hx hb (nq_d dX9_serveFrom_0_g (n := 3) rfl) (by decide) ?_
    refine gx_icmp_lt (tgt := 14) hx hb (nq_d dX9_serveFrom_0_g (n := 4) rfl) (by decide) hw (fun hw => ?_) (fun hw => ?_)
    · exact rt_v (A1 := A) hQ hx hb hr hlocks hP hD hS (u_freeAt, u_waits, u_greatest, u_tips) [0, 1, 2, 3, 4, 5, 6, 7] rfl (by decide +kernel) hw (nq_d dX9_serveFrom_0_g (n := 8) rfl)
    · refine lv_iload_n hx hb (nq_d dX9_serveFrom_0_g (n := 5) rfl) rfl (lv_at hl 2 rfl) ?_
      refine lv_iconst (v := (4 : Int32)) hx hb (nq_d dX9_serveFrom_0_g (n := 6) rfl) (by decide) ?_
      refine gx_icmp_le (tgt := 15) hx hb (nq_d dX9_serveFrom_0_g (n := 7) rfl) (by decide) hw (fun hw => ?_) (fun hw => ?_)
      · refine lv_iload_n hx hb (nq_d dX9_serveFrom_0_g (n := 9) rfl) rfl (lv_at hl 1 rfl) ?_
        refine lv_istore_n (lv' := [(3, .int x1), (0, .ref au), (1, .int x1), (2, .int x2)]) hx hb (nq_d dX9_serveFrom_0_g (n := 10) rfl) rfl hl (by decide) rfl (fun ls hl => ?_)
        refine nlp5_el hw (fun X0_11 X1_11 X2_11 X3_11 X4_11 => ∀ (l3_1 : Int32) (z2 : (Nat → Int32)) (z3 : (Nat → Int32)) (z4 : (Nat → Int32)) (z5 : (Nat → Int32)), X0_11 = l3_1.toInt → X1_11 = (aI 68 z2) → X2_11 = (aI 17 z3) → X3_11 = (aI 17 z4) → X4_11 = (aI 17 z5) → ∀ (H : Heap) (locs : List Loc) (ls : Array Slot), va_P (dC, dI) vwCl [(au, .inr (9, [.ref au_ticks, .ref au_tip, .ref au_row, .ref au_freeAt, .ref au_waits, .ref au_greatest, .ref au_tips, .ref au_best, .int u_size, .int u_loss, .int u_bestTips, .int u_bestWaits])), (au_ticks, .inl (cyI, 16, .inl u_ticks)), (au_tip, .inl (cyI, 16, .inl u_tip)), (au_row, .inl (cyI, 16, .inl u_row)), (au_freeAt, .inl (cyI, 68, .inl z2)), (au_waits, .inl (cyI, 17, .inl z3)), (au_greatest, .inl (cyI, 17, .inl z4)), (au_tips, .inl (cyI, 17, .inl z5))] H → va_D A [(au, .inr (9, [.ref au_ticks, .ref au_tip, .ref au_row, .ref au_freeAt, .ref au_waits, .ref au_greatest, .ref au_tips, .ref au_best, .int u_size, .int u_loss, .int u_bestTips, .int u_bestWaits])), (au_ticks, .inl (cyI, 16, .inl u_ticks)), (au_tip, .inl (cyI, 16, .inl u_tip)), (au_row, .inl (cyI, 16, .inl u_row)), (au_freeAt, .inl (cyI, 68, .inl z2)), (au_waits, .inl (cyI, 17, .inl z3)), (au_greatest, .inl (cyI, 17, .inl z4)), (au_tips, .inl (cyI, 17, .inl z5))] → va_S A s.heap H locs → lv_has ls 4 [(0, .ref au), (2, .int x2), (3, .int l3_1)] → W p l e (headSpec wsX9_serveFrom rmX9_serveFrom).room s m ([.ref au, .int x1, .int x2] : List Value).toArray below meth c H locs 0 0 Q9 (F0 m 17 ls [])) (fun self6 hPself6 X0_11 X1_11 X2_11 X3_11 X4_11 hw l3_1 z2 z3 z4 z5 eX0_11 eX1_11 eX2_11 eX3_11 eX4_11 H locs ls hP hD hS hl => ?_) x1 u_freeAt u_waits u_greatest u_tips rfl rfl rfl rfl rfl _ _ _ hP hD hS (lv_sub hl [1, 3, 0] rfl)
        subst eX0_11
        subst eX1_11
        subst eX2_11
        subst eX3_11
        subst eX4_11
        refine lv_iload_n hx hb (nq_d dX9_serveFrom_0_g (n := 11) rfl) rfl (lv_at hl 2 rfl) ?_
        refine lv_aload_n hx hb (nq_d dX9_serveFrom_0_g (n := 12) rfl) rfl (lv_at hl 0 rfl) ?_
        refine va_get (D := (dC, dI)) (ci := 9) (v := .int u_size) (C := RX9) (T := TX9) (N := 12) hx hb hts hi_X9 hown hK hP 0 rfl rfl 8 (by decide) hf36 (fun _ h9 => h9) rfl (nq_d dX9_serveFrom_0_g (n := 13) rfl) ?_
        refine gx_icmp_ge (tgt := 37) hx hb (nq_d dX9_serveFrom_0_g (n := 14) rfl) (by decide) hw (fun hw => ?_) (fun hw => ?_)
        · exact rt_v (A1 := A) hQ hx hb hr hlocks hP hD hS (z2, z3, z4, z5) [0, 1, 2, 3, 4, 5, 6, 7] rfl (by decide +kernel) hw (nq_d dX9_serveFrom_0_g (n := 21) rfl)
        · refine lv_aload_n hx hb (nq_d dX9_serveFrom_0_g (n := 15) rfl) rfl (lv_at hl 0 rfl) ?_
          refine lv_iload_n hx hb (nq_d dX9_serveFrom_0_g (n := 16) rfl) rfl (lv_at hl 2 rfl) ?_
          refine lv_iload_n hx hb (nq_d dX9_serveFrom_0_g (n := 17) rfl) rfl (lv_at hl 1 rfl) ?_
          refine gx_rv (wr := []) (va_runV (As := [.int l3_1, .int x2]) (rest := []) ⟨hx, hb, hml, hown, hts⟩ (ct_Rush_serve l dC dI cyB cyI cyJ cyZ au au_ticks au_tip au_row au_freeAt au_waits au_greatest au_tips au_best _ u_size u_loss u_bestTips u_bestWaits u_ticks u_tip u_row z2 z3 z4 z5 l3_1 x2 _) (cwV 2 hts gX9_serveFrom_X9_serve rfl rfl rfl cd_X9_serve ⟨Nat.le_of_ble_eq_true rfl, Nat.le_of_ble_eq_true rfl⟩) (gx_preV hK hP hD hNw [0, 1, 2, 3, 4, 5, 6, 7] rfl (by decide +kernel) hw 0 (ci := 9) rfl rfl rfl) rfl rfl hl.1 rfl (lv_room (Nat.le_of_ble_eq_true rfl)) (nq_d dX9_serveFrom_0_g (n := 18) rfl) ⟨Nat.zero_le _, Nat.zero_le _⟩) hP hD hS hA [0, 1, 2, 3, 4, 5, 6, 7] [] [0, 1, 2, 3, 4, 5, 6, 7] rfl rfl (by decide) (by decide) (by decide) (fun u => [(au, .inr (9, [.ref au_ticks, .ref au_tip, .ref au_row, .ref au_freeAt, .ref au_waits, .ref au_greatest, .ref au_tips, .ref au_best, .int u_size, .int u_loss, .int u_bestTips, .int u_bestWaits])), (au_ticks, .inl (cyI, 16, .inl u_ticks)), (au_tip, .inl (cyI, 16, .inl u_tip)), (au_row, .inl (cyI, 16, .inl u_row)), (au_freeAt, .inl (cyI, 68, .inl (u.1))), (au_waits, .inl (cyI, 17, .inl (u.2.1))), (au_greatest, .inl (cyI, 17, .inl (u.2.2.1))), (au_tips, .inl (cyI, 17, .inl (u.2.2.2)))]) (fun _ => rfl) (fun u H locs hw hP hD hS => ?_)
          obtain ⟨f7, f8, f9, f10⟩ := u
          try dsimp only at hw hP hD
          refine gx_iinc (k := 2) (z := (1 : Int32)) (lv' := fun v11 => [(3, .int v11), (0, .ref au), (2, .int x2)]) hx hb (nq_d dX9_serveFrom_0_g (n := 19) rfl) hl rfl (by decide) (by decide) (fun _ => rfl) hw (fun v11 ls hw hl => ?_)
          refine lv_goto (tgt := 17) hx hb (nq_d dX9_serveFrom_0_g (n := 20) rfl) (by decide) ?_
          exact hPself6 _ _ _ _ _ hw v11 f7 f8 f9 f10 rfl rfl rfl rfl rfl _ _ _ hP hD hS (lv_sub hl [1, 2, 0] rfl)
      · exact rt_v (A1 := A) hQ hx hb hr hlocks hP hD hS (u_freeAt, u_waits, u_greatest, u_tips) [0, 1, 2, 3, 4, 5, 6, 7] rfl (by decide +kernel) hw (nq_d dX9_serveFrom_0_g (n := 8) rfl)
abbrev rmX9_keepAsBest : Room := { frames := 1, cells := 0, slots := 0, locals := 20 }
theorem cd_X9_keepAsBest : yX9_keepAsBest.cls = RX9 ∧ yX9_keepAsBest.cls ≠ "java/lang/invoke/MethodHandle" ∧ yX9_keepAsBest.cls ≠ "java/lang/invoke/VarHandle" ∧ (parseMethodDescriptor yX9_keepAsBest.desc).map (fun d => d.parameters.length) = some 0 := by decide +kernel
set_option maxHeartbeats 4000000 in
set_option maxRecDepth 100000 in
theorem ct_Rush_keepAsBest (l : Launch) (dC : Nat → ClassId) (dI : Nat → Nat → Nat) (cyB cyI cyJ cyZ : ClassId) (au au_ticks au_tip au_row au_freeAt au_waits au_greatest au_tips au_best : Nat) (sz : Nat) (u_size : Int32) (u_loss : Int32) (u_bestTips : Int32) (u_bestWaits : Int32) (u_row : Nat → Int32) (u_waits : Nat → Int32) (u_tips : Nat → Int32) (u_best : Nat → Int32) (Q : Int → Int → (Int → Int) → Prop) : Met l yX9_keepAsBest wsX9_keepAsBest rmX9_keepAsBest (va_Pc [.ref au] (cPre (dC, dI) vwCl (tyS cyB cyI cyJ cyZ) [(au, .inr (9, [.ref au_ticks, .ref au_tip, .ref au_row, .ref au_freeAt, .ref au_waits, .ref au_greatest, .ref au_tips, .ref au_best, .int u_size, .int u_loss, .int u_bestTips, .int u_bestWaits])), (au_row, .inl (cyI, 16, .inl u_row)), (au_waits, .inl (cyI, 17, .inl u_waits)), (au_tips, .inl (cyI, 17, .inl u_tips)), (au_best, .inl (cyI, 7, .inl u_best))] sz (nf_Rush_keepAsBest u_size.toInt u_bestTips.toInt u_bestWaits.toInt (aI 16 u_row) (aI 17 u_waits) (aI 17 u_tips) (aI 7 u_best)  Q))) (va_Qv (fun (u : Int32 × Int32 × (Nat → Int32)) => Q (u.1).toInt (u.2.1).toInt (aI 7 (u.2.2))) (cPost (dC, dI) vwCl (fun u : Int32 × Int32 × (Nat → Int32) => [(au, .inr (9, [.ref au_ticks, .ref au_tip, .ref au_row, .ref au_freeAt, .ref au_waits, .ref au_greatest, .ref au_tips, .ref au_best, .int u_size, .int u_loss, .int u.1, .int u.2.1])), (au_row, .inl (cyI, 16, .inl u_row)), (au_waits, .inl (cyI, 17, .inl u_waits)), (au_tips, .inl (cyI, 17, .inl u_tips)), (au_best, .inl (cyI, 7, .inl (u.2.2)))]) (va_A [(au, .inr (9, [.ref au_ticks, .ref au_tip, .ref au_row, .ref au_freeAt, .ref au_waits, .ref au_greatest, .ref au_tips, .ref au_best, .int u_size, .int u_loss, .int u_bestTips, .int u_bestWaits])), (au_row, .inl (cyI, 16, .inl u_row)), (au_waits, .inl (cyI, 17, .inl u_waits)), (au_tips, .inl (cyI, 17, .inl u_tips)), (au_best, .inl (cyI, 7, .inl u_best))] sz)) (va_A [(au, .inr (9, [.ref au_ticks, .ref au_tip, .ref au_row, .ref au_freeAt, .ref au_waits, .ref au_greatest, .ref au_tips, .ref au_best, .int u_size, .int u_loss, .int u_bestTips, .int u_bestWaits])), (au_row, .inl (cyI, 16, .inl u_row)), (au_waits, .inl (cyI, 17, .inl u_waits)), (au_tips, .inl (cyI, 17, .inl u_tips)), (au_best, .inl (cyI, 7, .inl u_best))] sz)) 0 0 (va_A [(au, .inr (9, [.ref au_ticks, .ref au_tip, .ref au_row, .ref au_freeAt, .ref au_waits, .ref au_greatest, .ref au_tips, .ref au_best, .int u_size, .int u_loss, .int u_bestTips, .int u_bestWaits])), (au_row, .inl (cyI, 16, .inl u_row)), (au_waits, .inl (cyI, 17, .inl u_waits)), (au_tips, .inl (cyI, 17, .inl u_tips)), (au_best, .inl (cyI, 7, .inl u_best))] sz) := by
  refine Met.ofW (cc := cX9_keepAsBest) (maxL := 2) (ret := none) (by decide) rfl ?_
  intro p e s m args below meth c s₁ B hml hv
  obtain ⟨rfl, hsz, hP, hK, hD0, hNw, hw⟩ := hv
  have hx := B.exec
  have hb := B.bytes
  have hr := B.returns
  have hts := atoms_spec (ws := wsX9_keepAsBest) B.pre
  have hown : s.vm.findClass RX9 = some m.cls := findClass_of_methodNamed B.named
  have hlocks := B.notSynchronized
  subst hsz
  have hD := hD0.self (sz := s.heap.size)
  generalize hAe : va_A [(au, .inr (9, [.ref au_ticks, .ref au_tip, .ref au_row, .ref au_freeAt, .ref au_waits, .ref au_greatest, .ref au_tips, .ref au_best, .int u_size, .int u_loss, .int u_bestTips, .int u_bestWaits])), (au_row, .inl (cyI, 16, .inl u_row)), (au_waits, .inl (cyI, 17, .inl u_waits)), (au_tips, .inl (cyI, 17, .inl u_tips)), (au_best, .inl (cyI, 7, .inl u_best))] s.heap.size = A at hD ⊢
  have hA : ∀ q : Nat, s.heap.size ≤ q → A q := fun q h => by rw [← hAe]; exact Or.inr h
  have hS : va_S A s.heap s.heap [] := va_S.rf
  have hl := lv_entry ([.ref au]) (n := 2) (Nat.le_of_ble_eq_true rfl)
  rw [lg_entry_eq]
  generalize (lg_sl ([.ref au]) ++ List.replicate (2 - (lg_sl ([.ref au])).length) Slot.unset).toArray = ls at hl ⊢
  have hl : lv_has ls 2 [(0, .ref au)] := hl
  refine gx_q (fun Q9 hQ => ?_)
  unfold nf_Rush_keepAsBest at hw
  have hi_X9 : ∀ w ∈ wsX90, w ∈ wsX9_keepAsBest := (sub_c (nq_m (n := 17) rfl) (sub_c (nq_m (n := 18) rfl) (sub_c (nq_m (n := 19) rfl) (sub_c (nq_m (n := 20) rfl) (sub_c (nq_m (n := 21) rfl) (sub_c (nq_m (n := 22) rfl) (sub_c (nq_m (n := 23) rfl) (sub_c (nq_m (n := 24) rfl) (sub_c (nq_m (n := 25) rfl) (sub_c (nq_m (n := 26) rfl) (sub_c (nq_m (n := 27) rfl) (sub_c (nq_m (n := 28) rfl) sub_n))))))))))))
  have hf43 : (Cond.fieldLink RX9 43 "CoatsHall$Rush" (TX9 10).2.1 (TX9 10).2.2.1).before ([.ref au] : List Value).toArray s = true := hts (.fieldLink RX9 43 "CoatsHall$Rush" "bestTips" "I") (nq_m (n := 1) rfl)
  have hf46 : (Cond.fieldLink RX9 46 "CoatsHall$Rush" (TX9 11).2.1 (TX9 11).2.2.1).before ([.ref au] : List Value).toArray s = true := hts (.fieldLink RX9 46 "CoatsHall$Rush" "bestWaits" "I") (nq_m (n := 2) rfl)
  have hf36 : (Cond.fieldLink RX9 36 "CoatsHall$Rush" (TX9 8).2.1 (TX9 8).2.2.1).before ([.ref au] : List Value).toArray s = true := hts (.fieldLink RX9 36 "CoatsHall$Rush" "size" "I") (nq_m (n := 3) rfl)
  have hf33 : (Cond.fieldLink RX9 33 "CoatsHall$Rush" (TX9 7).2.1 (TX9 7).2.2.1).before ([.ref au] : List Value).toArray s = true := hts (.fieldLink RX9 33 "CoatsHall$Rush" "best" "[I") (nq_m (n := 4) rfl)
  have hf18 : (Cond.fieldLink RX9 18 "CoatsHall$Rush" (TX9 2).2.1 (TX9 2).2.2.1).before ([.ref au] : List Value).toArray s = true := hts (.fieldLink RX9 18 "CoatsHall$Rush" "row" "[I") (nq_m (n := 5) rfl)
  refine lv_aload_n hx hb (nq_d dX9_keepAsBest_0_g (n := 0) rfl) rfl (lv_at hl 0 rfl) ?_
  refine lv_aload_n hx hb (nq_d dX9_keepAsBest_0_g (n := 1) rfl) rfl (lv_at hl 0 rfl) ?_
  refine gx_ri (wr := [(au_row, .inl (cyI, 16, .inl u_row)), (au_waits, .inl (cyI, 17, .inl u_waits)), (au_best, .inl (cyI, 7, .inl u_best))]) (va_runV (As := []) (rest := [.ref au]) ⟨hx, hb, hml, hown, hts⟩ (ct_Rush_sumOfTips l dC dI cyB cyI cyJ cyZ au au_ticks au_tip au_row au_freeAt au_waits au_greatest au_tips au_best _ u_size u_loss u_bestTips u_bestWaits u_tips _) (cwV 0 hts gX9_keepAsBest_X9_sumOfTips rfl rfl rfl cd_X9_sumOfTips ⟨Nat.le_of_ble_eq_true rfl, Nat.le_of_ble_eq_true rfl⟩) (gx_preV hK hP hD hNw [0, 3] rfl (by decide +kernel) hw 0 (ci := 9) rfl rfl rfl) rfl rfl hl.1 rfl (lv_room (Nat.le_of_ble_eq_true rfl)) (nq_d dX9_keepAsBest_0_g (n := 2) rfl) ⟨Nat.zero_le _, Nat.zero_le _⟩) hP hD hS hA [0, 3] [1, 2, 4] [3, 0, 1, 4, 2] rfl rfl (by decide) (by decide) (by decide) (fun _ => [(au, .inr (9, [.ref au_ticks, .ref au_tip, .ref au_row, .ref au_freeAt, .ref au_waits, .ref au_greatest, .ref au_tips, .ref au_best, .int u_size, .int u_loss, .int u_bestTips, .int u_bestWaits])), (au_row, .inl (cyI, 16, .inl u_row)), (au_waits, .inl (cyI, 17, .inl u_waits)), (au_tips, .inl (cyI, 17, .inl u_tips)), (au_best, .inl (cyI, 7, .inl u_best))]) (fun _ => rfl) (fun r1 u H locs hw hP hD hS => ?_)
  try dsimp only at hw hP hD
  refine gx_put (D := (dC, dI)) (ci := 9) (v := .int r1) (ty := .int) (C := RX9) (T := TX9) (N := 12) hx hb hts hi_X9 tyX9 tyX9_ok nmX9 hown hK hP hD hS 0 rfl rfl 10 (by decide) hf43 (fun _ h9 => h9) rfl (by decide +kernel) rfl rfl (Nat.le_of_ble_eq_true rfl) (nq_d dX9_keepAsBest_0_g (n := 3) rfl) [(au, .inr (9, [.ref au_ticks, .ref au_tip, .ref au_row, .ref au_freeAt, .ref au_waits, .ref au_greatest, .ref au_tips, .ref au_best, .int u_size, .int u_loss, .int r1, .int u_bestWaits])), (au_row, .inl (cyI, 16, .inl u_row)), (au_waits, .inl (cyI, 17, .inl u_waits)), (au_tips, .inl (cyI, 17, .inl u_tips)), (au_best, .inl (cyI, 7, .inl u_best))] rfl (fun H locs hP hD hS => ?_)
  refine lv_aload_n hx hb (nq_d dX9_keepAsBest_0_g (n := 4) rfl) rfl (lv_at hl 0 rfl) ?_
  refine lv_aload_n hx hb (nq_d dX9_keepAsBest_0_g (n := 5) rfl) rfl (lv_at hl 0 rfl) ?_
  refine gx_ri (wr := [(au_row, .inl (cyI, 16, .inl u_row)), (au_tips, .inl (cyI, 17, .inl u_tips)), (au_best, .inl (cyI, 7, .inl u_best))]) (va_runV (As := []) (rest := [.ref au]) ⟨hx, hb, hml, hown, hts⟩ (ct_Rush_sumOfWaits l dC dI cyB cyI cyJ cyZ au au_ticks au_tip au_row au_freeAt au_waits au_greatest au_tips au_best _ u_size u_loss r1 u_bestWaits u_waits _) (cwV 0 hts gX9_keepAsBest_X9_sumOfWaits rfl rfl rfl cd_X9_sumOfWaits ⟨Nat.le_of_ble_eq_true rfl, Nat.le_of_ble_eq_true rfl⟩) (gx_preV hK hP hD hNw [0, 2] rfl (by decide +kernel) hw 0 (ci := 9) rfl rfl rfl) rfl rfl hl.1 rfl (lv_room (Nat.le_of_ble_eq_true rfl)) (nq_d dX9_keepAsBest_0_g (n := 6) rfl) ⟨Nat.zero_le _, Nat.zero_le _⟩) hP hD hS hA [0, 2] [1, 3, 4] [3, 0, 4, 1, 2] rfl rfl (by decide) (by decide) (by decide) (fun _ => [(au, .inr (9, [.ref au_ticks, .ref au_tip, .ref au_row, .ref au_freeAt, .ref au_waits, .ref au_greatest, .ref au_tips, .ref au_best, .int u_size, .int u_loss, .int r1, .int u_bestWaits])), (au_row, .inl (cyI, 16, .inl u_row)), (au_waits, .inl (cyI, 17, .inl u_waits)), (au_tips, .inl (cyI, 17, .inl u_tips)), (au_best, .inl (cyI, 7, .inl u_best))]) (fun _ => rfl) (fun r2 u H locs hw hP hD hS => ?_)
  try dsimp only at hw hP hD
  refine gx_put (D := (dC, dI)) (ci := 9) (v := .int r2) (ty := .int) (C := RX9) (T := TX9) (N := 12) hx hb hts hi_X9 tyX9 tyX9_ok nmX9 hown hK hP hD hS 0 rfl rfl 11 (by decide) hf46 (fun _ h9 => h9) rfl (by decide +kernel) rfl rfl (Nat.le_of_ble_eq_true rfl) (nq_d dX9_keepAsBest_0_g (n := 7) rfl) [(au, .inr (9, [.ref au_ticks, .ref au_tip, .ref au_row, .ref au_freeAt, .ref au_waits, .ref au_greatest, .ref au_tips, .ref au_best, .int u_size, .int u_loss, .int r1, .int r2])), (au_row, .inl (cyI, 16, .inl u_row)), (au_waits, .inl (cyI, 17, .inl u_waits)), (au_tips, .inl (cyI, 17, .inl u_tips)), (au_best, .inl (cyI, 7, .inl u_best))] rfl (fun H locs hP hD hS => ?_)
  refine lv_iconst (v := (0 : Int32)) hx hb (nq_d dX9_keepAsBest_0_g (n := 8) rfl) (by decide) ?_
  refine lv_istore_n (lv' := [(1, .int (0 : Int32)), (0, .ref au)]) hx hb (nq_d dX9_keepAsBest_0_g (n := 9) rfl) rfl hl (by decide) rfl (fun ls hl => ?_)
  refine nlp2_el hw (fun X0_8 X1_8 => ∀ (l1_3 : Int32) (z4 : (Nat → Int32)), X0_8 = l1_3.toInt → X1_8 = (aI 7 z4) → ∀ (H : Heap) (locs : List Loc) (ls : Array Slot), va_P (dC, dI) vwCl [(au, .inr (9, [.ref au_ticks, .ref au_tip, .ref au_row, .ref au_freeAt, .ref au_waits, .ref au_greatest, .ref au_tips, .ref au_best, .int u_size, .int u_loss, .int r1, .int r2])), (au_row, .inl (cyI, 16, .inl u_row)), (au_waits, .inl (cyI, 17, .inl u_waits)), (au_tips, .inl (cyI, 17, .inl u_tips)), (au_best, .inl (cyI, 7, .inl z4))] H → va_D A [(au, .inr (9, [.ref au_ticks, .ref au_tip, .ref au_row, .ref au_freeAt, .ref au_waits, .ref au_greatest, .ref au_tips, .ref au_best, .int u_size, .int u_loss, .int r1, .int r2])), (au_row, .inl (cyI, 16, .inl u_row)), (au_waits, .inl (cyI, 17, .inl u_waits)), (au_tips, .inl (cyI, 17, .inl u_tips)), (au_best, .inl (cyI, 7, .inl z4))] → va_S A s.heap H locs → lv_has ls 2 [(0, .ref au), (1, .int l1_3)] → W p l e (headSpec wsX9_keepAsBest rmX9_keepAsBest).room s m ([.ref au] : List Value).toArray below meth c H locs 0 0 Q9 (F0 m 18 ls [])) (fun self5 hPself5 X0_8 X1_8 hw l1_3 z4 eX0_8 eX1_8 H locs ls hP hD hS hl => ?_) (0 : Int32) u_best rfl rfl _ _ _ hP hD hS (lv_sub hl [1, 0] rfl)
  subst eX0_8
  subst eX1_8
  refine lv_iload_n hx hb (nq_d dX9_keepAsBest_0_g (n := 10) rfl) rfl (lv_at hl 1 rfl) ?_
  refine lv_aload_n hx hb (nq_d dX9_keepAsBest_0_g (n := 11) rfl) rfl (lv_at hl 0 rfl) ?_
  refine va_get (D := (dC, dI)) (ci := 9) (v := .int u_size) (C := RX9) (T := TX9) (N := 12) hx hb hts hi_X9 hown hK hP 0 rfl rfl 8 (by decide) hf36 (fun _ h9 => h9) rfl (nq_d dX9_keepAsBest_0_g (n := 12) rfl) ?_
  refine gx_icmp_ge (tgt := 50) hx hb (nq_d dX9_keepAsBest_0_g (n := 13) rfl) (by decide) hw (fun hw => ?_) (fun hw => ?_)
  · exact rt_v (A1 := A) hQ hx hb hr hlocks hP hD hS (r1, r2, z4) [0, 1, 2, 3, 4] rfl (by decide +kernel) hw (nq_d dX9_keepAsBest_0_g (n := 27) rfl)
  · refine lv_iload_n hx hb (nq_d dX9_keepAsBest_0_g (n := 14) rfl) rfl (lv_at hl 1 rfl) ?_
    refine lv_bipush (v := (7 : Int32)) hx hb (nq_d dX9_keepAsBest_0_g (n := 15) rfl) (by decide) ?_
    refine gx_icmp_ge (tgt := 50) hx hb (nq_d dX9_keepAsBest_0_g (n := 16) rfl) (by decide) hw (fun hw => ?_) (fun hw => ?_)
    · exact rt_v (A1 := A) hQ hx hb hr hlocks hP hD hS (r1, r2, z4) [0, 1, 2, 3, 4] rfl (by decide +kernel) hw (nq_d dX9_keepAsBest_0_g (n := 27) rfl)
    · refine lv_aload_n hx hb (nq_d dX9_keepAsBest_0_g (n := 17) rfl) rfl (lv_at hl 0 rfl) ?_
      refine va_get (D := (dC, dI)) (ci := 9) (v := .ref au_best) (C := RX9) (T := TX9) (N := 12) hx hb hts hi_X9 hown hK hP 0 rfl rfl 7 (by decide) hf33 (fun _ h9 => h9) rfl (nq_d dX9_keepAsBest_0_g (n := 18) rfl) ?_
      refine lv_iload_n hx hb (nq_d dX9_keepAsBest_0_g (n := 19) rfl) rfl (lv_at hl 1 rfl) ?_
      refine lv_aload_n hx hb (nq_d dX9_keepAsBest_0_g (n := 20) rfl) rfl (lv_at hl 0 rfl) ?_
      refine va_get (D := (dC, dI)) (ci := 9) (v := .ref au_row) (C := RX9) (T := TX9) (N := 12) hx hb hts hi_X9 hown hK hP 0 rfl rfl 2 (by decide) hf18 (fun _ h9 => h9) rfl (nq_d dX9_keepAsBest_0_g (n := 21) rfl) ?_
      refine lv_iload_n hx hb (nq_d dX9_keepAsBest_0_g (n := 22) rfl) rfl (lv_at hl 1 rfl) ?_
      refine gx_iald hx hb hK hP 1 1 rfl rfl (nq_d dX9_keepAsBest_0_g (n := 23) rfl) hw (fun v6 hw => ?_)
      refine gx_iast hx hb hK hP hD hS 4 1 rfl rfl (nq_d dX9_keepAsBest_0_g (n := 24) rfl) (fun f7 => [(au, .inr (9, [.ref au_ticks, .ref au_tip, .ref au_row, .ref au_freeAt, .ref au_waits, .ref au_greatest, .ref au_tips, .ref au_best, .int u_size, .int u_loss, .int r1, .int r2])), (au_row, .inl (cyI, 16, .inl u_row)), (au_waits, .inl (cyI, 17, .inl u_waits)), (au_tips, .inl (cyI, 17, .inl u_tips)), (au_best, .inl (cyI, 7, .inl f7))]) (fun _ => rfl) hw (fun f7 H locs hw hP hD hS => ?_)
      refine gx_iinc (k := 1) (z := (1 : Int32)) (lv' := fun v8 => [(1, .int v8), (0, .ref au)]) hx hb (nq_d dX9_keepAsBest_0_g (n := 25) rfl) hl rfl (by decide) (by decide) (fun _ => rfl) hw (fun v8 ls hw hl => ?_)
      refine lv_goto (tgt := 18) hx hb (nq_d dX9_keepAsBest_0_g (n := 26) rfl) (by decide) ?_
      exact hPself5 _ _ hw v8 f7 rfl rfl _ _ _ hP hD hS (lv_sub hl [1, 0] rfl)
abbrev rmX9_swap : Room := { frames := 1, cells := 0, slots := 0, locals := 22 }
theorem cd_X9_swap : yX9_swap.cls = RX9 ∧ yX9_swap.cls ≠ "java/lang/invoke/MethodHandle" ∧ yX9_swap.cls ≠ "java/lang/invoke/VarHandle" ∧ (parseMethodDescriptor yX9_swap.desc).map (fun d => d.parameters.length) = some 2 := by decide +kernel
set_option maxHeartbeats 4000000 in
set_option maxRecDepth 100000 in
theorem ct_Rush_swap (l : Launch) (dC : Nat → ClassId) (dI : Nat → Nat → Nat) (cyB cyI cyJ cyZ : ClassId) (au au_ticks au_tip au_row au_freeAt au_waits au_greatest au_tips au_best : Nat) (sz : Nat) (u_size : Int32) (u_loss : Int32) (u_bestTips : Int32) (u_bestWaits : Int32) (u_row : Nat → Int32) (x1 : Int32) (x2 : Int32) (Q : (Int → Int) → Prop) : Met l yX9_swap wsX9_swap rmX9_swap (va_Pc [.ref au, .int x1, .int x2] (cPre (dC, dI) vwCl (tyS cyB cyI cyJ cyZ) [(au, .inr (9, [.ref au_ticks, .ref au_tip, .ref au_row, .ref au_freeAt, .ref au_waits, .ref au_greatest, .ref au_tips, .ref au_best, .int u_size, .int u_loss, .int u_bestTips, .int u_bestWaits])), (au_row, .inl (cyI, 16, .inl u_row))] sz (nf_Rush_swap (aI 16 u_row) x1.toInt x2.toInt Q))) (va_Qv (fun (u : (Nat → Int32)) => Q (aI 16 u)) (cPost (dC, dI) vwCl (fun u : (Nat → Int32) => [(au, .inr (9, [.ref au_ticks, .ref au_tip, .ref au_row, .ref au_freeAt, .ref au_waits, .ref au_greatest, .ref au_tips, .ref au_best, .int u_size, .int u_loss, .int u_bestTips, .int u_bestWaits])), (au_row, .inl (cyI, 16, .inl (u)))]) (va_A [(au, .inr (9, [.ref au_ticks, .ref au_tip, .ref au_row, .ref au_freeAt, .ref au_waits, .ref au_greatest, .ref au_tips, .ref au_best, .int u_size, .int u_loss, .int u_bestTips, .int u_bestWaits])), (au_row, .inl (cyI, 16, .inl u_row))] sz)) (va_A [(au, .inr (9, [.ref au_ticks, .ref au_tip, .ref au_row, .ref au_freeAt, .ref au_waits, .ref au_greatest, .ref au_tips, .ref au_best, .int u_size, .int u_loss, .int u_bestTips, .int u_bestWaits])), (au_row, .inl (cyI, 16, .inl u_row))] sz)) 0 0 (va_A [(au, .inr (9, [.ref au_ticks, .ref au_tip, .ref au_row, .ref au_freeAt, .ref au_waits, .ref au_greatest, .ref au_tips, .ref au_best, .int u_size, .int u_loss, .int u_bestTips, .int u_bestWaits])), (au_row, .inl (cyI, 16, .inl u_row))] sz) := by
  refine Met.ofW (cc := cX9_swap) (maxL := 4) (ret := none) (by decide) rfl ?_
  intro p e s m args below meth c s₁ B hml hv
  obtain ⟨rfl, hsz, hP, hK, hD0, hNw, hw⟩ := hv
  have hx := B.exec
  have hb := B.bytes
  have hr := B.returns
  have hts := atoms_spec (ws := wsX9_swap) B.pre
  have hown : s.vm.findClass RX9 = some m.cls := findClass_of_methodNamed B.named
  have hlocks := B.notSynchronized
  subst hsz
  have hD := hD0.self (sz := s.heap.size)
  generalize hAe : va_A [(au, .inr (9, [.ref au_ticks, .ref au_tip, .ref au_row, .ref au_freeAt, .ref au_waits, .ref au_greatest, .ref au_tips, .ref au_best, .int u_size, .int u_loss, .int u_bestTips, .int u_bestWaits])), (au_row, .inl (cyI, 16, .inl u_row))] s.heap.size = A at hD ⊢
  have hA : ∀ q : Nat, s.heap.size ≤ q → A q := fun q h => by rw [← hAe]; exact Or.inr h
  have hS : va_S A s.heap s.heap [] := va_S.rf
  have hl := lv_entry ([.ref au, .int x1, .int x2]) (n := 4) (Nat.le_of_ble_eq_true rfl)
  rw [lg_entry_eq]
  generalize (lg_sl ([.ref au, .int x1, .int x2]) ++ List.replicate (4 - (lg_sl ([.ref au, .int x1, .int x2])).length) Slot.unset).toArray = ls at hl ⊢
  have hl : lv_has ls 4 [(0, .ref au), (1, .int x1), (2, .int x2)] := hl
  refine gx_q (fun Q9 hQ => ?_)
  unfold nf_Rush_swap at hw
  have hi_X9 : ∀ w ∈ wsX90, w ∈ wsX9_swap := (sub_c (nq_m (n := 5) rfl) (sub_c (nq_m (n := 6) rfl) (sub_c (nq_m (n := 7) rfl) (sub_c (nq_m (n := 8) rfl) (sub_c (nq_m (n := 9) rfl) (sub_c (nq_m (n := 10) rfl) (sub_c (nq_m (n := 11) rfl) (sub_c (nq_m (n := 12) rfl) (sub_c (nq_m (n := 13) rfl) (sub_c (nq_m (n := 14) rfl) (sub_c (nq_m (n := 15) rfl) (sub_c (nq_m (n := 16) rfl) sub_n))))))))))))
  have hf18 : (Cond.fieldLink RX9 18 "CoatsHall$Rush" (TX9 2).2.1 (TX9 2).2.2.1).before ([.ref au, .int x1, .int x2] : List Value).toArray s = true := hts (.fieldLink RX9 18 "CoatsHall$Rush" "row" "[I") (nq_m (n := 1) rfl)
  refine lv_iload_n hx hb (nq_d dX9_swap_0_g (n := 0) rfl) rfl (lv_at hl 1 rfl) ?_
  refine lv_iconst (v := (0 : Int32)) hx hb (nq_d dX9_swap_0_g (n := 1) rfl) (by decide) ?_
  refine lv_bipush (v := (15 : Int32)) hx hb (nq_d dX9_swap_0_g (n := 2) rfl) (by decide) ?_
  refine gx_ri (wr := [(au, .inr (9, [.ref au_ticks, .ref au_tip, .ref au_row, .ref au_freeAt, .ref au_waits, .ref au_greatest, .ref au_tips, .ref au_best, .int u_size, .int u_loss, .int u_bestTips, .int u_bestWaits])), (au_row, .inl (cyI, 16, .inl u_row))]) (va_runSN (As := [.int x1, .int (0 : Int32), .int (15 : Int32)]) (rest := []) ⟨hx, hb, hml, hown, hts⟩ (ct_H_within l dC dI cyB cyI cyJ cyZ  _ x1 (0 : Int32) (15 : Int32) _) ⟨va_cnB 3 hts gX9_swap_X10_within_n71 rfl rfl rfl (nw_16 hNw) (hts (.initialized RX10) (nq_m (n := 3) rfl)) cd_X10_within.2 ⟨Nat.le_of_ble_eq_true rfl, Nat.le_of_ble_eq_true rfl⟩, hts (.static yX10_within) (nq_m (n := 2) rfl), trivial⟩ (gx_preS hK hP hD hNw [] rfl (by decide) hw) rfl rfl hl.1 rfl (lv_room (Nat.le_of_ble_eq_true rfl)) (nq_d dX9_swap_0_g (n := 3) rfl) ⟨Nat.zero_le _, Nat.zero_le _⟩) hP hD hS hA [] [0, 1] [0, 1] rfl rfl (by decide) (by decide) (by decide) (fun _ => [(au, .inr (9, [.ref au_ticks, .ref au_tip, .ref au_row, .ref au_freeAt, .ref au_waits, .ref au_greatest, .ref au_tips, .ref au_best, .int u_size, .int u_loss, .int u_bestTips, .int u_bestWaits])), (au_row, .inl (cyI, 16, .inl u_row))]) (fun _ => rfl) (fun r1 u H locs hw hP hD hS => ?_)
  try dsimp only at hw hP hD
  refine gx_if_eq (tgt := 20) hx hb (nq_d dX9_swap_0_g (n := 4) rfl) (by decide) hw (fun hw => ?_) (fun hw => ?_)
  · exact rt_v (A1 := A) hQ hx hb hr hlocks hP hD hS u_row [0, 1] rfl (by decide +kernel) hw (nq_d dX9_swap_0_g (n := 10) rfl)
  · refine lv_iload_n hx hb (nq_d dX9_swap_0_g (n := 5) rfl) rfl (lv_at hl 2 rfl) ?_
    refine lv_iconst (v := (0 : Int32)) hx hb (nq_d dX9_swap_0_g (n := 6) rfl) (by decide) ?_
    refine lv_bipush (v := (15 : Int32)) hx hb (nq_d dX9_swap_0_g (n := 7) rfl) (by decide) ?_
    refine gx_ri (wr := [(au, .inr (9, [.ref au_ticks, .ref au_tip, .ref au_row, .ref au_freeAt, .ref au_waits, .ref au_greatest, .ref au_tips, .ref au_best, .int u_size, .int u_loss, .int u_bestTips, .int u_bestWaits])), (au_row, .inl (cyI, 16, .inl u_row))]) (va_runSN (As := [.int x2, .int (0 : Int32), .int (15 : Int32)]) (rest := []) ⟨hx, hb, hml, hown, hts⟩ (ct_H_within l dC dI cyB cyI cyJ cyZ  _ x2 (0 : Int32) (15 : Int32) _) ⟨va_cnB 3 hts gX9_swap_X10_within_n71 rfl rfl rfl (nw_16 hNw) (hts (.initialized RX10) (nq_m (n := 3) rfl)) cd_X10_within.2 ⟨Nat.le_of_ble_eq_true rfl, Nat.le_of_ble_eq_true rfl⟩, hts (.static yX10_within) (nq_m (n := 2) rfl), trivial⟩ (gx_preS hK hP hD hNw [] rfl (by decide) hw) rfl rfl hl.1 rfl (lv_room (Nat.le_of_ble_eq_true rfl)) (nq_d dX9_swap_0_g (n := 8) rfl) ⟨Nat.zero_le _, Nat.zero_le _⟩) hP hD hS hA [] [0, 1] [0, 1] rfl rfl (by decide) (by decide) (by decide) (fun _ => [(au, .inr (9, [.ref au_ticks, .ref au_tip, .ref au_row, .ref au_freeAt, .ref au_waits, .ref au_greatest, .ref au_tips, .ref au_best, .int u_size, .int u_loss, .int u_bestTips, .int u_bestWaits])), (au_row, .inl (cyI, 16, .inl u_row))]) (fun _ => rfl) (fun r2 u H locs hw hP hD hS => ?_)
    try dsimp only at hw hP hD
    refine gx_if_ne (tgt := 21) hx hb (nq_d dX9_swap_0_g (n := 9) rfl) (by decide) hw (fun hw => ?_) (fun hw => ?_)
    · refine lv_aload_n hx hb (nq_d dX9_swap_0_g (n := 11) rfl) rfl (lv_at hl 0 rfl) ?_
      refine va_get (D := (dC, dI)) (ci := 9) (v := .ref au_row) (C := RX9) (T := TX9) (N := 12) hx hb hts hi_X9 hown hK hP 0 rfl rfl 2 (by decide) hf18 (fun _ h9 => h9) rfl (nq_d dX9_swap_0_g (n := 12) rfl) ?_
      refine lv_iload_n hx hb (nq_d dX9_swap_0_g (n := 13) rfl) rfl (lv_at hl 1 rfl) ?_
      refine gx_iald hx hb hK hP 1 1 rfl rfl (nq_d dX9_swap_0_g (n := 14) rfl) hw (fun v3 hw => ?_)
      refine lv_istore_n (lv' := [(3, .int v3), (0, .ref au), (1, .int x1), (2, .int x2)]) hx hb (nq_d dX9_swap_0_g (n := 15) rfl) rfl hl (by decide) rfl (fun ls hl => ?_)
      refine lv_aload_n hx hb (nq_d dX9_swap_0_g (n := 16) rfl) rfl (lv_at hl 1 rfl) ?_
      refine va_get (D := (dC, dI)) (ci := 9) (v := .ref au_row) (C := RX9) (T := TX9) (N := 12) hx hb hts hi_X9 hown hK hP 0 rfl rfl 2 (by decide) hf18 (fun _ h9 => h9) rfl (nq_d dX9_swap_0_g (n := 17) rfl) ?_
      refine lv_iload_n hx hb (nq_d dX9_swap_0_g (n := 18) rfl) rfl (lv_at hl 2 rfl) ?_
      refine lv_aload_n hx hb (nq_d dX9_swap_0_g (n := 19) rfl) rfl (lv_at hl 1 rfl) ?_
      refine va_get (D := (dC, dI)) (ci := 9) (v := .ref au_row) (C := RX9) (T := TX9) (N := 12) hx hb hts hi_X9 hown hK hP 0 rfl rfl 2 (by decide) hf18 (fun _ h9 => h9) rfl (nq_d dX9_swap_0_g (n := 20) rfl) ?_
      refine lv_iload_n hx hb (nq_d dX9_swap_0_g (n := 21) rfl) rfl (lv_at hl 3 rfl) ?_
      refine gx_iald hx hb hK hP 1 1 rfl rfl (nq_d dX9_swap_0_g (n := 22) rfl) hw (fun v4 hw => ?_)
      refine gx_iast hx hb hK hP hD hS 1 1 rfl rfl (nq_d dX9_swap_0_g (n := 23) rfl) (fun f5 => [(au, .inr (9, [.ref au_ticks, .ref au_tip, .ref au_row, .ref au_freeAt, .ref au_waits, .ref au_greatest, .ref au_tips, .ref au_best, .int u_size, .int u_loss, .int u_bestTips, .int u_bestWaits])), (au_row, .inl (cyI, 16, .inl f5))]) (fun _ => rfl) hw (fun f5 H locs hw hP hD hS => ?_)
      refine lv_aload_n hx hb (nq_d dX9_swap_0_g (n := 24) rfl) rfl (lv_at hl 1 rfl) ?_
      refine va_get (D := (dC, dI)) (ci := 9) (v := .ref au_row) (C := RX9) (T := TX9) (N := 12) hx hb hts hi_X9 hown hK hP 0 rfl rfl 2 (by decide) hf18 (fun _ h9 => h9) rfl (nq_d dX9_swap_0_g (n := 25) rfl) ?_
      refine lv_iload_n hx hb (nq_d dX9_swap_0_g (n := 26) rfl) rfl (lv_at hl 3 rfl) ?_
      refine lv_iload_n hx hb (nq_d dX9_swap_0_g (n := 27) rfl) rfl (lv_at hl 0 rfl) ?_
      refine gx_iast hx hb hK hP hD hS 1 1 rfl rfl (nq_d dX9_swap_0_g (n := 28) rfl) (fun f6 => [(au, .inr (9, [.ref au_ticks, .ref au_tip, .ref au_row, .ref au_freeAt, .ref au_waits, .ref au_greatest, .ref au_tips, .ref au_best, .int u_size, .int u_loss, .int u_bestTips, .int u_bestWaits])), (au_row, .inl (cyI, 16, .inl f6))]) (fun _ => rfl) hw (fun f6 H locs hw hP hD hS => ?_)
      exact rt_v (A1 := A) hQ hx hb hr hlocks hP hD hS f6 [0, 1] rfl (by decide +kernel) hw (nq_d dX9_swap_0_g (n := 29) rfl)
    · exact rt_v (A1 := A) hQ hx hb hr hlocks hP hD hS u_row [0, 1] rfl (by decide +kernel) hw (nq_d dX9_swap_0_g (n := 10) rfl)
abbrev rmX9_toNextRow : Room := { frames := 2, cells := 0, slots := 0, locals := 45 }
theorem cd_X9_toNextRow : yX9_toNextRow.cls = RX9 ∧ yX9_toNextRow.cls ≠ "java/lang/invoke/MethodHandle" ∧ yX9_toNextRow.cls ≠ "java/lang/invoke/VarHandle" ∧ (parseMethodDescriptor yX9_toNextRow.desc).map (fun d => d.parameters.length) = some 0 := by decide +kernel
set_option maxHeartbeats 4000000 in
set_option maxRecDepth 100000 in
theorem ct_Rush_toNextRow (l : Launch) (dC : Nat → ClassId) (dI : Nat → Nat → Nat) (cyB cyI cyJ cyZ : ClassId) (au au_ticks au_tip au_row au_freeAt au_waits au_greatest au_tips au_best : Nat) (sz : Nat) (u_size : Int32) (u_loss : Int32) (u_bestTips : Int32) (u_bestWaits : Int32) (u_row : Nat → Int32) (Q : Int → (Int → Int) → Prop) : Met l yX9_toNextRow wsX9_toNextRow rmX9_toNextRow (va_Pc [.ref au] (cPre (dC, dI) vwCl (tyS cyB cyI cyJ cyZ) [(au, .inr (9, [.ref au_ticks, .ref au_tip, .ref au_row, .ref au_freeAt, .ref au_waits, .ref au_greatest, .ref au_tips, .ref au_best, .int u_size, .int u_loss, .int u_bestTips, .int u_bestWaits])), (au_row, .inl (cyI, 16, .inl u_row))] sz (nf_Rush_toNextRow u_size.toInt (aI 16 u_row)  Q))) (va_Qi (fun (r : Int32) (u : (Nat → Int32)) => Q r.toInt (aI 16 u)) (cPost (dC, dI) vwCl (fun u : (Nat → Int32) => [(au, .inr (9, [.ref au_ticks, .ref au_tip, .ref au_row, .ref au_freeAt, .ref au_waits, .ref au_greatest, .ref au_tips, .ref au_best, .int u_size, .int u_loss, .int u_bestTips, .int u_bestWaits])), (au_row, .inl (cyI, 16, .inl (u)))]) (va_A [(au, .inr (9, [.ref au_ticks, .ref au_tip, .ref au_row, .ref au_freeAt, .ref au_waits, .ref au_greatest, .ref au_tips, .ref au_best, .int u_size, .int u_loss, .int u_bestTips, .int u_bestWaits])), (au_row, .inl (cyI, 16, .inl u_row))] sz)) (va_A [(au, .inr (9, [.ref au_ticks, .ref au_tip, .ref au_row, .ref au_freeAt, .ref au_waits, .ref au_greatest, .ref au_tips, .ref au_best, .int u_size, .int u_loss, .int u_bestTips, .int u_bestWaits])), (au_row, .inl (cyI, 16, .inl u_row))] sz)) 0 0 (va_A [(au, .inr (9, [.ref au_ticks, .ref au_tip, .ref au_row, .ref au_freeAt, .ref au_waits, .ref au_greatest, .ref au_tips, .ref au_best, .int u_size, .int u_loss, .int u_bestTips, .int u_bestWaits])), (au_row, .inl (cyI, 16, .inl u_row))] sz) := by
  refine Met.ofW (cc := cX9_toNextRow) (maxL := 5) (ret := (some .int)) (by decide) rfl ?_
  intro p e s m args below meth c s₁ B hml hv
  obtain ⟨rfl, hsz, hP, hK, hD0, hNw, hw⟩ := hv
  have hx := B.exec
  have hb := B.bytes
  have hr := B.returns
  have hts := atoms_spec (ws := wsX9_toNextRow) B.pre
  have hown : s.vm.findClass RX9 = some m.cls := findClass_of_methodNamed B.named
  have hlocks := B.notSynchronized
  subst hsz
  have hD := hD0.self (sz := s.heap.size)
  generalize hAe : va_A [(au, .inr (9, [.ref au_ticks, .ref au_tip, .ref au_row, .ref au_freeAt, .ref au_waits, .ref au_greatest, .ref au_tips, .ref au_best, .int u_size, .int u_loss, .int u_bestTips, .int u_bestWaits])), (au_row, .inl (cyI, 16, .inl u_row))] s.heap.size = A at hD ⊢
  have hA : ∀ q : Nat, s.heap.size ≤ q → A q := fun q h => by rw [← hAe]; exact Or.inr h
  have hS : va_S A s.heap s.heap [] := va_S.rf
  have hl := lv_entry ([.ref au]) (n := 5) (Nat.le_of_ble_eq_true rfl)
  rw [lg_entry_eq]
  generalize (lg_sl ([.ref au]) ++ List.replicate (5 - (lg_sl ([.ref au])).length) Slot.unset).toArray = ls at hl ⊢
  have hl : lv_has ls 5 [(0, .ref au)] := hl
  refine gx_q (fun Q9 hQ => ?_)
  unfold nf_Rush_toNextRow at hw
  have hi_X9 : ∀ w ∈ wsX90, w ∈ wsX9_toNextRow := (sub_c (nq_m (n := 11) rfl) (sub_c (nq_m (n := 12) rfl) (sub_c (nq_m (n := 13) rfl) (sub_c (nq_m (n := 14) rfl) (sub_c (nq_m (n := 15) rfl) (sub_c (nq_m (n := 16) rfl) (sub_c (nq_m (n := 17) rfl) (sub_c (nq_m (n := 18) rfl) (sub_c (nq_m (n := 19) rfl) (sub_c (nq_m (n := 20) rfl) (sub_c (nq_m (n := 21) rfl) (sub_c (nq_m (n := 22) rfl) sub_n))))))))))))
  have hf36 : (Cond.fieldLink RX9 36 "CoatsHall$Rush" (TX9 8).2.1 (TX9 8).2.2.1).before ([.ref au] : List Value).toArray s = true := hts (.fieldLink RX9 36 "CoatsHall$Rush" "size" "I") (nq_m (n := 1) rfl)
  have hf18 : (Cond.fieldLink RX9 18 "CoatsHall$Rush" (TX9 2).2.1 (TX9 2).2.2.1).before ([.ref au] : List Value).toArray s = true := hts (.fieldLink RX9 18 "CoatsHall$Rush" "row" "[I") (nq_m (n := 2) rfl)
  refine lv_aload_n hx hb (nq_d dX9_toNextRow_0_g (n := 0) rfl) rfl (lv_at hl 0 rfl) ?_
  refine va_get (D := (dC, dI)) (ci := 9) (v := .int u_size) (C := RX9) (T := TX9) (N := 12) hx hb hts hi_X9 hown hK hP 0 rfl rfl 8 (by decide) hf36 (fun _ h9 => h9) rfl (nq_d dX9_toNextRow_0_g (n := 1) rfl) ?_
  refine lv_iconst (v := (2 : Int32)) hx hb (nq_d dX9_toNextRow_0_g (n := 2) rfl) (by decide) ?_
  refine gx_isub hx hb (nq_d dX9_toNextRow_0_g (n := 3) rfl) hw (fun v1 hw => ?_)
  refine lv_istore_n (lv' := [(1, .int v1), (0, .ref au)]) hx hb (nq_d dX9_toNextRow_0_g (n := 4) rfl) rfl hl (by decide) rfl (fun ls hl => ?_)
  refine nlp1_el hw (fun X0_25 => ∀ (l1_2 : Int32), X0_25 = l1_2.toInt → ∀ (H : Heap) (locs : List Loc) (ls : Array Slot), va_P (dC, dI) vwCl [(au, .inr (9, [.ref au_ticks, .ref au_tip, .ref au_row, .ref au_freeAt, .ref au_waits, .ref au_greatest, .ref au_tips, .ref au_best, .int u_size, .int u_loss, .int u_bestTips, .int u_bestWaits])), (au_row, .inl (cyI, 16, .inl u_row))] H → va_D A [(au, .inr (9, [.ref au_ticks, .ref au_tip, .ref au_row, .ref au_freeAt, .ref au_waits, .ref au_greatest, .ref au_tips, .ref au_best, .int u_size, .int u_loss, .int u_bestTips, .int u_bestWaits])), (au_row, .inl (cyI, 16, .inl u_row))] → va_S A s.heap H locs → lv_has ls 5 [(0, .ref au), (1, .int l1_2)] → W p l e (headSpec wsX9_toNextRow rmX9_toNextRow).room s m ([.ref au] : List Value).toArray below meth c H locs 0 0 Q9 (F0 m 7 ls [])) (fun self3 hPself3 X0_25 hw l1_2 eX0_25 H locs ls hP hD hS hl => ?_) v1 rfl _ _ _ hP hD hS (lv_sub hl [1, 0] rfl)
  subst eX0_25
  refine lv_iload_n hx hb (nq_d dX9_toNextRow_0_g (n := 5) rfl) rfl (lv_at hl 1 rfl) ?_
  refine jn0_el hw (fun j4 hj4 hw => ?_)
  have Jj4 : ∀  (H : Heap) (locs : List Loc) (ls : Array Slot), va_P (dC, dI) vwCl [(au, .inr (9, [.ref au_ticks, .ref au_tip, .ref au_row, .ref au_freeAt, .ref au_waits, .ref au_greatest, .ref au_tips, .ref au_best, .int u_size, .int u_loss, .int u_bestTips, .int u_bestWaits])), (au_row, .inl (cyI, 16, .inl u_row))] H → va_D A [(au, .inr (9, [.ref au_ticks, .ref au_tip, .ref au_row, .ref au_freeAt, .ref au_waits, .ref au_greatest, .ref au_tips, .ref au_best, .int u_size, .int u_loss, .int u_bestTips, .int u_bestWaits])), (au_row, .inl (cyI, 16, .inl u_row))] → va_S A s.heap H locs → lv_has ls 5 [(0, .ref au), (1, .int l1_2)] → j4  → W p l e (headSpec wsX9_toNextRow rmX9_toNextRow).room s m ([.ref au] : List Value).toArray below meth c H locs 0 0 Q9 (F0 m 34 ls []) := by
    intro  H locs ls hP hD hS hl hw
    have hw := hj4  hw
    refine lv_iload_n hx hb (nq_d dX9_toNextRow_0_g (n := 20) rfl) rfl (lv_at hl 1 rfl) ?_
    refine gx_if_ge (tgt := 40) hx hb (nq_d dX9_toNextRow_0_g (n := 21) rfl) (by decide) hw (fun hw => ?_) (fun hw => ?_)
    · refine lv_aload_n hx hb (nq_d dX9_toNextRow_0_g (n := 24) rfl) rfl (lv_at hl 0 rfl) ?_
      refine va_get (D := (dC, dI)) (ci := 9) (v := .int u_size) (C := RX9) (T := TX9) (N := 12) hx hb hts hi_X9 hown hK hP 0 rfl rfl 8 (by decide) hf36 (fun _ h9 => h9) rfl (nq_d dX9_toNextRow_0_g (n := 25) rfl) ?_
      refine lv_iconst (v := (1 : Int32)) hx hb (nq_d dX9_toNextRow_0_g (n := 26) rfl) (by decide) ?_
      refine gx_isub hx hb (nq_d dX9_toNextRow_0_g (n := 27) rfl) hw (fun v5 hw => ?_)
      refine lv_istore_n (lv' := [(2, .int v5), (0, .ref au), (1, .int l1_2)]) hx hb (nq_d dX9_toNextRow_0_g (n := 28) rfl) rfl hl (by decide) rfl (fun ls hl => ?_)
      refine nlp1_el hw (fun X0_21 => ∀ (l2_6 : Int32), X0_21 = l2_6.toInt → ∀ (H : Heap) (locs : List Loc) (ls : Array Slot), va_P (dC, dI) vwCl [(au, .inr (9, [.ref au_ticks, .ref au_tip, .ref au_row, .ref au_freeAt, .ref au_waits, .ref au_greatest, .ref au_tips, .ref au_best, .int u_size, .int u_loss, .int u_bestTips, .int u_bestWaits])), (au_row, .inl (cyI, 16, .inl u_row))] H → va_D A [(au, .inr (9, [.ref au_ticks, .ref au_tip, .ref au_row, .ref au_freeAt, .ref au_waits, .ref au_greatest, .ref au_tips, .ref au_best, .int u_size, .int u_loss, .int u_bestTips, .int u_bestWaits])), (au_row, .inl (cyI, 16, .inl u_row))] → va_S A s.heap H locs → lv_has ls 5 [(0, .ref au), (1, .int l1_2), (2, .int l2_6)] → W p l e (headSpec wsX9_toNextRow rmX9_toNextRow).room s m ([.ref au] : List Value).toArray below meth c H locs 0 0 Q9 (F0 m 47 ls [])) (fun self7 hPself7 X0_21 hw l2_6 eX0_21 H locs ls hP hD hS hl => ?_) v5 rfl _ _ _ hP hD hS (lv_sub hl [1, 2, 0] rfl)
      subst eX0_21
      refine lv_iload_n hx hb (nq_d dX9_toNextRow_0_g (n := 29) rfl) rfl (lv_at hl 2 rfl) ?_
      refine lv_iload_n hx hb (nq_d dX9_toNextRow_0_g (n := 30) rfl) rfl (lv_at hl 1 rfl) ?_
      refine jn0_el hw (fun j8 hj8 hw => ?_)
      have Jj8 : ∀  (H : Heap) (locs : List Loc) (ls : Array Slot), va_P (dC, dI) vwCl [(au, .inr (9, [.ref au_ticks, .ref au_tip, .ref au_row, .ref au_freeAt, .ref au_waits, .ref au_greatest, .ref au_tips, .ref au_best, .int u_size, .int u_loss, .int u_bestTips, .int u_bestWaits])), (au_row, .inl (cyI, 16, .inl u_row))] H → va_D A [(au, .inr (9, [.ref au_ticks, .ref au_tip, .ref au_row, .ref au_freeAt, .ref au_waits, .ref au_greatest, .ref au_tips, .ref au_best, .int u_size, .int u_loss, .int u_bestTips, .int u_bestWaits])), (au_row, .inl (cyI, 16, .inl u_row))] → va_S A s.heap H locs → lv_has ls 5 [(0, .ref au), (1, .int l1_2), (2, .int l2_6)] → j8  → W p l e (headSpec wsX9_toNextRow rmX9_toNextRow).room s m ([.ref au] : List Value).toArray below meth c H locs 0 0 Q9 (F0 m 73 ls []) := by
        intro  H locs ls hP hD hS hl hw
        have hw := hj8  hw
        refine lv_aload_n hx hb (nq_d dX9_toNextRow_64_g (n := 3) rfl) rfl (lv_at hl 0 rfl) ?_
        refine lv_iload_n hx hb (nq_d dX9_toNextRow_64_g (n := 4) rfl) rfl (lv_at hl 1 rfl) ?_
        refine lv_iload_n hx hb (nq_d dX9_toNextRow_64_g (n := 5) rfl) rfl (lv_at hl 2 rfl) ?_
        refine gx_rv (wr := []) (va_runV (As := [.int l1_2, .int l2_6]) (rest := []) ⟨hx, hb, hml, hown, hts⟩ (ct_Rush_swap l dC dI cyB cyI cyJ cyZ au au_ticks au_tip au_row au_freeAt au_waits au_greatest au_tips au_best _ u_size u_loss u_bestTips u_bestWaits u_row l1_2 l2_6 _) (cwV 2 hts gX9_toNextRow_X9_swap rfl rfl rfl cd_X9_swap ⟨Nat.le_of_ble_eq_true rfl, Nat.le_of_ble_eq_true rfl⟩) (gx_preV hK hP hD hNw [0, 1] rfl (by decide +kernel) hw 0 (ci := 9) rfl rfl rfl) rfl rfl hl.1 rfl (lv_room (Nat.le_of_ble_eq_true rfl)) (nq_d dX9_toNextRow_64_g (n := 6) rfl) ⟨Nat.zero_le _, Nat.zero_le _⟩) hP hD hS hA [0, 1] [] [0, 1] rfl rfl (by decide) (by decide) (by decide) (fun u => [(au, .inr (9, [.ref au_ticks, .ref au_tip, .ref au_row, .ref au_freeAt, .ref au_waits, .ref au_greatest, .ref au_tips, .ref au_best, .int u_size, .int u_loss, .int u_bestTips, .int u_bestWaits])), (au_row, .inl (cyI, 16, .inl u))]) (fun _ => rfl) (fun u H locs hw hP hD hS => ?_)
        obtain ⟨f9, rfl⟩ : ∃ z, z = u := ⟨_, rfl⟩
        try dsimp only at hw hP hD
        refine lv_iload_n hx hb (nq_d dX9_toNextRow_64_g (n := 7) rfl) rfl (lv_at hl 1 rfl) ?_
        refine lv_iconst (v := (1 : Int32)) hx hb (nq_d dX9_toNextRow_64_g (n := 8) rfl) (by decide) ?_
        refine gx_iadd hx hb (nq_d dX9_toNextRow_64_g (n := 9) rfl) hw (fun v10 hw => ?_)
        refine lv_istore_n (lv' := [(3, .int v10), (0, .ref au), (1, .int l1_2), (2, .int l2_6)]) hx hb (nq_d dX9_toNextRow_64_g (n := 10) rfl) rfl hl (by decide) rfl (fun ls hl => ?_)
        refine lv_aload_n hx hb (nq_d dX9_toNextRow_64_g (n := 11) rfl) rfl (lv_at hl 1 rfl) ?_
        refine va_get (D := (dC, dI)) (ci := 9) (v := .int u_size) (C := RX9) (T := TX9) (N := 12) hx hb hts hi_X9 hown hK hP 0 rfl rfl 8 (by decide) hf36 (fun _ h9 => h9) rfl (nq_d dX9_toNextRow_64_g (n := 12) rfl) ?_
        refine lv_iconst (v := (1 : Int32)) hx hb (nq_d dX9_toNextRow_64_g (n := 13) rfl) (by decide) ?_
        refine gx_isub hx hb (nq_d dX9_toNextRow_64_g (n := 14) rfl) hw (fun v11 hw => ?_)
        refine lv_istore (lv' := [(4, .int v11), (3, .int v10), (0, .ref au), (1, .int l1_2), (2, .int l2_6)]) hx hb (nq_d dX9_toNextRow_64_g (n := 15) rfl) hl (by decide) rfl (fun ls hl => ?_)
        refine nlp3_el hw (fun X0_18 X1_18 X2_18 => ∀ (l3_12 : Int32) (l4_13 : Int32) (z14 : (Nat → Int32)), X0_18 = l3_12.toInt → X1_18 = l4_13.toInt → X2_18 = (aI 16 z14) → ∀ (H : Heap) (locs : List Loc) (ls : Array Slot), va_P (dC, dI) vwCl [(au, .inr (9, [.ref au_ticks, .ref au_tip, .ref au_row, .ref au_freeAt, .ref au_waits, .ref au_greatest, .ref au_tips, .ref au_best, .int u_size, .int u_loss, .int u_bestTips, .int u_bestWaits])), (au_row, .inl (cyI, 16, .inl z14))] H → va_D A [(au, .inr (9, [.ref au_ticks, .ref au_tip, .ref au_row, .ref au_freeAt, .ref au_waits, .ref au_greatest, .ref au_tips, .ref au_best, .int u_size, .int u_loss, .int u_bestTips, .int u_bestWaits])), (au_row, .inl (cyI, 16, .inl z14))] → va_S A s.heap H locs → lv_has ls 5 [(0, .ref au), (1, .int l1_2), (3, .int l3_12), (4, .int l4_13)] → W p l e (headSpec wsX9_toNextRow rmX9_toNextRow).room s m ([.ref au] : List Value).toArray below meth c H locs 0 0 Q9 (F0 m 91 ls [])) (fun self15 hPself15 X0_18 X1_18 X2_18 hw l3_12 l4_13 z14 eX0_18 eX1_18 eX2_18 H locs ls hP hD hS hl => ?_) v10 v11 f9 rfl rfl rfl _ _ _ hP hD hS (lv_sub hl [2, 3, 1, 0] rfl)
        subst eX0_18
        subst eX1_18
        subst eX2_18
        refine lv_iload_n hx hb (nq_d dX9_toNextRow_64_g (n := 16) rfl) rfl (lv_at hl 2 rfl) ?_
        refine lv_iload hx hb (nq_d dX9_toNextRow_64_g (n := 17) rfl) (lv_at hl 3 rfl) ?_
        refine gx_icmp_ge (tgt := 113) hx hb (nq_d dX9_toNextRow_64_g (n := 18) rfl) (by decide) hw (fun hw => ?_) (fun hw => ?_)
        · refine lv_iload_n hx hb (nq_d dX9_toNextRow_64_g (n := 26) rfl) rfl (lv_at hl 1 rfl) ?_
          exact rt_i (A1 := A) hQ hx hb hr hlocks hP hD hS z14 [0, 1] rfl (by decide +kernel) hw (nq_d dX9_toNextRow_64_g (n := 27) rfl)
        · refine lv_aload_n hx hb (nq_d dX9_toNextRow_64_g (n := 19) rfl) rfl (lv_at hl 0 rfl) ?_
          refine lv_iload_n hx hb (nq_d dX9_toNextRow_64_g (n := 20) rfl) rfl (lv_at hl 2 rfl) ?_
          refine lv_iload hx hb (nq_d dX9_toNextRow_64_g (n := 21) rfl) (lv_at hl 3 rfl) ?_
          refine gx_rv (wr := []) (va_runV (As := [.int l3_12, .int l4_13]) (rest := []) ⟨hx, hb, hml, hown, hts⟩ (ct_Rush_swap l dC dI cyB cyI cyJ cyZ au au_ticks au_tip au_row au_freeAt au_waits au_greatest au_tips au_best _ u_size u_loss u_bestTips u_bestWaits z14 l3_12 l4_13 _) (cwV 2 hts gX9_toNextRow_X9_swap rfl rfl rfl cd_X9_swap ⟨Nat.le_of_ble_eq_true rfl, Nat.le_of_ble_eq_true rfl⟩) (gx_preV hK hP hD hNw [0, 1] rfl (by decide +kernel) hw 0 (ci := 9) rfl rfl rfl) rfl rfl hl.1 rfl (lv_room (Nat.le_of_ble_eq_true rfl)) (nq_d dX9_toNextRow_64_g (n := 22) rfl) ⟨Nat.zero_le _, Nat.zero_le _⟩) hP hD hS hA [0, 1] [] [0, 1] rfl rfl (by decide) (by decide) (by decide) (fun u => [(au, .inr (9, [.ref au_ticks, .ref au_tip, .ref au_row, .ref au_freeAt, .ref au_waits, .ref au_greatest, .ref au_tips, .ref au_best, .int u_size, .int u_loss, .int u_bestTips, .int u_bestWaits])), (au_row, .inl (cyI, 16, .inl u))]) (fun _ => rfl) (fun u H locs hw hP hD hS => ?_)
          obtain ⟨f16, rfl⟩ : ∃ z, z = u := ⟨_, rfl⟩
          try dsimp only at hw hP hD
          refine gx_iinc (k := 2) (z := (1 : Int32)) (lv' := fun v17 => [(3, .int v17), (0, .ref au), (1, .int l1_2), (4, .int l4_13)]) hx hb (nq_d dX9_toNextRow_64_g (n := 23) rfl) hl rfl (by decide) (by decide) (fun _ => rfl) hw (fun v17 ls hw hl => ?_)
          refine gx_iinc (k := 3) (z := ((-1) : Int32)) (lv' := fun v18 => [(4, .int v18), (3, .int v17), (0, .ref au), (1, .int l1_2)]) hx hb (nq_d dX9_toNextRow_64_g (n := 24) rfl) hl rfl (by decide) (by decide) (fun _ => rfl) hw (fun v18 ls hw hl => ?_)
          refine lv_goto (tgt := 91) hx hb (nq_d dX9_toNextRow_64_g (n := 25) rfl) (by decide) ?_
          exact hPself15 _ _ _ hw v17 v18 f16 rfl rfl rfl _ _ _ hP hD hS (lv_sub hl [2, 3, 1, 0] rfl)
      refine gx_icmp_le (tgt := 73) hx hb (nq_d dX9_toNextRow_0_g (n := 31) rfl) (by decide) hw (fun hw => ?_) (fun hw => ?_)
      · exact Jj8  _ _ _ hP hD hS (lv_sub hl [0, 1, 2] rfl) hw
      · refine lv_aload_n hx hb (nq_d dX9_toNextRow_0_g (n := 32) rfl) rfl (lv_at hl 0 rfl) ?_
        refine va_get (D := (dC, dI)) (ci := 9) (v := .ref au_row) (C := RX9) (T := TX9) (N := 12) hx hb hts hi_X9 hown hK hP 0 rfl rfl 2 (by decide) hf18 (fun _ h9 => h9) rfl (nq_d dX9_toNextRow_0_g (n := 33) rfl) ?_
        refine lv_iload_n hx hb (nq_d dX9_toNextRow_0_g (n := 34) rfl) rfl (lv_at hl 2 rfl) ?_
        refine gx_iald hx hb hK hP 1 1 rfl rfl (nq_d dX9_toNextRow_0_g (n := 35) rfl) hw (fun v19 hw => ?_)
        refine lv_aload_n hx hb (nq_d dX9_toNextRow_0_g (n := 36) rfl) rfl (lv_at hl 0 rfl) ?_
        refine va_get (D := (dC, dI)) (ci := 9) (v := .ref au_row) (C := RX9) (T := TX9) (N := 12) hx hb hts hi_X9 hown hK hP 0 rfl rfl 2 (by decide) hf18 (fun _ h9 => h9) rfl (nq_d dX9_toNextRow_0_g (n := 37) rfl) ?_
        refine lv_iload_n hx hb (nq_d dX9_toNextRow_0_g (n := 38) rfl) rfl (lv_at hl 1 rfl) ?_
        refine gx_iald hx hb hK hP 1 1 rfl rfl (nq_d dX9_toNextRow_0_g (n := 39) rfl) hw (fun v20 hw => ?_)
        refine gx_icmp_ge (tgt := 73) hx hb (nq_d dX9_toNextRow_64_g (n := 0) rfl) (by decide) hw (fun hw => ?_) (fun hw => ?_)
        · exact Jj8  _ _ _ hP hD hS (lv_sub hl [0, 1, 2] rfl) hw
        · refine gx_iinc (k := 2) (z := ((-1) : Int32)) (lv' := fun v21 => [(2, .int v21), (0, .ref au), (1, .int l1_2)]) hx hb (nq_d dX9_toNextRow_64_g (n := 1) rfl) hl rfl (by decide) (by decide) (fun _ => rfl) hw (fun v21 ls hw hl => ?_)
          refine lv_goto (tgt := 47) hx hb (nq_d dX9_toNextRow_64_g (n := 2) rfl) (by decide) ?_
          exact hPself7 _ hw v21 rfl _ _ _ hP hD hS (lv_sub hl [1, 2, 0] rfl)
    · refine lv_iconst (v := ((-1) : Int32)) hx hb (nq_d dX9_toNextRow_0_g (n := 22) rfl) (by decide) ?_
      exact rt_i (A1 := A) hQ hx hb hr hlocks hP hD hS u_row [0, 1] rfl (by decide +kernel) hw (nq_d dX9_toNextRow_0_g (n := 23) rfl)
  refine gx_if_lt (tgt := 34) hx hb (nq_d dX9_toNextRow_0_g (n := 6) rfl) (by decide) hw (fun hw => ?_) (fun hw => ?_)
  · exact Jj4  _ _ _ hP hD hS (lv_sub hl [0, 1] rfl) hw
  · refine lv_aload_n hx hb (nq_d dX9_toNextRow_0_g (n := 7) rfl) rfl (lv_at hl 0 rfl) ?_
    refine va_get (D := (dC, dI)) (ci := 9) (v := .ref au_row) (C := RX9) (T := TX9) (N := 12) hx hb hts hi_X9 hown hK hP 0 rfl rfl 2 (by decide) hf18 (fun _ h9 => h9) rfl (nq_d dX9_toNextRow_0_g (n := 8) rfl) ?_
    refine lv_iload_n hx hb (nq_d dX9_toNextRow_0_g (n := 9) rfl) rfl (lv_at hl 1 rfl) ?_
    refine gx_iald hx hb hK hP 1 1 rfl rfl (nq_d dX9_toNextRow_0_g (n := 10) rfl) hw (fun v22 hw => ?_)
    refine lv_aload_n hx hb (nq_d dX9_toNextRow_0_g (n := 11) rfl) rfl (lv_at hl 0 rfl) ?_
    refine va_get (D := (dC, dI)) (ci := 9) (v := .ref au_row) (C := RX9) (T := TX9) (N := 12) hx hb hts hi_X9 hown hK hP 0 rfl rfl 2 (by decide) hf18 (fun _ h9 => h9) rfl (nq_d dX9_toNextRow_0_g (n := 12) rfl) ?_
    refine lv_iload_n hx hb (nq_d dX9_toNextRow_0_g (n := 13) rfl) rfl (lv_at hl 1 rfl) ?_
    refine lv_iconst (v := (1 : Int32)) hx hb (nq_d dX9_toNextRow_0_g (n := 14) rfl) (by decide) ?_
    refine gx_iadd hx hb (nq_d dX9_toNextRow_0_g (n := 15) rfl) hw (fun v23 hw => ?_)
    refine gx_iald hx hb hK hP 1 1 rfl rfl (nq_d dX9_toNextRow_0_g (n := 16) rfl) hw (fun v24 hw => ?_)
    refine gx_icmp_le (tgt := 34) hx hb (nq_d dX9_toNextRow_0_g (n := 17) rfl) (by decide) hw (fun hw => ?_) (fun hw => ?_)
    · exact Jj4  _ _ _ hP hD hS (lv_sub hl [0, 1] rfl) hw
    · refine gx_iinc (k := 1) (z := ((-1) : Int32)) (lv' := fun v25 => [(1, .int v25), (0, .ref au)]) hx hb (nq_d dX9_toNextRow_0_g (n := 18) rfl) hl rfl (by decide) (by decide) (fun _ => rfl) hw (fun v25 ls hw hl => ?_)
      refine lv_goto (tgt := 7) hx hb (nq_d dX9_toNextRow_0_g (n := 19) rfl) (by decide) ?_
      exact hPself3 _ hw v25 rfl _ _ _ hP hD hS (lv_sub hl [1, 0] rfl)
abbrev rmX9_findBest : Room := { frames := 3, cells := 0, slots := 0, locals := 71 }
theorem cd_X9_findBest : yX9_findBest.cls = RX9 ∧ yX9_findBest.cls ≠ "java/lang/invoke/MethodHandle" ∧ yX9_findBest.cls ≠ "java/lang/invoke/VarHandle" ∧ (parseMethodDescriptor yX9_findBest.desc).map (fun d => d.parameters.length) = some 1 := by decide +kernel
set_option maxHeartbeats 4000000 in
set_option maxRecDepth 100000 in
theorem ct_Rush_findBest (l : Launch) (dC : Nat → ClassId) (dI : Nat → Nat → Nat) (cyB cyI cyJ cyZ : ClassId) (au au_ticks au_tip au_row au_freeAt au_waits au_greatest au_tips au_best : Nat) (sz : Nat) (u_size : Int32) (u_loss : Int32) (u_bestTips : Int32) (u_bestWaits : Int32) (u_ticks : Nat → Int32) (u_tip : Nat → Int32) (u_row : Nat → Int32) (u_freeAt : Nat → Int32) (u_waits : Nat → Int32) (u_greatest : Nat → Int32) (u_tips : Nat → Int32) (u_best : Nat → Int32) (x1 : Int32) (Q : Int → Int → (Int → Int) → (Int → Int) → (Int → Int) → (Int → Int) → (Int → Int) → (Int → Int) → Prop) : Met l yX9_findBest wsX9_findBest rmX9_findBest (va_Pc [.ref au, .int x1] (cPre (dC, dI) vwCl (tyS cyB cyI cyJ cyZ) [(au, .inr (9, [.ref au_ticks, .ref au_tip, .ref au_row, .ref au_freeAt, .ref au_waits, .ref au_greatest, .ref au_tips, .ref au_best, .int u_size, .int u_loss, .int u_bestTips, .int u_bestWaits])), (au_ticks, .inl (cyI, 16, .inl u_ticks)), (au_tip, .inl (cyI, 16, .inl u_tip)), (au_row, .inl (cyI, 16, .inl u_row)), (au_freeAt, .inl (cyI, 68, .inl u_freeAt)), (au_waits, .inl (cyI, 17, .inl u_waits)), (au_greatest, .inl (cyI, 17, .inl u_greatest)), (au_tips, .inl (cyI, 17, .inl u_tips)), (au_best, .inl (cyI, 7, .inl u_best))] sz (nf_Rush_findBest u_size.toInt u_loss.toInt u_bestTips.toInt u_bestWaits.toInt (aI 16 u_ticks) (aI 16 u_tip) (aI 16 u_row) (aI 68 u_freeAt) (aI 17 u_waits) (aI 17 u_greatest) (aI 17 u_tips) (aI 7 u_best) x1.toInt Q))) (va_Qv (fun (u : Int32 × Int32 × (Nat → Int32) × (Nat → Int32) × (Nat → Int32) × (Nat → Int32) × (Nat → Int32) × (Nat → Int32)) => Q (u.1).toInt (u.2.1).toInt (aI 16 (u.2.2.1)) (aI 68 (u.2.2.2.1)) (aI 17 (u.2.2.2.2.1)) (aI 17 (u.2.2.2.2.2.1)) (aI 17 (u.2.2.2.2.2.2.1)) (aI 7 (u.2.2.2.2.2.2.2))) (cPost (dC, dI) vwCl (fun u : Int32 × Int32 × (Nat → Int32) × (Nat → Int32) × (Nat → Int32) × (Nat → Int32) × (Nat → Int32) × (Nat → Int32) => [(au, .inr (9, [.ref au_ticks, .ref au_tip, .ref au_row, .ref au_freeAt, .ref au_waits, .ref au_greatest, .ref au_tips, .ref au_best, .int u_size, .int u_loss, .int u.1, .int u.2.1])), (au_ticks, .inl (cyI, 16, .inl u_ticks)), (au_tip, .inl (cyI, 16, .inl u_tip)), (au_row, .inl (cyI, 16, .inl (u.2.2.1))), (au_freeAt, .inl (cyI, 68, .inl (u.2.2.2.1))), (au_waits, .inl (cyI, 17, .inl (u.2.2.2.2.1))), (au_greatest, .inl (cyI, 17, .inl (u.2.2.2.2.2.1))), (au_tips, .inl (cyI, 17, .inl (u.2.2.2.2.2.2.1))), (au_best, .inl (cyI, 7, .inl (u.2.2.2.2.2.2.2)))]) (va_A [(au, .inr (9, [.ref au_ticks, .ref au_tip, .ref au_row, .ref au_freeAt, .ref au_waits, .ref au_greatest, .ref au_tips, .ref au_best, .int u_size, .int u_loss, .int u_bestTips, .int u_bestWaits])), (au_ticks, .inl (cyI, 16, .inl u_ticks)), (au_tip, .inl (cyI, 16, .inl u_tip)), (au_row, .inl (cyI, 16, .inl u_row)), (au_freeAt, .inl (cyI, 68, .inl u_freeAt)), (au_waits, .inl (cyI, 17, .inl u_waits)), (au_greatest, .inl (cyI, 17, .inl u_greatest)), (au_tips, .inl (cyI, 17, .inl u_tips)), (au_best, .inl (cyI, 7, .inl u_best))] sz)) (va_A [(au, .inr (9, [.ref au_ticks, .ref au_tip, .ref au_row, .ref au_freeAt, .ref au_waits, .ref au_greatest, .ref au_tips, .ref au_best, .int u_size, .int u_loss, .int u_bestTips, .int u_bestWaits])), (au_ticks, .inl (cyI, 16, .inl u_ticks)), (au_tip, .inl (cyI, 16, .inl u_tip)), (au_row, .inl (cyI, 16, .inl u_row)), (au_freeAt, .inl (cyI, 68, .inl u_freeAt)), (au_waits, .inl (cyI, 17, .inl u_waits)), (au_greatest, .inl (cyI, 17, .inl u_greatest)), (au_tips, .inl (cyI, 17, .inl u_tips)), (au_best, .inl (cyI, 7, .inl u_best))] sz)) 0 0 (va_A [(au, .inr (9, [.ref au_ticks, .ref au_tip, .ref au_row, .ref au_freeAt, .ref au_waits, .ref au_greatest, .ref au_tips, .ref au_best, .int u_size, .int u_loss, .int u_bestTips, .int u_bestWaits])), (au_ticks, .inl (cyI, 16, .inl u_ticks)), (au_tip, .inl (cyI, 16, .inl u_tip)), (au_row, .inl (cyI, 16, .inl u_row)), (au_freeAt, .inl (cyI, 68, .inl u_freeAt)), (au_waits, .inl (cyI, 17, .inl u_waits)), (au_greatest, .inl (cyI, 17, .inl u_greatest)), (au_tips, .inl (cyI, 17, .inl u_tips)), (au_best, .inl (cyI, 7, .inl u_best))] sz) := by
  refine Met.ofW (cc := cX9_findBest) (maxL := 5) (ret := none) (by decide) rfl ?_
  intro p e s m args below meth c s₁ B hml hv
  obtain ⟨rfl, hsz, hP, hK, hD0, hNw, hw⟩ := hv
  have hx := B.exec
  have hb := B.bytes
  have hr := B.returns
  have hts := atoms_spec (ws := wsX9_findBest) B.pre
  have hown : s.vm.findClass RX9 = some m.cls := findClass_of_methodNamed B.named
  have hlocks := B.notSynchronized
  subst hsz
  have hD := hD0.self (sz := s.heap.size)
  generalize hAe : va_A [(au, .inr (9, [.ref au_ticks, .ref au_tip, .ref au_row, .ref au_freeAt, .ref au_waits, .ref au_greatest, .ref au_tips, .ref au_best, .int u_size, .int u_loss, .int u_bestTips, .int u_bestWaits])), (au_ticks, .inl (cyI, 16, .inl u_ticks)), (au_tip, .inl (cyI, 16, .inl u_tip)), (au_row, .inl (cyI, 16, .inl u_row)), (au_freeAt, .inl (cyI, 68, .inl u_freeAt)), (au_waits, .inl (cyI, 17, .inl u_waits)), (au_greatest, .inl (cyI, 17, .inl u_greatest)), (au_tips, .inl (cyI, 17, .inl u_tips)), (au_best, .inl (cyI, 7, .inl u_best))] s.heap.size = A at hD ⊢
  have hA : ∀ q : Nat, s.heap.size ≤ q → A q := fun q h => by rw [← hAe]; exact Or.inr h
  have hS : va_S A s.heap s.heap [] := va_S.rf
  have hl := lv_entry ([.ref au, .int x1]) (n := 5) (Nat.le_of_ble_eq_true rfl)
  rw [lg_entry_eq]
  generalize (lg_sl ([.ref au, .int x1]) ++ List.replicate (5 - (lg_sl ([.ref au, .int x1])).length) Slot.unset).toArray = ls at hl ⊢
  have hl : lv_has ls 5 [(0, .ref au), (1, .int x1)] := hl
  refine gx_q (fun Q9 hQ => ?_)
  unfold nf_Rush_findBest at hw
  have hi_X9 : ∀ w ∈ wsX90, w ∈ wsX9_findBest := (sub_c (nq_m (n := 49) rfl) (sub_c (nq_m (n := 50) rfl) (sub_c (nq_m (n := 51) rfl) (sub_c (nq_m (n := 52) rfl) (sub_c (nq_m (n := 53) rfl) (sub_c (nq_m (n := 54) rfl) (sub_c (nq_m (n := 55) rfl) (sub_c (nq_m (n := 56) rfl) (sub_c (nq_m (n := 57) rfl) (sub_c (nq_m (n := 58) rfl) (sub_c (nq_m (n := 59) rfl) (sub_c (nq_m (n := 60) rfl) sub_n))))))))))))
  have hf43 : (Cond.fieldLink RX9 43 "CoatsHall$Rush" (TX9 10).2.1 (TX9 10).2.2.1).before ([.ref au, .int x1] : List Value).toArray s = true := hts (.fieldLink RX9 43 "CoatsHall$Rush" "bestTips" "I") (nq_m (n := 1) rfl)
  have hf46 : (Cond.fieldLink RX9 46 "CoatsHall$Rush" (TX9 11).2.1 (TX9 11).2.2.1).before ([.ref au, .int x1] : List Value).toArray s = true := hts (.fieldLink RX9 46 "CoatsHall$Rush" "bestWaits" "I") (nq_m (n := 2) rfl)
  refine lv_aload_n hx hb (nq_d dX9_findBest_0_g (n := 0) rfl) rfl (lv_at hl 0 rfl) ?_
  refine lv_iconst (v := (0 : Int32)) hx hb (nq_d dX9_findBest_0_g (n := 1) rfl) (by decide) ?_
  refine lv_iload_n hx hb (nq_d dX9_findBest_0_g (n := 2) rfl) rfl (lv_at hl 1 rfl) ?_
  refine gx_rv (wr := [(au_best, .inl (cyI, 7, .inl u_best))]) (va_runV (As := [.int (0 : Int32), .int x1]) (rest := []) ⟨hx, hb, hml, hown, hts⟩ (ct_Rush_serveFrom l dC dI cyB cyI cyJ cyZ au au_ticks au_tip au_row au_freeAt au_waits au_greatest au_tips au_best _ u_size u_loss u_bestTips u_bestWaits u_ticks u_tip u_row u_freeAt u_waits u_greatest u_tips (0 : Int32) x1 _) (cwV 2 hts gX9_findBest_X9_serveFrom rfl rfl rfl cd_X9_serveFrom ⟨Nat.le_of_ble_eq_true rfl, Nat.le_of_ble_eq_true rfl⟩) (gx_preV hK hP hD hNw [0, 1, 2, 3, 4, 5, 6, 7] rfl (by decide +kernel) hw 0 (ci := 9) rfl rfl rfl) rfl rfl hl.1 rfl (lv_room (Nat.le_of_ble_eq_true rfl)) (nq_d dX9_findBest_0_g (n := 3) rfl) ⟨Nat.zero_le _, Nat.zero_le _⟩) hP hD hS hA [0, 1, 2, 3, 4, 5, 6, 7] [8] [1, 2, 3, 4, 5, 6, 7, 8, 0] rfl rfl (by decide) (by decide) (by decide) (fun u => [(au, .inr (9, [.ref au_ticks, .ref au_tip, .ref au_row, .ref au_freeAt, .ref au_waits, .ref au_greatest, .ref au_tips, .ref au_best, .int u_size, .int u_loss, .int u_bestTips, .int u_bestWaits])), (au_ticks, .inl (cyI, 16, .inl u_ticks)), (au_tip, .inl (cyI, 16, .inl u_tip)), (au_row, .inl (cyI, 16, .inl u_row)), (au_freeAt, .inl (cyI, 68, .inl (u.1))), (au_waits, .inl (cyI, 17, .inl (u.2.1))), (au_greatest, .inl (cyI, 17, .inl (u.2.2.1))), (au_tips, .inl (cyI, 17, .inl (u.2.2.2))), (au_best, .inl (cyI, 7, .inl u_best))]) (fun _ => rfl) (fun u H locs hw hP hD hS => ?_)
  obtain ⟨f1, f2, f3, f4⟩ := u
  try dsimp only at hw hP hD
  refine lv_aload_n hx hb (nq_d dX9_findBest_0_g (n := 4) rfl) rfl (lv_at hl 0 rfl) ?_
  refine gx_rv (wr := [(au_ticks, .inl (cyI, 16, .inl u_ticks)), (au_tip, .inl (cyI, 16, .inl u_tip)), (au_freeAt, .inl (cyI, 68, .inl f1)), (au_greatest, .inl (cyI, 17, .inl f3))]) (va_runV (As := []) (rest := []) ⟨hx, hb, hml, hown, hts⟩ (ct_Rush_keepAsBest l dC dI cyB cyI cyJ cyZ au au_ticks au_tip au_row au_freeAt au_waits au_greatest au_tips au_best _ u_size u_loss u_bestTips u_bestWaits u_row f2 f4 u_best _) (cwV 0 hts gX9_findBest_X9_keepAsBest rfl rfl rfl cd_X9_keepAsBest ⟨Nat.le_of_ble_eq_true rfl, Nat.le_of_ble_eq_true rfl⟩) (gx_preV hK hP hD hNw [0, 3, 5, 7, 8] rfl (by decide +kernel) hw 0 (ci := 9) rfl rfl rfl) rfl rfl hl.1 rfl (lv_room (Nat.le_of_ble_eq_true rfl)) (nq_d dX9_findBest_0_g (n := 5) rfl) ⟨Nat.zero_le _, Nat.zero_le _⟩) hP hD hS hA [0, 3, 5, 7, 8] [1, 2, 4, 6] [4, 0, 1, 5, 2, 6, 3, 7, 8] rfl rfl (by decide) (by decide) (by decide) (fun u => [(au, .inr (9, [.ref au_ticks, .ref au_tip, .ref au_row, .ref au_freeAt, .ref au_waits, .ref au_greatest, .ref au_tips, .ref au_best, .int u_size, .int u_loss, .int (u.1), .int (u.2.1)])), (au_ticks, .inl (cyI, 16, .inl u_ticks)), (au_tip, .inl (cyI, 16, .inl u_tip)), (au_row, .inl (cyI, 16, .inl u_row)), (au_freeAt, .inl (cyI, 68, .inl f1)), (au_waits, .inl (cyI, 17, .inl f2)), (au_greatest, .inl (cyI, 17, .inl f3)), (au_tips, .inl (cyI, 17, .inl f4)), (au_best, .inl (cyI, 7, .inl (u.2.2)))]) (fun _ => rfl) (fun u H locs hw hP hD hS => ?_)
  obtain ⟨z5, z6, f7⟩ := u
  try dsimp only at hw hP hD
  refine lv_iconst (v := (1 : Int32)) hx hb (nq_d dX9_findBest_0_g (n := 6) rfl) (by decide) ?_
  refine lv_istore_n (lv' := [(2, .int (1 : Int32)), (0, .ref au), (1, .int x1)]) hx hb (nq_d dX9_findBest_0_g (n := 7) rfl) rfl hl (by decide) rfl (fun ls hl => ?_)
  refine nlp9_el hw (fun X0_37 X1_37 X2_37 X3_37 X4_37 X5_37 X6_37 X7_37 X8_37 => ∀ (l2_8 : Int32) (z9 : Int32) (z10 : Int32) (z11 : (Nat → Int32)) (z12 : (Nat → Int32)) (z13 : (Nat → Int32)) (z14 : (Nat → Int32)) (z15 : (Nat → Int32)) (z16 : (Nat → Int32)), X0_37 = l2_8.toInt → X1_37 = z9.toInt → X2_37 = z10.toInt → X3_37 = (aI 16 z11) → X4_37 = (aI 68 z12) → X5_37 = (aI 17 z13) → X6_37 = (aI 17 z14) → X7_37 = (aI 17 z15) → X8_37 = (aI 7 z16) → ∀ (H : Heap) (locs : List Loc) (ls : Array Slot), va_P (dC, dI) vwCl [(au, .inr (9, [.ref au_ticks, .ref au_tip, .ref au_row, .ref au_freeAt, .ref au_waits, .ref au_greatest, .ref au_tips, .ref au_best, .int u_size, .int u_loss, .int z9, .int z10])), (au_ticks, .inl (cyI, 16, .inl u_ticks)), (au_tip, .inl (cyI, 16, .inl u_tip)), (au_row, .inl (cyI, 16, .inl z11)), (au_freeAt, .inl (cyI, 68, .inl z12)), (au_waits, .inl (cyI, 17, .inl z13)), (au_greatest, .inl (cyI, 17, .inl z14)), (au_tips, .inl (cyI, 17, .inl z15)), (au_best, .inl (cyI, 7, .inl z16))] H → va_D A [(au, .inr (9, [.ref au_ticks, .ref au_tip, .ref au_row, .ref au_freeAt, .ref au_waits, .ref au_greatest, .ref au_tips, .ref au_best, .int u_size, .int u_loss, .int z9, .int z10])), (au_ticks, .inl (cyI, 16, .inl u_ticks)), (au_tip, .inl (cyI, 16, .inl u_tip)), (au_row, .inl (cyI, 16, .inl z11)), (au_freeAt, .inl (cyI, 68, .inl z12)), (au_waits, .inl (cyI, 17, .inl z13)), (au_greatest, .inl (cyI, 17, .inl z14)), (au_tips, .inl (cyI, 17, .inl z15)), (au_best, .inl (cyI, 7, .inl z16))] → va_S A s.heap H locs → lv_has ls 5 [(0, .ref au), (1, .int x1), (2, .int l2_8)] → W p l e (headSpec wsX9_findBest rmX9_findBest).room s m ([.ref au, .int x1] : List Value).toArray below meth c H locs 0 0 Q9 (F0 m 12 ls [])) (fun self17 hPself17 X0_37 X1_37 X2_37 X3_37 X4_37 X5_37 X6_37 X7_37 X8_37 hw l2_8 z9 z10 z11 z12 z13 z14 z15 z16 eX0_37 eX1_37 eX2_37 eX3_37 eX4_37 eX5_37 eX6_37 eX7_37 eX8_37 H locs ls hP hD hS hl => ?_) (1 : Int32) z5 z6 u_row f1 f2 f3 f4 f7 rfl rfl rfl rfl rfl rfl rfl rfl rfl _ _ _ hP hD hS (lv_sub hl [1, 2, 0] rfl)
  subst eX0_37
  subst eX1_37
  subst eX2_37
  subst eX3_37
  subst eX4_37
  subst eX5_37
  subst eX6_37
  subst eX7_37
  subst eX8_37
  refine lv_iload_n hx hb (nq_d dX9_findBest_0_g (n := 8) rfl) rfl (lv_at hl 2 rfl) ?_
  refine lv_sipush (v := (5040 : Int32)) hx hb (nq_d dX9_findBest_0_g (n := 9) rfl) (by decide) ?_
  refine gx_icmp_ge (tgt := 91) hx hb (nq_d dX9_findBest_0_g (n := 10) rfl) (by decide) hw (fun hw => ?_) (fun hw => ?_)
  · exact rt_v (A1 := A) hQ hx hb hr hlocks hP hD hS (z9, z10, z11, z12, z13, z14, z15, z16) [0, 1, 2, 3, 4, 5, 6, 7, 8] rfl (by decide +kernel) hw (nq_d dX9_findBest_74_g (n := 7) rfl)
  · refine lv_aload_n hx hb (nq_d dX9_findBest_0_g (n := 11) rfl) rfl (lv_at hl 0 rfl) ?_
    refine gx_ri (wr := [(au_ticks, .inl (cyI, 16, .inl u_ticks)), (au_tip, .inl (cyI, 16, .inl u_tip)), (au_freeAt, .inl (cyI, 68, .inl z12)), (au_waits, .inl (cyI, 17, .inl z13)), (au_greatest, .inl (cyI, 17, .inl z14)), (au_tips, .inl (cyI, 17, .inl z15)), (au_best, .inl (cyI, 7, .inl z16))]) (va_runV (As := []) (rest := []) ⟨hx, hb, hml, hown, hts⟩ (ct_Rush_toNextRow l dC dI cyB cyI cyJ cyZ au au_ticks au_tip au_row au_freeAt au_waits au_greatest au_tips au_best _ u_size u_loss z9 z10 z11 _) (cwV 0 hts gX9_findBest_X9_toNextRow rfl rfl rfl cd_X9_toNextRow ⟨Nat.le_of_ble_eq_true rfl, Nat.le_of_ble_eq_true rfl⟩) (gx_preV hK hP hD hNw [0, 3] rfl (by decide +kernel) hw 0 (ci := 9) rfl rfl rfl) rfl rfl hl.1 rfl (lv_room (Nat.le_of_ble_eq_true rfl)) (nq_d dX9_findBest_0_g (n := 12) rfl) ⟨Nat.zero_le _, Nat.zero_le _⟩) hP hD hS hA [0, 3] [1, 2, 4, 5, 6, 7, 8] [7, 0, 1, 8, 2, 3, 4, 5, 6] rfl rfl (by decide) (by decide) (by decide) (fun u => [(au, .inr (9, [.ref au_ticks, .ref au_tip, .ref au_row, .ref au_freeAt, .ref au_waits, .ref au_greatest, .ref au_tips, .ref au_best, .int u_size, .int u_loss, .int z9, .int z10])), (au_ticks, .inl (cyI, 16, .inl u_ticks)), (au_tip, .inl (cyI, 16, .inl u_tip)), (au_row, .inl (cyI, 16, .inl u)), (au_freeAt, .inl (cyI, 68, .inl z12)), (au_waits, .inl (cyI, 17, .inl z13)), (au_greatest, .inl (cyI, 17, .inl z14)), (au_tips, .inl (cyI, 17, .inl z15)), (au_best, .inl (cyI, 7, .inl z16))]) (fun _ => rfl) (fun r19 u H locs hw hP hD hS => ?_)
    obtain ⟨f18, rfl⟩ : ∃ z, z = u := ⟨_, rfl⟩
    try dsimp only at hw hP hD
    refine lv_istore_n (lv' := [(3, .int r19), (0, .ref au), (1, .int x1), (2, .int l2_8)]) hx hb (nq_d dX9_findBest_0_g (n := 13) rfl) rfl hl (by decide) rfl (fun ls hl => ?_)
    refine lv_iload_n hx hb (nq_d dX9_findBest_0_g (n := 14) rfl) rfl (lv_at hl 0 rfl) ?_
    refine lv_iconst (v := ((-1) : Int32)) hx hb (nq_d dX9_findBest_0_g (n := 15) rfl) (by decide) ?_
    refine gx_icmp_ne (tgt := 30) hx hb (nq_d dX9_findBest_0_g (n := 16) rfl) (by decide) hw (fun hw => ?_) (fun hw => ?_)
    · refine lv_aload_n hx hb (nq_d dX9_findBest_0_g (n := 18) rfl) rfl (lv_at hl 1 rfl) ?_
      refine lv_iload_n hx hb (nq_d dX9_findBest_0_g (n := 19) rfl) rfl (lv_at hl 0 rfl) ?_
      refine lv_iload_n hx hb (nq_d dX9_findBest_0_g (n := 20) rfl) rfl (lv_at hl 2 rfl) ?_
      refine gx_rv (wr := [(au_best, .inl (cyI, 7, .inl z16))]) (va_runV (As := [.int r19, .int x1]) (rest := []) ⟨hx, hb, hml, hown, hts⟩ (ct_Rush_serveFrom l dC dI cyB cyI cyJ cyZ au au_ticks au_tip au_row au_freeAt au_waits au_greatest au_tips au_best _ u_size u_loss z9 z10 u_ticks u_tip f18 z12 z13 z14 z15 r19 x1 _) (cwV 2 hts gX9_findBest_X9_serveFrom rfl rfl rfl cd_X9_serveFrom ⟨Nat.le_of_ble_eq_true rfl, Nat.le_of_ble_eq_true rfl⟩) (gx_preV hK hP hD hNw [0, 1, 2, 3, 4, 5, 6, 7] rfl (by decide +kernel) hw 0 (ci := 9) rfl rfl rfl) rfl rfl hl.1 rfl (lv_room (Nat.le_of_ble_eq_true rfl)) (nq_d dX9_findBest_0_g (n := 21) rfl) ⟨Nat.zero_le _, Nat.zero_le _⟩) hP hD hS hA [0, 1, 2, 3, 4, 5, 6, 7] [8] [1, 2, 3, 4, 5, 6, 7, 8, 0] rfl rfl (by decide) (by decide) (by decide) (fun u => [(au, .inr (9, [.ref au_ticks, .ref au_tip, .ref au_row, .ref au_freeAt, .ref au_waits, .ref au_greatest, .ref au_tips, .ref au_best, .int u_size, .int u_loss, .int z9, .int z10])), (au_ticks, .inl (cyI, 16, .inl u_ticks)), (au_tip, .inl (cyI, 16, .inl u_tip)), (au_row, .inl (cyI, 16, .inl f18)), (au_freeAt, .inl (cyI, 68, .inl (u.1))), (au_waits, .inl (cyI, 17, .inl (u.2.1))), (au_greatest, .inl (cyI, 17, .inl (u.2.2.1))), (au_tips, .inl (cyI, 17, .inl (u.2.2.2))), (au_best, .inl (cyI, 7, .inl z16))]) (fun _ => rfl) (fun u H locs hw hP hD hS => ?_)
      obtain ⟨f20, f21, f22, f23⟩ := u
      try dsimp only at hw hP hD
      refine lv_aload_n hx hb (nq_d dX9_findBest_0_g (n := 22) rfl) rfl (lv_at hl 1 rfl) ?_
      refine gx_ri (wr := [(au_ticks, .inl (cyI, 16, .inl u_ticks)), (au_tip, .inl (cyI, 16, .inl u_tip)), (au_row, .inl (cyI, 16, .inl f18)), (au_freeAt, .inl (cyI, 68, .inl f20)), (au_waits, .inl (cyI, 17, .inl f21)), (au_greatest, .inl (cyI, 17, .inl f22)), (au_best, .inl (cyI, 7, .inl z16))]) (va_runV (As := []) (rest := []) ⟨hx, hb, hml, hown, hts⟩ (ct_Rush_sumOfTips l dC dI cyB cyI cyJ cyZ au au_ticks au_tip au_row au_freeAt au_waits au_greatest au_tips au_best _ u_size u_loss z9 z10 f23 _) (cwV 0 hts gX9_findBest_X9_sumOfTips rfl rfl rfl cd_X9_sumOfTips ⟨Nat.le_of_ble_eq_true rfl, Nat.le_of_ble_eq_true rfl⟩) (gx_preV hK hP hD hNw [0, 7] rfl (by decide +kernel) hw 0 (ci := 9) rfl rfl rfl) rfl rfl hl.1 rfl (lv_room (Nat.le_of_ble_eq_true rfl)) (nq_d dX9_findBest_0_g (n := 23) rfl) ⟨Nat.zero_le _, Nat.zero_le _⟩) hP hD hS hA [0, 7] [1, 2, 3, 4, 5, 6, 8] [7, 0, 1, 2, 3, 4, 5, 8, 6] rfl rfl (by decide) (by decide) (by decide) (fun _ => [(au, .inr (9, [.ref au_ticks, .ref au_tip, .ref au_row, .ref au_freeAt, .ref au_waits, .ref au_greatest, .ref au_tips, .ref au_best, .int u_size, .int u_loss, .int z9, .int z10])), (au_ticks, .inl (cyI, 16, .inl u_ticks)), (au_tip, .inl (cyI, 16, .inl u_tip)), (au_row, .inl (cyI, 16, .inl f18)), (au_freeAt, .inl (cyI, 68, .inl f20)), (au_waits, .inl (cyI, 17, .inl f21)), (au_greatest, .inl (cyI, 17, .inl f22)), (au_tips, .inl (cyI, 17, .inl f23)), (au_best, .inl (cyI, 7, .inl z16))]) (fun _ => rfl) (fun r24 u H locs hw hP hD hS => ?_)
      try dsimp only at hw hP hD
      refine lv_aload_n hx hb (nq_d dX9_findBest_0_g (n := 24) rfl) rfl (lv_at hl 1 rfl) ?_
      refine va_get (D := (dC, dI)) (ci := 9) (v := .int z9) (C := RX9) (T := TX9) (N := 12) hx hb hts hi_X9 hown hK hP 0 rfl rfl 10 (by decide) hf43 (fun _ h9 => h9) rfl (nq_d dX9_findBest_0_g (n := 25) rfl) ?_
      refine jn1_el hw (fun j26 hj26 hw => ?_)
      have Jj26 : ∀ (t25 : Int32) (H : Heap) (locs : List Loc) (ls : Array Slot), va_P (dC, dI) vwCl [(au, .inr (9, [.ref au_ticks, .ref au_tip, .ref au_row, .ref au_freeAt, .ref au_waits, .ref au_greatest, .ref au_tips, .ref au_best, .int u_size, .int u_loss, .int z9, .int z10])), (au_ticks, .inl (cyI, 16, .inl u_ticks)), (au_tip, .inl (cyI, 16, .inl u_tip)), (au_row, .inl (cyI, 16, .inl f18)), (au_freeAt, .inl (cyI, 68, .inl f20)), (au_waits, .inl (cyI, 17, .inl f21)), (au_greatest, .inl (cyI, 17, .inl f22)), (au_tips, .inl (cyI, 17, .inl f23)), (au_best, .inl (cyI, 7, .inl z16))] H → va_D A [(au, .inr (9, [.ref au_ticks, .ref au_tip, .ref au_row, .ref au_freeAt, .ref au_waits, .ref au_greatest, .ref au_tips, .ref au_best, .int u_size, .int u_loss, .int z9, .int z10])), (au_ticks, .inl (cyI, 16, .inl u_ticks)), (au_tip, .inl (cyI, 16, .inl u_tip)), (au_row, .inl (cyI, 16, .inl f18)), (au_freeAt, .inl (cyI, 68, .inl f20)), (au_waits, .inl (cyI, 17, .inl f21)), (au_greatest, .inl (cyI, 17, .inl f22)), (au_tips, .inl (cyI, 17, .inl f23)), (au_best, .inl (cyI, 7, .inl z16))] → va_S A s.heap H locs → lv_has ls 5 [(0, .ref au), (1, .int x1), (2, .int l2_8)] → j26 t25.toInt → W p l e (headSpec wsX9_findBest rmX9_findBest).room s m ([.ref au, .int x1] : List Value).toArray below meth c H locs 0 0 Q9 (F0 m 52 ls [.int t25]) := by
        intro t25 H locs ls hP hD hS hl hw
        have hw := hj26 _ hw
        refine lv_istore (lv' := [(4, .int t25), (0, .ref au), (1, .int x1), (2, .int l2_8)]) hx hb (nq_d dX9_findBest_0_g (n := 30) rfl) hl (by decide) rfl (fun ls hl => ?_)
        refine lv_aload_n hx hb (nq_d dX9_findBest_0_g (n := 31) rfl) rfl (lv_at hl 1 rfl) ?_
        refine gx_ri (wr := [(au_ticks, .inl (cyI, 16, .inl u_ticks)), (au_tip, .inl (cyI, 16, .inl u_tip)), (au_row, .inl (cyI, 16, .inl f18)), (au_freeAt, .inl (cyI, 68, .inl f20)), (au_waits, .inl (cyI, 17, .inl f21)), (au_greatest, .inl (cyI, 17, .inl f22)), (au_best, .inl (cyI, 7, .inl z16))]) (va_runV (As := []) (rest := []) ⟨hx, hb, hml, hown, hts⟩ (ct_Rush_sumOfTips l dC dI cyB cyI cyJ cyZ au au_ticks au_tip au_row au_freeAt au_waits au_greatest au_tips au_best _ u_size u_loss z9 z10 f23 _) (cwV 0 hts gX9_findBest_X9_sumOfTips rfl rfl rfl cd_X9_sumOfTips ⟨Nat.le_of_ble_eq_true rfl, Nat.le_of_ble_eq_true rfl⟩) (gx_preV hK hP hD hNw [0, 7] rfl (by decide +kernel) hw 0 (ci := 9) rfl rfl rfl) rfl rfl hl.1 rfl (lv_room (Nat.le_of_ble_eq_true rfl)) (nq_d dX9_findBest_0_g (n := 32) rfl) ⟨Nat.zero_le _, Nat.zero_le _⟩) hP hD hS hA [0, 7] [1, 2, 3, 4, 5, 6, 8] [7, 0, 1, 2, 3, 4, 5, 8, 6] rfl rfl (by decide) (by decide) (by decide) (fun _ => [(au, .inr (9, [.ref au_ticks, .ref au_tip, .ref au_row, .ref au_freeAt, .ref au_waits, .ref au_greatest, .ref au_tips, .ref au_best, .int u_size, .int u_loss, .int z9, .int z10])), (au_ticks, .inl (cyI, 16, .inl u_ticks)), (au_tip, .inl (cyI, 16, .inl u_tip)), (au_row, .inl (cyI, 16, .inl f18)), (au_freeAt, .inl (cyI, 68, .inl f20)), (au_waits, .inl (cyI, 17, .inl f21)), (au_greatest, .inl (cyI, 17, .inl f22)), (au_tips, .inl (cyI, 17, .inl f23)), (au_best, .inl (cyI, 7, .inl z16))]) (fun _ => rfl) (fun r27 u H locs hw hP hD hS => ?_)
        try dsimp only at hw hP hD
        refine lv_aload_n hx hb (nq_d dX9_findBest_0_g (n := 33) rfl) rfl (lv_at hl 1 rfl) ?_
        refine va_get (D := (dC, dI)) (ci := 9) (v := .int z9) (C := RX9) (T := TX9) (N := 12) hx hb hts hi_X9 hown hK hP 0 rfl rfl 10 (by decide) hf43 (fun _ h9 => h9) rfl (nq_d dX9_findBest_0_g (n := 34) rfl) ?_
        refine jn3_el hw (fun j31 hj31 hw => ?_)
        have Jj31 : ∀ (z28 : Int32) (z29 : Int32) (z30 : (Nat → Int32)) (H : Heap) (locs : List Loc) (ls : Array Slot), va_P (dC, dI) vwCl [(au, .inr (9, [.ref au_ticks, .ref au_tip, .ref au_row, .ref au_freeAt, .ref au_waits, .ref au_greatest, .ref au_tips, .ref au_best, .int u_size, .int u_loss, .int z28, .int z29])), (au_ticks, .inl (cyI, 16, .inl u_ticks)), (au_tip, .inl (cyI, 16, .inl u_tip)), (au_row, .inl (cyI, 16, .inl f18)), (au_freeAt, .inl (cyI, 68, .inl f20)), (au_waits, .inl (cyI, 17, .inl f21)), (au_greatest, .inl (cyI, 17, .inl f22)), (au_tips, .inl (cyI, 17, .inl f23)), (au_best, .inl (cyI, 7, .inl z30))] H → va_D A [(au, .inr (9, [.ref au_ticks, .ref au_tip, .ref au_row, .ref au_freeAt, .ref au_waits, .ref au_greatest, .ref au_tips, .ref au_best, .int u_size, .int u_loss, .int z28, .int z29])), (au_ticks, .inl (cyI, 16, .inl u_ticks)), (au_tip, .inl (cyI, 16, .inl u_tip)), (au_row, .inl (cyI, 16, .inl f18)), (au_freeAt, .inl (cyI, 68, .inl f20)), (au_waits, .inl (cyI, 17, .inl f21)), (au_greatest, .inl (cyI, 17, .inl f22)), (au_tips, .inl (cyI, 17, .inl f23)), (au_best, .inl (cyI, 7, .inl z30))] → va_S A s.heap H locs → lv_has ls 5 [(0, .ref au), (1, .int x1), (2, .int l2_8)] → j31 z28.toInt z29.toInt (aI 7 z30) → W p l e (headSpec wsX9_findBest rmX9_findBest).room s m ([.ref au, .int x1] : List Value).toArray below meth c H locs 0 0 Q9 (F0 m 85 ls []) := by
          intro z28 z29 z30 H locs ls hP hD hS hl hw
          have hw := hj31 _ _ _ hw
          refine gx_iinc (k := 2) (z := (1 : Int32)) (lv' := fun v32 => [(2, .int v32), (0, .ref au), (1, .int x1)]) hx hb (nq_d dX9_findBest_74_g (n := 5) rfl) hl rfl (by decide) (by decide) (fun _ => rfl) hw (fun v32 ls hw hl => ?_)
          refine lv_goto (tgt := 12) hx hb (nq_d dX9_findBest_74_g (n := 6) rfl) (by decide) ?_
          exact hPself17 _ _ _ _ _ _ _ _ _ hw v32 z28 z29 f18 f20 f21 f22 f23 z30 rfl rfl rfl rfl rfl rfl rfl rfl rfl _ _ _ hP hD hS (lv_sub hl [1, 2, 0] rfl)
        refine jn0_el hw (fun j33 hj33 hw => ?_)
        have Jj33 : ∀  (H : Heap) (locs : List Loc) (ls : Array Slot), va_P (dC, dI) vwCl [(au, .inr (9, [.ref au_ticks, .ref au_tip, .ref au_row, .ref au_freeAt, .ref au_waits, .ref au_greatest, .ref au_tips, .ref au_best, .int u_size, .int u_loss, .int z9, .int z10])), (au_ticks, .inl (cyI, 16, .inl u_ticks)), (au_tip, .inl (cyI, 16, .inl u_tip)), (au_row, .inl (cyI, 16, .inl f18)), (au_freeAt, .inl (cyI, 68, .inl f20)), (au_waits, .inl (cyI, 17, .inl f21)), (au_greatest, .inl (cyI, 17, .inl f22)), (au_tips, .inl (cyI, 17, .inl f23)), (au_best, .inl (cyI, 7, .inl z16))] H → va_D A [(au, .inr (9, [.ref au_ticks, .ref au_tip, .ref au_row, .ref au_freeAt, .ref au_waits, .ref au_greatest, .ref au_tips, .ref au_best, .int u_size, .int u_loss, .int z9, .int z10])), (au_ticks, .inl (cyI, 16, .inl u_ticks)), (au_tip, .inl (cyI, 16, .inl u_tip)), (au_row, .inl (cyI, 16, .inl f18)), (au_freeAt, .inl (cyI, 68, .inl f20)), (au_waits, .inl (cyI, 17, .inl f21)), (au_greatest, .inl (cyI, 17, .inl f22)), (au_tips, .inl (cyI, 17, .inl f23)), (au_best, .inl (cyI, 7, .inl z16))] → va_S A s.heap H locs → lv_has ls 5 [(0, .ref au), (1, .int x1), (2, .int l2_8)] → j33  → W p l e (headSpec wsX9_findBest rmX9_findBest).room s m ([.ref au, .int x1] : List Value).toArray below meth c H locs 0 0 Q9 (F0 m 81 ls []) := by
          intro  H locs ls hP hD hS hl hw
          have hw := hj33  hw
          refine lv_aload_n hx hb (nq_d dX9_findBest_74_g (n := 3) rfl) rfl (lv_at hl 0 rfl) ?_
          refine gx_rv (wr := [(au_ticks, .inl (cyI, 16, .inl u_ticks)), (au_tip, .inl (cyI, 16, .inl u_tip)), (au_freeAt, .inl (cyI, 68, .inl f20)), (au_greatest, .inl (cyI, 17, .inl f22))]) (va_runV (As := []) (rest := []) ⟨hx, hb, hml, hown, hts⟩ (ct_Rush_keepAsBest l dC dI cyB cyI cyJ cyZ au au_ticks au_tip au_row au_freeAt au_waits au_greatest au_tips au_best _ u_size u_loss z9 z10 f18 f21 f23 z16 _) (cwV 0 hts gX9_findBest_X9_keepAsBest rfl rfl rfl cd_X9_keepAsBest ⟨Nat.le_of_ble_eq_true rfl, Nat.le_of_ble_eq_true rfl⟩) (gx_preV hK hP hD hNw [0, 3, 5, 7, 8] rfl (by decide +kernel) hw 0 (ci := 9) rfl rfl rfl) rfl rfl hl.1 rfl (lv_room (Nat.le_of_ble_eq_true rfl)) (nq_d dX9_findBest_74_g (n := 4) rfl) ⟨Nat.zero_le _, Nat.zero_le _⟩) hP hD hS hA [0, 3, 5, 7, 8] [1, 2, 4, 6] [4, 0, 1, 5, 2, 6, 3, 7, 8] rfl rfl (by decide) (by decide) (by decide) (fun u => [(au, .inr (9, [.ref au_ticks, .ref au_tip, .ref au_row, .ref au_freeAt, .ref au_waits, .ref au_greatest, .ref au_tips, .ref au_best, .int u_size, .int u_loss, .int (u.1), .int (u.2.1)])), (au_ticks, .inl (cyI, 16, .inl u_ticks)), (au_tip, .inl (cyI, 16, .inl u_tip)), (au_row, .inl (cyI, 16, .inl f18)), (au_freeAt, .inl (cyI, 68, .inl f20)), (au_waits, .inl (cyI, 17, .inl f21)), (au_greatest, .inl (cyI, 17, .inl f22)), (au_tips, .inl (cyI, 17, .inl f23)), (au_best, .inl (cyI, 7, .inl (u.2.2)))]) (fun _ => rfl) (fun u H locs hw hP hD hS => ?_)
          obtain ⟨z34, z35, f36⟩ := u
          try dsimp only at hw hP hD
          exact Jj31 z34 z35 f36 _ _ _ hP hD hS (lv_sub hl [0, 1, 2] rfl) hw
        refine gx_icmp_gt (tgt := 81) hx hb (nq_d dX9_findBest_0_g (n := 35) rfl) (by decide) hw (fun hw => ?_) (fun hw => ?_)
        · exact Jj33  _ _ _ hP hD hS (lv_sub hl [1, 2, 3] rfl) hw
        · refine lv_iload hx hb (nq_d dX9_findBest_0_g (n := 36) rfl) (lv_at hl 0 rfl) ?_
          refine gx_if_eq (tgt := 85) hx hb (nq_d dX9_findBest_0_g (n := 37) rfl) (by decide) hw (fun hw => ?_) (fun hw => ?_)
          · exact Jj31 z9 z10 z16 _ _ _ hP hD hS (lv_sub hl [1, 2, 3] rfl) hw
          · refine lv_aload_n hx hb (nq_d dX9_findBest_0_g (n := 38) rfl) rfl (lv_at hl 1 rfl) ?_
            refine gx_ri (wr := [(au_ticks, .inl (cyI, 16, .inl u_ticks)), (au_tip, .inl (cyI, 16, .inl u_tip)), (au_row, .inl (cyI, 16, .inl f18)), (au_freeAt, .inl (cyI, 68, .inl f20)), (au_greatest, .inl (cyI, 17, .inl f22)), (au_tips, .inl (cyI, 17, .inl f23)), (au_best, .inl (cyI, 7, .inl z16))]) (va_runV (As := []) (rest := []) ⟨hx, hb, hml, hown, hts⟩ (ct_Rush_sumOfWaits l dC dI cyB cyI cyJ cyZ au au_ticks au_tip au_row au_freeAt au_waits au_greatest au_tips au_best _ u_size u_loss z9 z10 f21 _) (cwV 0 hts gX9_findBest_X9_sumOfWaits rfl rfl rfl cd_X9_sumOfWaits ⟨Nat.le_of_ble_eq_true rfl, Nat.le_of_ble_eq_true rfl⟩) (gx_preV hK hP hD hNw [0, 5] rfl (by decide +kernel) hw 0 (ci := 9) rfl rfl rfl) rfl rfl hl.1 rfl (lv_room (Nat.le_of_ble_eq_true rfl)) (nq_d dX9_findBest_0_g (n := 39) rfl) ⟨Nat.zero_le _, Nat.zero_le _⟩) hP hD hS hA [0, 5] [1, 2, 3, 4, 6, 7, 8] [7, 0, 1, 2, 3, 8, 4, 5, 6] rfl rfl (by decide) (by decide) (by decide) (fun _ => [(au, .inr (9, [.ref au_ticks, .ref au_tip, .ref au_row, .ref au_freeAt, .ref au_waits, .ref au_greatest, .ref au_tips, .ref au_best, .int u_size, .int u_loss, .int z9, .int z10])), (au_ticks, .inl (cyI, 16, .inl u_ticks)), (au_tip, .inl (cyI, 16, .inl u_tip)), (au_row, .inl (cyI, 16, .inl f18)), (au_freeAt, .inl (cyI, 68, .inl f20)), (au_waits, .inl (cyI, 17, .inl f21)), (au_greatest, .inl (cyI, 17, .inl f22)), (au_tips, .inl (cyI, 17, .inl f23)), (au_best, .inl (cyI, 7, .inl z16))]) (fun _ => rfl) (fun r37 u H locs hw hP hD hS => ?_)
            try dsimp only at hw hP hD
            refine lv_aload_n hx hb (nq_d dX9_findBest_74_g (n := 0) rfl) rfl (lv_at hl 1 rfl) ?_
            refine va_get (D := (dC, dI)) (ci := 9) (v := .int z10) (C := RX9) (T := TX9) (N := 12) hx hb hts hi_X9 hown hK hP 0 rfl rfl 11 (by decide) hf46 (fun _ h9 => h9) rfl (nq_d dX9_findBest_74_g (n := 1) rfl) ?_
            refine gx_icmp_ge (tgt := 85) hx hb (nq_d dX9_findBest_74_g (n := 2) rfl) (by decide) hw (fun hw => ?_) (fun hw => ?_)
            · exact Jj31 z9 z10 z16 _ _ _ hP hD hS (lv_sub hl [1, 2, 3] rfl) hw
            · exact Jj33  _ _ _ hP hD hS (lv_sub hl [1, 2, 3] rfl) hw
      refine gx_icmp_ne (tgt := 51) hx hb (nq_d dX9_findBest_0_g (n := 26) rfl) (by decide) hw (fun hw => ?_) (fun hw => ?_)
      · refine lv_iconst (v := (0 : Int32)) hx hb (nq_d dX9_findBest_0_g (n := 29) rfl) (by decide) ?_
        exact Jj26 (0 : Int32) _ _ _ hP hD hS (lv_sub hl [1, 2, 3] rfl) hw
      · refine lv_iconst (v := (1 : Int32)) hx hb (nq_d dX9_findBest_0_g (n := 27) rfl) (by decide) ?_
        refine lv_goto (tgt := 52) hx hb (nq_d dX9_findBest_0_g (n := 28) rfl) (by decide) ?_
        exact Jj26 (1 : Int32) _ _ _ hP hD hS (lv_sub hl [1, 2, 3] rfl) hw
    · exact rt_v (A1 := A) hQ hx hb hr hlocks hP hD hS (z9, z10, f18, z12, z13, z14, z15, z16) [0, 1, 2, 3, 4, 5, 6, 7, 8] rfl (by decide +kernel) hw (nq_d dX9_findBest_0_g (n := 17) rfl)
abbrev rmX10_feed : Room := { frames := 1, cells := 0, slots := 0, locals := 24 }
theorem cd_X10_feed : yX10_feed.cls = RX10 ∧ yX10_feed.cls ≠ "java/lang/invoke/MethodHandle" ∧ yX10_feed.cls ≠ "java/lang/invoke/VarHandle" ∧ (parseMethodDescriptor yX10_feed.desc).map (fun d => d.parameters.length) = some 2 := by decide +kernel
set_option maxHeartbeats 4000000 in
set_option maxRecDepth 100000 in
theorem ct_H_feed (l : Launch) (dC : Nat → ClassId) (dI : Nat → Nat → Nat) (cyB cyI cyJ cyZ : ClassId) (ak ak_theHall ak_now ak_imageZero ak_imageOne ak_places ak_service ak_matching ar ar_text ar_draft : Nat) (sz : Nat) (k_nightPlay : Int32) (k_nightWeather : Int32) (r_length : Int32) (r_place : Int32) (r_failure : Int32) (r_at : Int32) (r_firstFigure : Int32) (r_toldBefore : Int32) (r_text : Nat → Int32) (x1 : Int32) (x2 : Int64) (Q : Int → Int → (Int → Int) → Prop) : Met l yX10_feed wsX10_feed rmX10_feed (va_Pc [.ref ak, .int x1, .long x2] (cPre (dC, dI) vwCl (tyS cyB cyI cyJ cyZ) [(ak, .inr (10, [.ref ak_theHall, .ref ar, .ref ak_now, .ref ak_imageZero, .ref ak_imageOne, .ref ak_places, .ref ak_service, .ref ak_matching, .int k_nightPlay, .int k_nightWeather])), (ar, .inr (8, [.ref ar_text, .int r_length, .int r_place, .int r_failure, .int r_at, .int r_firstFigure, .int r_toldBefore, .ref ar_draft])), (ar_text, .inl (cyB, 240, .inl r_text))] sz (nf_H_feed r_length.toInt (aI 240 r_text) x1.toInt x2.toInt Q))) (va_Qi (fun (r : Int32) (u : Int32 × (Nat → Int32)) => Q r.toInt (u.1).toInt (aI 240 (u.2))) (cPost (dC, dI) vwCl (fun u : Int32 × (Nat → Int32) => [(ak, .inr (10, [.ref ak_theHall, .ref ar, .ref ak_now, .ref ak_imageZero, .ref ak_imageOne, .ref ak_places, .ref ak_service, .ref ak_matching, .int k_nightPlay, .int k_nightWeather])), (ar, .inr (8, [.ref ar_text, .int u.1, .int r_place, .int r_failure, .int r_at, .int r_firstFigure, .int r_toldBefore, .ref ar_draft])), (ar_text, .inl (cyB, 240, .inl (u.2)))]) (va_A [(ak, .inr (10, [.ref ak_theHall, .ref ar, .ref ak_now, .ref ak_imageZero, .ref ak_imageOne, .ref ak_places, .ref ak_service, .ref ak_matching, .int k_nightPlay, .int k_nightWeather])), (ar, .inr (8, [.ref ar_text, .int r_length, .int r_place, .int r_failure, .int r_at, .int r_firstFigure, .int r_toldBefore, .ref ar_draft])), (ar_text, .inl (cyB, 240, .inl r_text))] sz)) (va_A [(ak, .inr (10, [.ref ak_theHall, .ref ar, .ref ak_now, .ref ak_imageZero, .ref ak_imageOne, .ref ak_places, .ref ak_service, .ref ak_matching, .int k_nightPlay, .int k_nightWeather])), (ar, .inr (8, [.ref ar_text, .int r_length, .int r_place, .int r_failure, .int r_at, .int r_firstFigure, .int r_toldBefore, .ref ar_draft])), (ar_text, .inl (cyB, 240, .inl r_text))] sz)) 0 0 (va_A [(ak, .inr (10, [.ref ak_theHall, .ref ar, .ref ak_now, .ref ak_imageZero, .ref ak_imageOne, .ref ak_places, .ref ak_service, .ref ak_matching, .int k_nightPlay, .int k_nightWeather])), (ar, .inr (8, [.ref ar_text, .int r_length, .int r_place, .int r_failure, .int r_at, .int r_firstFigure, .int r_toldBefore, .ref ar_draft])), (ar_text, .inl (cyB, 240, .inl r_text))] sz) := by
  refine Met.ofW (cc := cX10_feed) (maxL := 4) (ret := (some .int)) (by decide) rfl ?_
  intro p e s m args below meth c s₁ B hml hv
  obtain ⟨rfl, hsz, hP, hK, hD0, hNw, hw⟩ := hv
  have hx := B.exec
  have hb := B.bytes
  have hr := B.returns
  have hts := atoms_spec (ws := wsX10_feed) B.pre
  have hown : s.vm.findClass RX10 = some m.cls := findClass_of_methodNamed B.named
  have hlocks := B.notSynchronized
  subst hsz
  have hD := hD0.self (sz := s.heap.size)
  generalize hAe : va_A [(ak, .inr (10, [.ref ak_theHall, .ref ar, .ref ak_now, .ref ak_imageZero, .ref ak_imageOne, .ref ak_places, .ref ak_service, .ref ak_matching, .int k_nightPlay, .int k_nightWeather])), (ar, .inr (8, [.ref ar_text, .int r_length, .int r_place, .int r_failure, .int r_at, .int r_firstFigure, .int r_toldBefore, .ref ar_draft])), (ar_text, .inl (cyB, 240, .inl r_text))] s.heap.size = A at hD ⊢
  have hA : ∀ q : Nat, s.heap.size ≤ q → A q := fun q h => by rw [← hAe]; exact Or.inr h
  have hS : va_S A s.heap s.heap [] := va_S.rf
  have hl := lv_entry ([.ref ak, .int x1, .long x2]) (n := 4) (Nat.le_of_ble_eq_true rfl)
  rw [lg_entry_eq]
  generalize (lg_sl ([.ref ak, .int x1, .long x2]) ++ List.replicate (4 - (lg_sl ([.ref ak, .int x1, .long x2])).length) Slot.unset).toArray = ls at hl ⊢
  have hl : lv_has ls 4 [(0, .ref ak), (1, .int x1), (2, .long x2)] := hl
  refine gx_q (fun Q9 hQ => ?_)
  unfold nf_H_feed at hw
  have hi_X10 : ∀ w ∈ wsX100, w ∈ wsX10_feed := (sub_c (nq_m (n := 14) rfl) (sub_c (nq_m (n := 15) rfl) (sub_c (nq_m (n := 16) rfl) (sub_c (nq_m (n := 17) rfl) (sub_c (nq_m (n := 18) rfl) (sub_c (nq_m (n := 19) rfl) (sub_c (nq_m (n := 20) rfl) (sub_c (nq_m (n := 21) rfl) (sub_c (nq_m (n := 22) rfl) (sub_c (nq_m (n := 23) rfl) sub_n))))))))))
  have hf19 : (Cond.fieldLink RX10 19 "CoatsHall" (TX10 1).2.1 (TX10 1).2.2.1).before ([.ref ak, .int x1, .long x2] : List Value).toArray s = true := hts (.fieldLink RX10 19 "CoatsHall" "reader" "LCoatsHall$Reader;") (nq_m (n := 1) rfl)
  have hi_X8 : ∀ w ∈ wsX80, w ∈ wsX10_feed := (sub_c (nq_m (n := 24) rfl) (sub_c (nq_m (n := 25) rfl) (sub_c (nq_m (n := 26) rfl) (sub_c (nq_m (n := 27) rfl) (sub_c (nq_m (n := 28) rfl) (sub_c (nq_m (n := 29) rfl) (sub_c (nq_m (n := 30) rfl) (sub_c (nq_m (n := 31) rfl) sub_n))))))))
  have hf71 : (Cond.fieldLink RX10 71 "CoatsHall$Reader" (TX8 1).2.1 (TX8 1).2.2.1).before ([.ref ak, .int x1, .long x2] : List Value).toArray s = true := hts (.fieldLink RX10 71 "CoatsHall$Reader" "length" "I") (nq_m (n := 2) rfl)
  refine lv_iload_n hx hb (nq_d dX10_feed_0_g (n := 0) rfl) rfl (lv_at hl 1 rfl) ?_
  refine lv_iconst (v := (1 : Int32)) hx hb (nq_d dX10_feed_0_g (n := 1) rfl) (by decide) ?_
  refine lv_bipush (v := (8 : Int32)) hx hb (nq_d dX10_feed_0_g (n := 2) rfl) (by decide) ?_
  refine gx_ri (wr := [(ak, .inr (10, [.ref ak_theHall, .ref ar, .ref ak_now, .ref ak_imageZero, .ref ak_imageOne, .ref ak_places, .ref ak_service, .ref ak_matching, .int k_nightPlay, .int k_nightWeather])), (ar, .inr (8, [.ref ar_text, .int r_length, .int r_place, .int r_failure, .int r_at, .int r_firstFigure, .int r_toldBefore, .ref ar_draft])), (ar_text, .inl (cyB, 240, .inl r_text))]) (va_runS (As := [.int x1, .int (1 : Int32), .int (8 : Int32)]) (rest := []) ⟨hx, hb, hml, hown, hts⟩ (ct_H_within l dC dI cyB cyI cyJ cyZ  _ x1 (1 : Int32) (8 : Int32) _) (va_cwS 3 hts gX10_feed_X10_within rfl rfl rfl cd_X10_within.2 ⟨Nat.le_of_ble_eq_true rfl, Nat.le_of_ble_eq_true rfl⟩) (gx_preS hK hP hD hNw [] rfl (by decide) hw) rfl rfl hl.1 rfl (lv_room (Nat.le_of_ble_eq_true rfl)) (nq_d dX10_feed_0_g (n := 3) rfl) ⟨Nat.zero_le _, Nat.zero_le _⟩) hP hD hS hA [] [0, 1, 2] [0, 1, 2] rfl rfl (by decide) (by decide) (by decide) (fun _ => [(ak, .inr (10, [.ref ak_theHall, .ref ar, .ref ak_now, .ref ak_imageZero, .ref ak_imageOne, .ref ak_places, .ref ak_service, .ref ak_matching, .int k_nightPlay, .int k_nightWeather])), (ar, .inr (8, [.ref ar_text, .int r_length, .int r_place, .int r_failure, .int r_at, .int r_firstFigure, .int r_toldBefore, .ref ar_draft])), (ar_text, .inl (cyB, 240, .inl r_text))]) (fun _ => rfl) (fun r1 u H locs hw hP hD hS => ?_)
  try dsimp only at hw hP hD
  refine gx_if_ne (tgt := 14) hx hb (nq_d dX10_feed_0_g (n := 4) rfl) (by decide) hw (fun hw => ?_) (fun hw => ?_)
  · refine lv_aload_n hx hb (nq_d dX10_feed_0_g (n := 7) rfl) rfl (lv_at hl 0 rfl) ?_
    refine va_get (D := (dC, dI)) (ci := 10) (v := .ref ar) (C := RX10) (T := TX10) (N := 10) hx hb hts hi_X10 hown hK hP 0 rfl rfl 1 (by decide) hf19 (fun _ h9 => h9) rfl (nq_d dX10_feed_0_g (n := 8) rfl) ?_
    refine va_get (D := (dC, dI)) (ci := 8) (v := .int r_length) (C := RX8) (T := TX8) (N := 8) hx hb hts hi_X8 hown hK hP 1 rfl rfl 1 (by decide) hf71 (fun _ h9 => h9) rfl (nq_d dX10_feed_0_g (n := 9) rfl) ?_
    refine lv_iload_n hx hb (nq_d dX10_feed_0_g (n := 10) rfl) rfl (lv_at hl 1 rfl) ?_
    refine gx_iadd hx hb (nq_d dX10_feed_0_g (n := 11) rfl) hw (fun v2 hw => ?_)
    refine lv_sipush (v := (240 : Int32)) hx hb (nq_d dX10_feed_0_g (n := 12) rfl) (by decide) ?_
    refine gx_icmp_le (tgt := 33) hx hb (nq_d dX10_feed_0_g (n := 13) rfl) (by decide) hw (fun hw => ?_) (fun hw => ?_)
    · refine lv_aload_n hx hb (nq_d dX10_feed_0_g (n := 16) rfl) rfl (lv_at hl 0 rfl) ?_
      refine va_get (D := (dC, dI)) (ci := 10) (v := .ref ar) (C := RX10) (T := TX10) (N := 10) hx hb hts hi_X10 hown hK hP 0 rfl rfl 1 (by decide) hf19 (fun _ h9 => h9) rfl (nq_d dX10_feed_0_g (n := 17) rfl) ?_
      refine lv_iload_n hx hb (nq_d dX10_feed_0_g (n := 18) rfl) rfl (lv_at hl 1 rfl) ?_
      refine lv_lload_n hx hb (nq_d dX10_feed_0_g (n := 19) rfl) rfl (lv_at hl 2 rfl) ?_
      refine gx_ri (wr := [(ak, .inr (10, [.ref ak_theHall, .ref ar, .ref ak_now, .ref ak_imageZero, .ref ak_imageOne, .ref ak_places, .ref ak_service, .ref ak_matching, .int k_nightPlay, .int k_nightWeather]))]) (va_runV (As := [.int x1, .long x2]) (rest := []) ⟨hx, hb, hml, hown, hts⟩ (ct_Reader_append l dC dI cyB cyI cyJ cyZ ar ar_text ar_draft _ r_length r_place r_failure r_at r_firstFigure r_toldBefore r_text x1 x2 _) (cwV 2 hts gX10_feed_X8_append rfl rfl rfl cd_X8_append ⟨Nat.le_of_ble_eq_true rfl, Nat.le_of_ble_eq_true rfl⟩) (gx_preV hK hP hD hNw [1, 2] rfl (by decide +kernel) hw 1 (ci := 8) rfl rfl rfl) rfl rfl hl.1 rfl (lv_room (Nat.le_of_ble_eq_true rfl)) (nq_d dX10_feed_0_g (n := 20) rfl) ⟨Nat.zero_le _, Nat.zero_le _⟩) hP hD hS hA [1, 2] [0] [0, 1, 2] rfl rfl (by decide) (by decide) (by decide) (fun u => [(ak, .inr (10, [.ref ak_theHall, .ref ar, .ref ak_now, .ref ak_imageZero, .ref ak_imageOne, .ref ak_places, .ref ak_service, .ref ak_matching, .int k_nightPlay, .int k_nightWeather])), (ar, .inr (8, [.ref ar_text, .int (u.1), .int r_place, .int r_failure, .int r_at, .int r_firstFigure, .int r_toldBefore, .ref ar_draft])), (ar_text, .inl (cyB, 240, .inl (u.2)))]) (fun _ => rfl) (fun r5 u H locs hw hP hD hS => ?_)
      obtain ⟨z3, f4⟩ := u
      try dsimp only at hw hP hD
      exact rt_i (A1 := A) hQ hx hb hr hlocks hP hD hS (z3, f4) [0, 1, 2] rfl (by decide +kernel) hw (nq_d dX10_feed_0_g (n := 21) rfl)
    · refine lv_sipush (v := ((-1004) : Int32)) hx hb (nq_d dX10_feed_0_g (n := 14) rfl) (by decide) ?_
      exact rt_i (A1 := A) hQ hx hb hr hlocks hP hD hS (r_length, r_text) [0, 1, 2] rfl (by decide +kernel) hw (nq_d dX10_feed_0_g (n := 15) rfl)
  · refine lv_sipush (v := ((-1002) : Int32)) hx hb (nq_d dX10_feed_0_g (n := 5) rfl) (by decide) ?_
    exact rt_i (A1 := A) hQ hx hb hr hlocks hP hD hS (r_length, r_text) [0, 1, 2] rfl (by decide +kernel) hw (nq_d dX10_feed_0_g (n := 6) rfl)
abbrev rmX10_fault : Room := { frames := 0, cells := 0, slots := 0, locals := 0 }
theorem cd_X10_fault : yX10_fault.cls = RX10 ∧ yX10_fault.cls ≠ "java/lang/invoke/MethodHandle" ∧ yX10_fault.cls ≠ "java/lang/invoke/VarHandle" ∧ (parseMethodDescriptor yX10_fault.desc).map (fun d => d.parameters.length) = some 0 := by decide +kernel
set_option maxHeartbeats 4000000 in
set_option maxRecDepth 100000 in
theorem ct_H_fault (l : Launch) (dC : Nat → ClassId) (dI : Nat → Nat → Nat) (cyB cyI cyJ cyZ : ClassId) (ak ak_theHall ak_now ak_imageZero ak_imageOne ak_places ak_service ak_matching ar ar_text ar_draft : Nat) (sz : Nat) (k_nightPlay : Int32) (k_nightWeather : Int32) (r_length : Int32) (r_place : Int32) (r_failure : Int32) (r_at : Int32) (r_firstFigure : Int32) (r_toldBefore : Int32) (Q : Int → Prop) : Met l yX10_fault wsX10_fault rmX10_fault (va_Pc [.ref ak] (cPre (dC, dI) vwCl (tyS cyB cyI cyJ cyZ) [(ak, .inr (10, [.ref ak_theHall, .ref ar, .ref ak_now, .ref ak_imageZero, .ref ak_imageOne, .ref ak_places, .ref ak_service, .ref ak_matching, .int k_nightPlay, .int k_nightWeather])), (ar, .inr (8, [.ref ar_text, .int r_length, .int r_place, .int r_failure, .int r_at, .int r_firstFigure, .int r_toldBefore, .ref ar_draft]))] sz (nf_H_fault r_place.toInt  Q))) (va_Qi (fun (r : Int32) (_ : Unit) => Q r.toInt ) (cPost (dC, dI) vwCl (fun _ : Unit => [(ak, .inr (10, [.ref ak_theHall, .ref ar, .ref ak_now, .ref ak_imageZero, .ref ak_imageOne, .ref ak_places, .ref ak_service, .ref ak_matching, .int k_nightPlay, .int k_nightWeather])), (ar, .inr (8, [.ref ar_text, .int r_length, .int r_place, .int r_failure, .int r_at, .int r_firstFigure, .int r_toldBefore, .ref ar_draft]))]) (va_A [(ak, .inr (10, [.ref ak_theHall, .ref ar, .ref ak_now, .ref ak_imageZero, .ref ak_imageOne, .ref ak_places, .ref ak_service, .ref ak_matching, .int k_nightPlay, .int k_nightWeather])), (ar, .inr (8, [.ref ar_text, .int r_length, .int r_place, .int r_failure, .int r_at, .int r_firstFigure, .int r_toldBefore, .ref ar_draft]))] sz)) (va_A [(ak, .inr (10, [.ref ak_theHall, .ref ar, .ref ak_now, .ref ak_imageZero, .ref ak_imageOne, .ref ak_places, .ref ak_service, .ref ak_matching, .int k_nightPlay, .int k_nightWeather])), (ar, .inr (8, [.ref ar_text, .int r_length, .int r_place, .int r_failure, .int r_at, .int r_firstFigure, .int r_toldBefore, .ref ar_draft]))] sz)) 0 0 (va_A [(ak, .inr (10, [.ref ak_theHall, .ref ar, .ref ak_now, .ref ak_imageZero, .ref ak_imageOne, .ref ak_places, .ref ak_service, .ref ak_matching, .int k_nightPlay, .int k_nightWeather])), (ar, .inr (8, [.ref ar_text, .int r_length, .int r_place, .int r_failure, .int r_at, .int r_firstFigure, .int r_toldBefore, .ref ar_draft]))] sz) := by
  refine Met.ofW (cc := cX10_fault) (maxL := 1) (ret := (some .int)) (by decide) rfl ?_
  intro p e s m args below meth c s₁ B hml hv
  obtain ⟨rfl, hsz, hP, hK, hD0, hNw, hw⟩ := hv
  have hx := B.exec
  have hb := B.bytes
  have hr := B.returns
  have hts := atoms_spec (ws := wsX10_fault) B.pre
  have hown : s.vm.findClass RX10 = some m.cls := findClass_of_methodNamed B.named
  have hlocks := B.notSynchronized
  subst hsz
  have hD := hD0.self (sz := s.heap.size)
  generalize hAe : va_A [(ak, .inr (10, [.ref ak_theHall, .ref ar, .ref ak_now, .ref ak_imageZero, .ref ak_imageOne, .ref ak_places, .ref ak_service, .ref ak_matching, .int k_nightPlay, .int k_nightWeather])), (ar, .inr (8, [.ref ar_text, .int r_length, .int r_place, .int r_failure, .int r_at, .int r_firstFigure, .int r_toldBefore, .ref ar_draft]))] s.heap.size = A at hD ⊢
  have hA : ∀ q : Nat, s.heap.size ≤ q → A q := fun q h => by rw [← hAe]; exact Or.inr h
  have hS : va_S A s.heap s.heap [] := va_S.rf
  have hl := lv_entry ([.ref ak]) (n := 1) (Nat.le_of_ble_eq_true rfl)
  rw [lg_entry_eq]
  generalize (lg_sl ([.ref ak]) ++ List.replicate (1 - (lg_sl ([.ref ak])).length) Slot.unset).toArray = ls at hl ⊢
  have hl : lv_has ls 1 [(0, .ref ak)] := hl
  refine gx_q (fun Q9 hQ => ?_)
  unfold nf_H_fault at hw
  have hi_X10 : ∀ w ∈ wsX100, w ∈ wsX10_fault := (sub_c (nq_m (n := 3) rfl) (sub_c (nq_m (n := 4) rfl) (sub_c (nq_m (n := 5) rfl) (sub_c (nq_m (n := 6) rfl) (sub_c (nq_m (n := 7) rfl) (sub_c (nq_m (n := 8) rfl) (sub_c (nq_m (n := 9) rfl) (sub_c (nq_m (n := 10) rfl) (sub_c (nq_m (n := 11) rfl) (sub_c (nq_m (n := 12) rfl) sub_n))))))))))
  have hf19 : (Cond.fieldLink RX10 19 "CoatsHall" (TX10 1).2.1 (TX10 1).2.2.1).before ([.ref ak] : List Value).toArray s = true := hts (.fieldLink RX10 19 "CoatsHall" "reader" "LCoatsHall$Reader;") (nq_m (n := 1) rfl)
  have hi_X8 : ∀ w ∈ wsX80, w ∈ wsX10_fault := (sub_c (nq_m (n := 13) rfl) (sub_c (nq_m (n := 14) rfl) (sub_c (nq_m (n := 15) rfl) (sub_c (nq_m (n := 16) rfl) (sub_c (nq_m (n := 17) rfl) (sub_c (nq_m (n := 18) rfl) (sub_c (nq_m (n := 19) rfl) (sub_c (nq_m (n := 20) rfl) sub_n))))))))
  have hf102 : (Cond.fieldLink RX10 102 "CoatsHall$Reader" (TX8 2).2.1 (TX8 2).2.2.1).before ([.ref ak] : List Value).toArray s = true := hts (.fieldLink RX10 102 "CoatsHall$Reader" "place" "I") (nq_m (n := 2) rfl)
  refine lv_aload_n hx hb (nq_d dX10_fault_0_g (n := 0) rfl) rfl (lv_at hl 0 rfl) ?_
  refine va_get (D := (dC, dI)) (ci := 10) (v := .ref ar) (C := RX10) (T := TX10) (N := 10) hx hb hts hi_X10 hown hK hP 0 rfl rfl 1 (by decide) hf19 (fun _ h9 => h9) rfl (nq_d dX10_fault_0_g (n := 1) rfl) ?_
  refine va_get (D := (dC, dI)) (ci := 8) (v := .int r_place) (C := RX8) (T := TX8) (N := 8) hx hb hts hi_X8 hown hK hP 1 rfl rfl 2 (by decide) hf102 (fun _ h9 => h9) rfl (nq_d dX10_fault_0_g (n := 2) rfl) ?_
  exact rt_i (A1 := A) hQ hx hb hr hlocks hP hD hS () [0, 1] rfl (by decide +kernel) hw (nq_d dX10_fault_0_g (n := 3) rfl)
abbrev rmX10_peg : Room := { frames := 1, cells := 0, slots := 0, locals := 22 }
theorem cd_X10_peg : yX10_peg.cls = RX10 ∧ yX10_peg.cls ≠ "java/lang/invoke/MethodHandle" ∧ yX10_peg.cls ≠ "java/lang/invoke/VarHandle" ∧ (parseMethodDescriptor yX10_peg.desc).map (fun d => d.parameters.length) = some 2 := by decide +kernel
set_option maxHeartbeats 4000000 in
set_option maxRecDepth 100000 in
theorem ct_H_peg (l : Launch) (dC : Nat → ClassId) (dI : Nat → Nat → Nat) (cyB cyI cyJ cyZ : ClassId) (ak ak_reader ak_imageZero ak_imageOne ak_places ak_service ak_matching aw aw_events aw_claims aw_nights ag ag_sort ag_kind ag_tip ag_marks ag_brass ag_peg ag_has ah ah_kind ah_walk ah_share ah_weight : Nat) (sz : Nat) (k_nightPlay : Int32) (k_nightWeather : Int32) (w_kept : Int32) (g_number : Int32) (h_pegs : Int32) (h_ticks : Int32) (h_loss : Int32) (g_peg : Nat → Int32) (h_kind : Nat → Int32) (h_walk : Nat → Int32) (x1 : Int32) (x2 : Int32) (Q : Int → Prop) : Met l yX10_peg wsX10_peg rmX10_peg (va_Pc [.ref ak, .int x1, .int x2] (cPre (dC, dI) vwCl (tyS cyB cyI cyJ cyZ) [(ak, .inr (10, [.ref ah, .ref ak_reader, .ref aw, .ref ak_imageZero, .ref ak_imageOne, .ref ak_places, .ref ak_service, .ref ak_matching, .int k_nightPlay, .int k_nightWeather])), (aw, .inr (4, [.ref ag, .ref aw_events, .ref aw_claims, .ref aw_nights, .int w_kept])), (ag, .inr (2, [.int g_number, .ref ag_sort, .ref ag_kind, .ref ag_tip, .ref ag_marks, .ref ag_brass, .ref ag_peg, .ref ag_has])), (ag_peg, .inl (cyI, 16, .inl g_peg)), (ah, .inr (3, [.ref ah_kind, .ref ah_walk, .ref ah_share, .ref ah_weight, .int h_pegs, .int h_ticks, .int h_loss])), (ah_kind, .inl (cyI, 24, .inl h_kind)), (ah_walk, .inl (cyI, 24, .inl h_walk))] sz (nf_H_peg g_number.toInt (aI 16 g_peg) h_pegs.toInt (aI 24 h_kind) (aI 24 h_walk) x1.toInt x2.toInt Q))) (va_Qi (fun (r : Int32) (_ : Unit) => Q r.toInt ) (cPost (dC, dI) vwCl (fun _ : Unit => [(ak, .inr (10, [.ref ah, .ref ak_reader, .ref aw, .ref ak_imageZero, .ref ak_imageOne, .ref ak_places, .ref ak_service, .ref ak_matching, .int k_nightPlay, .int k_nightWeather])), (aw, .inr (4, [.ref ag, .ref aw_events, .ref aw_claims, .ref aw_nights, .int w_kept])), (ag, .inr (2, [.int g_number, .ref ag_sort, .ref ag_kind, .ref ag_tip, .ref ag_marks, .ref ag_brass, .ref ag_peg, .ref ag_has])), (ag_peg, .inl (cyI, 16, .inl g_peg)), (ah, .inr (3, [.ref ah_kind, .ref ah_walk, .ref ah_share, .ref ah_weight, .int h_pegs, .int h_ticks, .int h_loss])), (ah_kind, .inl (cyI, 24, .inl h_kind)), (ah_walk, .inl (cyI, 24, .inl h_walk))]) (va_A [(ak, .inr (10, [.ref ah, .ref ak_reader, .ref aw, .ref ak_imageZero, .ref ak_imageOne, .ref ak_places, .ref ak_service, .ref ak_matching, .int k_nightPlay, .int k_nightWeather])), (aw, .inr (4, [.ref ag, .ref aw_events, .ref aw_claims, .ref aw_nights, .int w_kept])), (ag, .inr (2, [.int g_number, .ref ag_sort, .ref ag_kind, .ref ag_tip, .ref ag_marks, .ref ag_brass, .ref ag_peg, .ref ag_has])), (ag_peg, .inl (cyI, 16, .inl g_peg)), (ah, .inr (3, [.ref ah_kind, .ref ah_walk, .ref ah_share, .ref ah_weight, .int h_pegs, .int h_ticks, .int h_loss])), (ah_kind, .inl (cyI, 24, .inl h_kind)), (ah_walk, .inl (cyI, 24, .inl h_walk))] sz)) (va_A [(ak, .inr (10, [.ref ah, .ref ak_reader, .ref aw, .ref ak_imageZero, .ref ak_imageOne, .ref ak_places, .ref ak_service, .ref ak_matching, .int k_nightPlay, .int k_nightWeather])), (aw, .inr (4, [.ref ag, .ref aw_events, .ref aw_claims, .ref aw_nights, .int w_kept])), (ag, .inr (2, [.int g_number, .ref ag_sort, .ref ag_kind, .ref ag_tip, .ref ag_marks, .ref ag_brass, .ref ag_peg, .ref ag_has])), (ag_peg, .inl (cyI, 16, .inl g_peg)), (ah, .inr (3, [.ref ah_kind, .ref ah_walk, .ref ah_share, .ref ah_weight, .int h_pegs, .int h_ticks, .int h_loss])), (ah_kind, .inl (cyI, 24, .inl h_kind)), (ah_walk, .inl (cyI, 24, .inl h_walk))] sz)) 0 0 (va_A [(ak, .inr (10, [.ref ah, .ref ak_reader, .ref aw, .ref ak_imageZero, .ref ak_imageOne, .ref ak_places, .ref ak_service, .ref ak_matching, .int k_nightPlay, .int k_nightWeather])), (aw, .inr (4, [.ref ag, .ref aw_events, .ref aw_claims, .ref aw_nights, .int w_kept])), (ag, .inr (2, [.int g_number, .ref ag_sort, .ref ag_kind, .ref ag_tip, .ref ag_marks, .ref ag_brass, .ref ag_peg, .ref ag_has])), (ag_peg, .inl (cyI, 16, .inl g_peg)), (ah, .inr (3, [.ref ah_kind, .ref ah_walk, .ref ah_share, .ref ah_weight, .int h_pegs, .int h_ticks, .int h_loss])), (ah_kind, .inl (cyI, 24, .inl h_kind)), (ah_walk, .inl (cyI, 24, .inl h_walk))] sz) := by
  refine Met.ofW (cc := cX10_peg) (maxL := 3) (ret := (some .int)) (by decide) rfl ?_
  intro p e s m args below meth c s₁ B hml hv
  obtain ⟨rfl, hsz, hP, hK, hD0, hNw, hw⟩ := hv
  have hx := B.exec
  have hb := B.bytes
  have hr := B.returns
  have hts := atoms_spec (ws := wsX10_peg) B.pre
  have hown : s.vm.findClass RX10 = some m.cls := findClass_of_methodNamed B.named
  have hlocks := B.notSynchronized
  subst hsz
  have hD := hD0.self (sz := s.heap.size)
  generalize hAe : va_A [(ak, .inr (10, [.ref ah, .ref ak_reader, .ref aw, .ref ak_imageZero, .ref ak_imageOne, .ref ak_places, .ref ak_service, .ref ak_matching, .int k_nightPlay, .int k_nightWeather])), (aw, .inr (4, [.ref ag, .ref aw_events, .ref aw_claims, .ref aw_nights, .int w_kept])), (ag, .inr (2, [.int g_number, .ref ag_sort, .ref ag_kind, .ref ag_tip, .ref ag_marks, .ref ag_brass, .ref ag_peg, .ref ag_has])), (ag_peg, .inl (cyI, 16, .inl g_peg)), (ah, .inr (3, [.ref ah_kind, .ref ah_walk, .ref ah_share, .ref ah_weight, .int h_pegs, .int h_ticks, .int h_loss])), (ah_kind, .inl (cyI, 24, .inl h_kind)), (ah_walk, .inl (cyI, 24, .inl h_walk))] s.heap.size = A at hD ⊢
  have hA : ∀ q : Nat, s.heap.size ≤ q → A q := fun q h => by rw [← hAe]; exact Or.inr h
  have hS : va_S A s.heap s.heap [] := va_S.rf
  have hl := lv_entry ([.ref ak, .int x1, .int x2]) (n := 3) (Nat.le_of_ble_eq_true rfl)
  rw [lg_entry_eq]
  generalize (lg_sl ([.ref ak, .int x1, .int x2]) ++ List.replicate (3 - (lg_sl ([.ref ak, .int x1, .int x2])).length) Slot.unset).toArray = ls at hl ⊢
  have hl : lv_has ls 3 [(0, .ref ak), (1, .int x1), (2, .int x2)] := hl
  refine gx_q (fun Q9 hQ => ?_)
  unfold nf_H_peg at hw
  have hi_X10 : ∀ w ∈ wsX100, w ∈ wsX10_peg := (sub_c (nq_m (n := 19) rfl) (sub_c (nq_m (n := 20) rfl) (sub_c (nq_m (n := 21) rfl) (sub_c (nq_m (n := 22) rfl) (sub_c (nq_m (n := 23) rfl) (sub_c (nq_m (n := 24) rfl) (sub_c (nq_m (n := 25) rfl) (sub_c (nq_m (n := 26) rfl) (sub_c (nq_m (n := 27) rfl) (sub_c (nq_m (n := 28) rfl) sub_n))))))))))
  have hf10 : (Cond.fieldLink RX10 10 "CoatsHall" (TX10 0).2.1 (TX10 0).2.2.1).before ([.ref ak, .int x1, .int x2] : List Value).toArray s = true := hts (.fieldLink RX10 10 "CoatsHall" "theHall" "LCoatsHall$Hall;") (nq_m (n := 1) rfl)
  have hi_X3 : ∀ w ∈ wsX30, w ∈ wsX10_peg := (sub_c (nq_m (n := 29) rfl) (sub_c (nq_m (n := 30) rfl) (sub_c (nq_m (n := 31) rfl) (sub_c (nq_m (n := 32) rfl) (sub_c (nq_m (n := 33) rfl) (sub_c (nq_m (n := 34) rfl) (sub_c (nq_m (n := 35) rfl) sub_n)))))))
  have hf109 : (Cond.fieldLink RX10 109 "CoatsHall$Hall" (TX3 0).2.1 (TX3 0).2.2.1).before ([.ref ak, .int x1, .int x2] : List Value).toArray s = true := hts (.fieldLink RX10 109 "CoatsHall$Hall" "kind" "[I") (nq_m (n := 2) rfl)
  have hf113 : (Cond.fieldLink RX10 113 "CoatsHall$Hall" (TX3 1).2.1 (TX3 1).2.2.1).before ([.ref ak, .int x1, .int x2] : List Value).toArray s = true := hts (.fieldLink RX10 113 "CoatsHall$Hall" "walk" "[I") (nq_m (n := 3) rfl)
  have hf26 : (Cond.fieldLink RX10 26 "CoatsHall" (TX10 2).2.1 (TX10 2).2.2.1).before ([.ref ak, .int x1, .int x2] : List Value).toArray s = true := hts (.fieldLink RX10 26 "CoatsHall" "now" "LCoatsHall$Image;") (nq_m (n := 4) rfl)
  have hi_X4 : ∀ w ∈ wsX40, w ∈ wsX10_peg := (sub_c (nq_m (n := 36) rfl) (sub_c (nq_m (n := 37) rfl) (sub_c (nq_m (n := 38) rfl) (sub_c (nq_m (n := 39) rfl) (sub_c (nq_m (n := 40) rfl) sub_n)))))
  have hf116 : (Cond.fieldLink RX10 116 "CoatsHall$Image" (TX4 0).2.1 (TX4 0).2.2.1).before ([.ref ak, .int x1, .int x2] : List Value).toArray s = true := hts (.fieldLink RX10 116 "CoatsHall$Image" "guests" "LCoatsHall$Guests;") (nq_m (n := 5) rfl)
  refine lv_aload_n hx hb (nq_d dX10_peg_0_g (n := 0) rfl) rfl (lv_at hl 0 rfl) ?_
  refine va_get (D := (dC, dI)) (ci := 10) (v := .ref ah) (C := RX10) (T := TX10) (N := 10) hx hb hts hi_X10 hown hK hP 0 rfl rfl 0 (by decide) hf10 (fun _ h9 => h9) rfl (nq_d dX10_peg_0_g (n := 1) rfl) ?_
  refine lv_iload_n hx hb (nq_d dX10_peg_0_g (n := 2) rfl) rfl (lv_at hl 1 rfl) ?_
  refine gx_ri (wr := [(ak, .inr (10, [.ref ah, .ref ak_reader, .ref aw, .ref ak_imageZero, .ref ak_imageOne, .ref ak_places, .ref ak_service, .ref ak_matching, .int k_nightPlay, .int k_nightWeather])), (aw, .inr (4, [.ref ag, .ref aw_events, .ref aw_claims, .ref aw_nights, .int w_kept])), (ag, .inr (2, [.int g_number, .ref ag_sort, .ref ag_kind, .ref ag_tip, .ref ag_marks, .ref ag_brass, .ref ag_peg, .ref ag_has])), (ag_peg, .inl (cyI, 16, .inl g_peg)), (ah_kind, .inl (cyI, 24, .inl h_kind)), (ah_walk, .inl (cyI, 24, .inl h_walk))]) (va_runV (As := [.int x1]) (rest := []) ⟨hx, hb, hml, hown, hts⟩ (ct_Hall_hasPeg l dC dI cyB cyI cyJ cyZ ah ah_kind ah_walk ah_share ah_weight _ h_pegs h_ticks h_loss x1 _) (cwV 1 hts gX10_peg_X3_hasPeg rfl rfl rfl cd_X3_hasPeg ⟨Nat.le_of_ble_eq_true rfl, Nat.le_of_ble_eq_true rfl⟩) (gx_preV hK hP hD hNw [4] rfl (by decide +kernel) hw 4 (ci := 3) rfl rfl rfl) rfl rfl hl.1 rfl (lv_room (Nat.le_of_ble_eq_true rfl)) (nq_d dX10_peg_0_g (n := 3) rfl) ⟨Nat.zero_le _, Nat.zero_le _⟩) hP hD hS hA [4] [0, 1, 2, 3, 5, 6] [0, 1, 2, 3, 6, 4, 5] rfl rfl (by decide) (by decide) (by decide) (fun _ => [(ak, .inr (10, [.ref ah, .ref ak_reader, .ref aw, .ref ak_imageZero, .ref ak_imageOne, .ref ak_places, .ref ak_service, .ref ak_matching, .int k_nightPlay, .int k_nightWeather])), (aw, .inr (4, [.ref ag, .ref aw_events, .ref aw_claims, .ref aw_nights, .int w_kept])), (ag, .inr (2, [.int g_number, .ref ag_sort, .ref ag_kind, .ref ag_tip, .ref ag_marks, .ref ag_brass, .ref ag_peg, .ref ag_has])), (ag_peg, .inl (cyI, 16, .inl g_peg)), (ah, .inr (3, [.ref ah_kind, .ref ah_walk, .ref ah_share, .ref ah_weight, .int h_pegs, .int h_ticks, .int h_loss])), (ah_kind, .inl (cyI, 24, .inl h_kind)), (ah_walk, .inl (cyI, 24, .inl h_walk))]) (fun _ => rfl) (fun r1 u H locs hw hP hD hS => ?_)
  try dsimp only at hw hP hD
  refine gx_if_ne (tgt := 15) hx hb (nq_d dX10_peg_0_g (n := 4) rfl) (by decide) hw (fun hw => ?_) (fun hw => ?_)
  · refine lv_iload_n hx hb (nq_d dX10_peg_0_g (n := 7) rfl) rfl (lv_at hl 2 rfl) ?_
    by_cases hc0 : x2.toInt = 0
    · have hw := hw.1 hc0
      refine lv_tableIn (off := 28) (tgt := 44) hx hb (nq_d dX10_peg_0_g (n := 8) rfl) (by omega) (by omega) (by rw [hc0]; rfl) (by decide) ?_
      refine lv_aload_n hx hb (nq_d dX10_peg_0_g (n := 9) rfl) rfl (lv_at hl 0 rfl) ?_
      refine va_get (D := (dC, dI)) (ci := 10) (v := .ref ah) (C := RX10) (T := TX10) (N := 10) hx hb hts hi_X10 hown hK hP 0 rfl rfl 0 (by decide) hf10 (fun _ h9 => h9) rfl (nq_d dX10_peg_0_g (n := 10) rfl) ?_
      refine va_get (D := (dC, dI)) (ci := 3) (v := .ref ah_kind) (C := RX3) (T := TX3) (N := 7) hx hb hts hi_X3 hown hK hP 4 rfl rfl 0 (by decide) hf109 (fun _ h9 => h9) rfl (nq_d dX10_peg_0_g (n := 11) rfl) ?_
      refine lv_iload_n hx hb (nq_d dX10_peg_0_g (n := 12) rfl) rfl (lv_at hl 1 rfl) ?_
      refine gx_iald hx hb hK hP 5 1 rfl rfl (nq_d dX10_peg_0_g (n := 13) rfl) hw (fun v2 hw => ?_)
      exact rt_i (A1 := A) hQ hx hb hr hlocks hP hD hS () [0, 1, 2, 3, 4, 5, 6] rfl (by decide +kernel) hw (nq_d dX10_peg_0_g (n := 14) rfl)
    · have hw := hw.2 hc0
      by_cases hc1 : x2.toInt = 1
      · have hw := hw.1 hc1
        refine lv_tableIn (off := 38) (tgt := 54) hx hb (nq_d dX10_peg_0_g (n := 8) rfl) (by omega) (by omega) (by rw [hc1]; rfl) (by decide) ?_
        refine lv_aload_n hx hb (nq_d dX10_peg_0_g (n := 15) rfl) rfl (lv_at hl 0 rfl) ?_
        refine va_get (D := (dC, dI)) (ci := 10) (v := .ref ah) (C := RX10) (T := TX10) (N := 10) hx hb hts hi_X10 hown hK hP 0 rfl rfl 0 (by decide) hf10 (fun _ h9 => h9) rfl (nq_d dX10_peg_0_g (n := 16) rfl) ?_
        refine va_get (D := (dC, dI)) (ci := 3) (v := .ref ah_walk) (C := RX3) (T := TX3) (N := 7) hx hb hts hi_X3 hown hK hP 4 rfl rfl 1 (by decide) hf113 (fun _ h9 => h9) rfl (nq_d dX10_peg_0_g (n := 17) rfl) ?_
        refine lv_iload_n hx hb (nq_d dX10_peg_0_g (n := 18) rfl) rfl (lv_at hl 1 rfl) ?_
        refine gx_iald hx hb hK hP 6 1 rfl rfl (nq_d dX10_peg_0_g (n := 19) rfl) hw (fun v3 hw => ?_)
        exact rt_i (A1 := A) hQ hx hb hr hlocks hP hD hS () [0, 1, 2, 3, 4, 5, 6] rfl (by decide +kernel) hw (nq_d dX10_peg_0_g (n := 20) rfl)
      · have hw := hw.2 hc1
        by_cases hc2 : x2.toInt = 2
        · have hw := hw.1 hc2
          refine lv_tableIn (off := 48) (tgt := 64) hx hb (nq_d dX10_peg_0_g (n := 8) rfl) (by omega) (by omega) (by rw [hc2]; rfl) (by decide) ?_
          refine lv_aload_n hx hb (nq_d dX10_peg_0_g (n := 21) rfl) rfl (lv_at hl 0 rfl) ?_
          refine va_get (D := (dC, dI)) (ci := 10) (v := .ref aw) (C := RX10) (T := TX10) (N := 10) hx hb hts hi_X10 hown hK hP 0 rfl rfl 2 (by decide) hf26 (fun _ h9 => h9) rfl (nq_d dX10_peg_0_g (n := 22) rfl) ?_
          refine va_get (D := (dC, dI)) (ci := 4) (v := .ref ag) (C := RX4) (T := TX4) (N := 5) hx hb hts hi_X4 hown hK hP 1 rfl rfl 0 (by decide) hf116 (fun _ h9 => h9) rfl (nq_d dX10_peg_0_g (n := 23) rfl) ?_
          refine lv_iload_n hx hb (nq_d dX10_peg_0_g (n := 24) rfl) rfl (lv_at hl 1 rfl) ?_
          refine gx_ri (wr := [(ak, .inr (10, [.ref ah, .ref ak_reader, .ref aw, .ref ak_imageZero, .ref ak_imageOne, .ref ak_places, .ref ak_service, .ref ak_matching, .int k_nightPlay, .int k_nightWeather])), (aw, .inr (4, [.ref ag, .ref aw_events, .ref aw_claims, .ref aw_nights, .int w_kept])), (ah, .inr (3, [.ref ah_kind, .ref ah_walk, .ref ah_share, .ref ah_weight, .int h_pegs, .int h_ticks, .int h_loss])), (ah_kind, .inl (cyI, 24, .inl h_kind)), (ah_walk, .inl (cyI, 24, .inl h_walk))]) (va_runV (As := [.int x1]) (rest := []) ⟨hx, hb, hml, hown, hts⟩ (ct_Guests_ownerOn l dC dI cyB cyI cyJ cyZ ag ag_sort ag_kind ag_tip ag_marks ag_brass ag_peg ag_has _ g_number g_peg x1 _) (cwV 1 hts gX10_peg_X2_ownerOn rfl rfl rfl cd_X2_ownerOn ⟨Nat.le_of_ble_eq_true rfl, Nat.le_of_ble_eq_true rfl⟩) (gx_preV hK hP hD hNw [2, 3] rfl (by decide +kernel) hw 2 (ci := 2) rfl rfl rfl) rfl rfl hl.1 rfl (lv_room (Nat.le_of_ble_eq_true rfl)) (nq_d dX10_peg_0_g (n := 25) rfl) ⟨Nat.zero_le _, Nat.zero_le _⟩) hP hD hS hA [2, 3] [0, 1, 4, 5, 6] [0, 1, 5, 6, 2, 3, 4] rfl rfl (by decide) (by decide) (by decide) (fun _ => [(ak, .inr (10, [.ref ah, .ref ak_reader, .ref aw, .ref ak_imageZero, .ref ak_imageOne, .ref ak_places, .ref ak_service, .ref ak_matching, .int k_nightPlay, .int k_nightWeather])), (aw, .inr (4, [.ref ag, .ref aw_events, .ref aw_claims, .ref aw_nights, .int w_kept])), (ag, .inr (2, [.int g_number, .ref ag_sort, .ref ag_kind, .ref ag_tip, .ref ag_marks, .ref ag_brass, .ref ag_peg, .ref ag_has])), (ag_peg, .inl (cyI, 16, .inl g_peg)), (ah, .inr (3, [.ref ah_kind, .ref ah_walk, .ref ah_share, .ref ah_weight, .int h_pegs, .int h_ticks, .int h_loss])), (ah_kind, .inl (cyI, 24, .inl h_kind)), (ah_walk, .inl (cyI, 24, .inl h_walk))]) (fun _ => rfl) (fun r4 u H locs hw hP hD hS => ?_)
          try dsimp only at hw hP hD
          exact rt_i (A1 := A) hQ hx hb hr hlocks hP hD hS () [0, 1, 2, 3, 4, 5, 6] rfl (by decide +kernel) hw (nq_d dX10_peg_0_g (n := 26) rfl)
        · have hw := hw.2 hc2
          refine lv_tableOut (tgt := 76) hx hb (nq_d dX10_peg_0_g (n := 8) rfl) (by omega) (by decide) ?_
          refine lv_sipush (v := ((-1002) : Int32)) hx hb (nq_d dX10_peg_0_g (n := 27) rfl) (by decide) ?_
          exact rt_i (A1 := A) hQ hx hb hr hlocks hP hD hS () [0, 1, 2, 3, 4, 5, 6] rfl (by decide +kernel) hw (nq_d dX10_peg_0_g (n := 28) rfl)
  · refine lv_sipush (v := ((-1001) : Int32)) hx hb (nq_d dX10_peg_0_g (n := 5) rfl) (by decide) ?_
    exact rt_i (A1 := A) hQ hx hb hr hlocks hP hD hS () [0, 1, 2, 3, 4, 5, 6] rfl (by decide +kernel) hw (nq_d dX10_peg_0_g (n := 6) rfl)
abbrev rmX10_odds : Room := { frames := 2, cells := 0, slots := 0, locals := 44 }
theorem cd_X10_odds : yX10_odds.cls = RX10 ∧ yX10_odds.cls ≠ "java/lang/invoke/MethodHandle" ∧ yX10_odds.cls ≠ "java/lang/invoke/VarHandle" ∧ (parseMethodDescriptor yX10_odds.desc).map (fun d => d.parameters.length) = some 2 := by decide +kernel
set_option maxHeartbeats 4000000 in
set_option maxRecDepth 100000 in
theorem ct_H_odds (l : Launch) (dC : Nat → ClassId) (dI : Nat → Nat → Nat) (cyB cyI cyJ cyZ : ClassId) (ak ak_reader ak_now ak_imageZero ak_imageOne ak_places ak_service ak_matching ah ah_kind ah_walk ah_share ah_weight : Nat) (sz : Nat) (k_nightPlay : Int32) (k_nightWeather : Int32) (h_pegs : Int32) (h_ticks : Int32) (h_loss : Int32) (h_share : Nat → Int32) (x1 : Int32) (x2 : Int32) (Q : Int → Prop) : Met l yX10_odds wsX10_odds rmX10_odds (va_Pc [.ref ak, .int x1, .int x2] (cPre (dC, dI) vwCl (tyS cyB cyI cyJ cyZ) [(ak, .inr (10, [.ref ah, .ref ak_reader, .ref ak_now, .ref ak_imageZero, .ref ak_imageOne, .ref ak_places, .ref ak_service, .ref ak_matching, .int k_nightPlay, .int k_nightWeather])), (ah, .inr (3, [.ref ah_kind, .ref ah_walk, .ref ah_share, .ref ah_weight, .int h_pegs, .int h_ticks, .int h_loss])), (ah_share, .inl (cyI, 12, .inl h_share))] sz (nf_H_odds (aI 12 h_share) x1.toInt x2.toInt Q))) (va_Qi (fun (r : Int32) (_ : Unit) => Q r.toInt ) (cPost (dC, dI) vwCl (fun _ : Unit => [(ak, .inr (10, [.ref ah, .ref ak_reader, .ref ak_now, .ref ak_imageZero, .ref ak_imageOne, .ref ak_places, .ref ak_service, .ref ak_matching, .int k_nightPlay, .int k_nightWeather])), (ah, .inr (3, [.ref ah_kind, .ref ah_walk, .ref ah_share, .ref ah_weight, .int h_pegs, .int h_ticks, .int h_loss])), (ah_share, .inl (cyI, 12, .inl h_share))]) (va_A [(ak, .inr (10, [.ref ah, .ref ak_reader, .ref ak_now, .ref ak_imageZero, .ref ak_imageOne, .ref ak_places, .ref ak_service, .ref ak_matching, .int k_nightPlay, .int k_nightWeather])), (ah, .inr (3, [.ref ah_kind, .ref ah_walk, .ref ah_share, .ref ah_weight, .int h_pegs, .int h_ticks, .int h_loss])), (ah_share, .inl (cyI, 12, .inl h_share))] sz)) (va_A [(ak, .inr (10, [.ref ah, .ref ak_reader, .ref ak_now, .ref ak_imageZero, .ref ak_imageOne, .ref ak_places, .ref ak_service, .ref ak_matching, .int k_nightPlay, .int k_nightWeather])), (ah, .inr (3, [.ref ah_kind, .ref ah_walk, .ref ah_share, .ref ah_weight, .int h_pegs, .int h_ticks, .int h_loss])), (ah_share, .inl (cyI, 12, .inl h_share))] sz)) 0 0 (va_A [(ak, .inr (10, [.ref ah, .ref ak_reader, .ref ak_now, .ref ak_imageZero, .ref ak_imageOne, .ref ak_places, .ref ak_service, .ref ak_matching, .int k_nightPlay, .int k_nightWeather])), (ah, .inr (3, [.ref ah_kind, .ref ah_walk, .ref ah_share, .ref ah_weight, .int h_pegs, .int h_ticks, .int h_loss])), (ah_share, .inl (cyI, 12, .inl h_share))] sz) := by
  refine Met.ofW (cc := cX10_odds) (maxL := 3) (ret := (some .int)) (by decide) rfl ?_
  intro p e s m args below meth c s₁ B hml hv
  obtain ⟨rfl, hsz, hP, hK, hD0, hNw, hw⟩ := hv
  have hx := B.exec
  have hb := B.bytes
  have hr := B.returns
  have hts := atoms_spec (ws := wsX10_odds) B.pre
  have hown : s.vm.findClass RX10 = some m.cls := findClass_of_methodNamed B.named
  have hlocks := B.notSynchronized
  subst hsz
  have hD := hD0.self (sz := s.heap.size)
  generalize hAe : va_A [(ak, .inr (10, [.ref ah, .ref ak_reader, .ref ak_now, .ref ak_imageZero, .ref ak_imageOne, .ref ak_places, .ref ak_service, .ref ak_matching, .int k_nightPlay, .int k_nightWeather])), (ah, .inr (3, [.ref ah_kind, .ref ah_walk, .ref ah_share, .ref ah_weight, .int h_pegs, .int h_ticks, .int h_loss])), (ah_share, .inl (cyI, 12, .inl h_share))] s.heap.size = A at hD ⊢
  have hA : ∀ q : Nat, s.heap.size ≤ q → A q := fun q h => by rw [← hAe]; exact Or.inr h
  have hS : va_S A s.heap s.heap [] := va_S.rf
  have hl := lv_entry ([.ref ak, .int x1, .int x2]) (n := 3) (Nat.le_of_ble_eq_true rfl)
  rw [lg_entry_eq]
  generalize (lg_sl ([.ref ak, .int x1, .int x2]) ++ List.replicate (3 - (lg_sl ([.ref ak, .int x1, .int x2])).length) Slot.unset).toArray = ls at hl ⊢
  have hl : lv_has ls 3 [(0, .ref ak), (1, .int x1), (2, .int x2)] := hl
  refine gx_q (fun Q9 hQ => ?_)
  unfold nf_H_odds at hw
  have hi_X10 : ∀ w ∈ wsX100, w ∈ wsX10_odds := (sub_c (nq_m (n := 12) rfl) (sub_c (nq_m (n := 13) rfl) (sub_c (nq_m (n := 14) rfl) (sub_c (nq_m (n := 15) rfl) (sub_c (nq_m (n := 16) rfl) (sub_c (nq_m (n := 17) rfl) (sub_c (nq_m (n := 18) rfl) (sub_c (nq_m (n := 19) rfl) (sub_c (nq_m (n := 20) rfl) (sub_c (nq_m (n := 21) rfl) sub_n))))))))))
  have hf10 : (Cond.fieldLink RX10 10 "CoatsHall" (TX10 0).2.1 (TX10 0).2.2.1).before ([.ref ak, .int x1, .int x2] : List Value).toArray s = true := hts (.fieldLink RX10 10 "CoatsHall" "theHall" "LCoatsHall$Hall;") (nq_m (n := 1) rfl)
  refine lv_iload_n hx hb (nq_d dX10_odds_0_g (n := 0) rfl) rfl (lv_at hl 1 rfl) ?_
  refine lv_iconst (v := (0 : Int32)) hx hb (nq_d dX10_odds_0_g (n := 1) rfl) (by decide) ?_
  refine lv_iconst (v := (3 : Int32)) hx hb (nq_d dX10_odds_0_g (n := 2) rfl) (by decide) ?_
  refine gx_ri (wr := [(ak, .inr (10, [.ref ah, .ref ak_reader, .ref ak_now, .ref ak_imageZero, .ref ak_imageOne, .ref ak_places, .ref ak_service, .ref ak_matching, .int k_nightPlay, .int k_nightWeather])), (ah, .inr (3, [.ref ah_kind, .ref ah_walk, .ref ah_share, .ref ah_weight, .int h_pegs, .int h_ticks, .int h_loss])), (ah_share, .inl (cyI, 12, .inl h_share))]) (va_runS (As := [.int x1, .int (0 : Int32), .int (3 : Int32)]) (rest := []) ⟨hx, hb, hml, hown, hts⟩ (ct_H_within l dC dI cyB cyI cyJ cyZ  _ x1 (0 : Int32) (3 : Int32) _) (va_cwS 3 hts gX10_odds_X10_within rfl rfl rfl cd_X10_within.2 ⟨Nat.le_of_ble_eq_true rfl, Nat.le_of_ble_eq_true rfl⟩) (gx_preS hK hP hD hNw [] rfl (by decide) hw) rfl rfl hl.1 rfl (lv_room (Nat.le_of_ble_eq_true rfl)) (nq_d dX10_odds_0_g (n := 3) rfl) ⟨Nat.zero_le _, Nat.zero_le _⟩) hP hD hS hA [] [0, 1, 2] [0, 1, 2] rfl rfl (by decide) (by decide) (by decide) (fun _ => [(ak, .inr (10, [.ref ah, .ref ak_reader, .ref ak_now, .ref ak_imageZero, .ref ak_imageOne, .ref ak_places, .ref ak_service, .ref ak_matching, .int k_nightPlay, .int k_nightWeather])), (ah, .inr (3, [.ref ah_kind, .ref ah_walk, .ref ah_share, .ref ah_weight, .int h_pegs, .int h_ticks, .int h_loss])), (ah_share, .inl (cyI, 12, .inl h_share))]) (fun _ => rfl) (fun r1 u H locs hw hP hD hS => ?_)
  try dsimp only at hw hP hD
  refine gx_if_eq (tgt := 18) hx hb (nq_d dX10_odds_0_g (n := 4) rfl) (by decide) hw (fun hw => ?_) (fun hw => ?_)
  · refine lv_sipush (v := ((-1002) : Int32)) hx hb (nq_d dX10_odds_0_g (n := 10) rfl) (by decide) ?_
    exact rt_i (A1 := A) hQ hx hb hr hlocks hP hD hS () [0, 1, 2] rfl (by decide +kernel) hw (nq_d dX10_odds_0_g (n := 11) rfl)
  · refine lv_iload_n hx hb (nq_d dX10_odds_0_g (n := 5) rfl) rfl (lv_at hl 2 rfl) ?_
    refine lv_iconst (v := (0 : Int32)) hx hb (nq_d dX10_odds_0_g (n := 6) rfl) (by decide) ?_
    refine lv_iconst (v := (2 : Int32)) hx hb (nq_d dX10_odds_0_g (n := 7) rfl) (by decide) ?_
    refine gx_ri (wr := [(ak, .inr (10, [.ref ah, .ref ak_reader, .ref ak_now, .ref ak_imageZero, .ref ak_imageOne, .ref ak_places, .ref ak_service, .ref ak_matching, .int k_nightPlay, .int k_nightWeather])), (ah, .inr (3, [.ref ah_kind, .ref ah_walk, .ref ah_share, .ref ah_weight, .int h_pegs, .int h_ticks, .int h_loss])), (ah_share, .inl (cyI, 12, .inl h_share))]) (va_runS (As := [.int x2, .int (0 : Int32), .int (2 : Int32)]) (rest := []) ⟨hx, hb, hml, hown, hts⟩ (ct_H_within l dC dI cyB cyI cyJ cyZ  _ x2 (0 : Int32) (2 : Int32) _) (va_cwS 3 hts gX10_odds_X10_within rfl rfl rfl cd_X10_within.2 ⟨Nat.le_of_ble_eq_true rfl, Nat.le_of_ble_eq_true rfl⟩) (gx_preS hK hP hD hNw [] rfl (by decide) hw) rfl rfl hl.1 rfl (lv_room (Nat.le_of_ble_eq_true rfl)) (nq_d dX10_odds_0_g (n := 8) rfl) ⟨Nat.zero_le _, Nat.zero_le _⟩) hP hD hS hA [] [0, 1, 2] [0, 1, 2] rfl rfl (by decide) (by decide) (by decide) (fun _ => [(ak, .inr (10, [.ref ah, .ref ak_reader, .ref ak_now, .ref ak_imageZero, .ref ak_imageOne, .ref ak_places, .ref ak_service, .ref ak_matching, .int k_nightPlay, .int k_nightWeather])), (ah, .inr (3, [.ref ah_kind, .ref ah_walk, .ref ah_share, .ref ah_weight, .int h_pegs, .int h_ticks, .int h_loss])), (ah_share, .inl (cyI, 12, .inl h_share))]) (fun _ => rfl) (fun r2 u H locs hw hP hD hS => ?_)
    try dsimp only at hw hP hD
    refine gx_if_ne (tgt := 22) hx hb (nq_d dX10_odds_0_g (n := 9) rfl) (by decide) hw (fun hw => ?_) (fun hw => ?_)
    · refine lv_aload_n hx hb (nq_d dX10_odds_0_g (n := 12) rfl) rfl (lv_at hl 0 rfl) ?_
      refine va_get (D := (dC, dI)) (ci := 10) (v := .ref ah) (C := RX10) (T := TX10) (N := 10) hx hb hts hi_X10 hown hK hP 0 rfl rfl 0 (by decide) hf10 (fun _ h9 => h9) rfl (nq_d dX10_odds_0_g (n := 13) rfl) ?_
      refine lv_iload_n hx hb (nq_d dX10_odds_0_g (n := 14) rfl) rfl (lv_at hl 1 rfl) ?_
      refine lv_iload_n hx hb (nq_d dX10_odds_0_g (n := 15) rfl) rfl (lv_at hl 2 rfl) ?_
      refine gx_ri (wr := [(ak, .inr (10, [.ref ah, .ref ak_reader, .ref ak_now, .ref ak_imageZero, .ref ak_imageOne, .ref ak_places, .ref ak_service, .ref ak_matching, .int k_nightPlay, .int k_nightWeather]))]) (va_runV (As := [.int x1, .int x2]) (rest := []) ⟨hx, hb, hml, hown, hts⟩ (ct_Hall_shareOf l dC dI cyB cyI cyJ cyZ ah ah_kind ah_walk ah_share ah_weight _ h_pegs h_ticks h_loss h_share x1 x2 _) (cwV 2 hts gX10_odds_X3_shareOf rfl rfl rfl cd_X3_shareOf ⟨Nat.le_of_ble_eq_true rfl, Nat.le_of_ble_eq_true rfl⟩) (gx_preV hK hP hD hNw [1, 2] rfl (by decide +kernel) hw 1 (ci := 3) rfl rfl rfl) rfl rfl hl.1 rfl (lv_room (Nat.le_of_ble_eq_true rfl)) (nq_d dX10_odds_0_g (n := 16) rfl) ⟨Nat.zero_le _, Nat.zero_le _⟩) hP hD hS hA [1, 2] [0] [0, 1, 2] rfl rfl (by decide) (by decide) (by decide) (fun _ => [(ak, .inr (10, [.ref ah, .ref ak_reader, .ref ak_now, .ref ak_imageZero, .ref ak_imageOne, .ref ak_places, .ref ak_service, .ref ak_matching, .int k_nightPlay, .int k_nightWeather])), (ah, .inr (3, [.ref ah_kind, .ref ah_walk, .ref ah_share, .ref ah_weight, .int h_pegs, .int h_ticks, .int h_loss])), (ah_share, .inl (cyI, 12, .inl h_share))]) (fun _ => rfl) (fun r3 u H locs hw hP hD hS => ?_)
      try dsimp only at hw hP hD
      exact rt_i (A1 := A) hQ hx hb hr hlocks hP hD hS () [0, 1, 2] rfl (by decide +kernel) hw (nq_d dX10_odds_0_g (n := 17) rfl)
    · refine lv_sipush (v := ((-1002) : Int32)) hx hb (nq_d dX10_odds_0_g (n := 10) rfl) (by decide) ?_
      exact rt_i (A1 := A) hQ hx hb hr hlocks hP hD hS () [0, 1, 2] rfl (by decide +kernel) hw (nq_d dX10_odds_0_g (n := 11) rfl)
