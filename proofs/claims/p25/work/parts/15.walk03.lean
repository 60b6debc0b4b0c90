/-! CONTRACTS, printed by program: the machine does what the nice form says -/
abbrev rmX5_addWays : Room := { frames := 0, cells := 0, slots := 0, locals := 0 }
theorem cd_X5_addWays : yX5_addWays.cls = RX5 ∧ yX5_addWays.cls ≠ "java/lang/invoke/MethodHandle" ∧ yX5_addWays.cls ≠ "java/lang/invoke/VarHandle" ∧ (parseMethodDescriptor yX5_addWays.desc).map (fun d => d.parameters.length) = some 2 := by decide +kernel
set_option maxHeartbeats 4000000 in
set_option maxRecDepth 100000 in
theorem ct_Matching_addWays (l : Launch) (dC : Nat → ClassId) (dI : Nat → Nat → Nat) (cyB cyI cyJ cyZ : ClassId) (aq aq_fitting aq_waysOf : Nat) (sz : Nat) (q_claims : Int32) (q_fitting : Nat → Int32) (q_waysOf : Nat → Int64) (x1 : Int32) (x2 : Int32) (Q : (Int → Int) → Prop) : Met l yX5_addWays wsX5_addWays rmX5_addWays (va_Pc [.ref aq, .int x1, .int x2] (cPre (dC, dI) vwCl (tyS cyB cyI cyJ cyZ) [(aq, .inr (5, [.ref aq_fitting, .ref aq_waysOf, .int q_claims])), (aq_fitting, .inl (cyI, 6, .inl q_fitting)), (aq_waysOf, .inl (cyJ, 64, .inr (.inl q_waysOf)))] sz (nf_Matching_addWays q_claims.toInt (aI 6 q_fitting) (aL 64 q_waysOf) x1.toInt x2.toInt Q))) (va_Qv (fun (u : (Nat → Int64)) => Q (aL 64 u)) (cPost (dC, dI) vwCl (fun u : (Nat → Int64) => [(aq, .inr (5, [.ref aq_fitting, .ref aq_waysOf, .int q_claims])), (aq_fitting, .inl (cyI, 6, .inl q_fitting)), (aq_waysOf, .inl (cyJ, 64, .inr (.inl (u))))]) (va_A [(aq, .inr (5, [.ref aq_fitting, .ref aq_waysOf, .int q_claims])), (aq_fitting, .inl (cyI, 6, .inl q_fitting)), (aq_waysOf, .inl (cyJ, 64, .inr (.inl q_waysOf)))] sz)) (va_A [(aq, .inr (5, [.ref aq_fitting, .ref aq_waysOf, .int q_claims])), (aq_fitting, .inl (cyI, 6, .inl q_fitting)), (aq_waysOf, .inl (cyJ, 64, .inr (.inl q_waysOf)))] sz)) 0 0 (va_A [(aq, .inr (5, [.ref aq_fitting, .ref aq_waysOf, .int q_claims])), (aq_fitting, .inl (cyI, 6, .inl q_fitting)), (aq_waysOf, .inl (cyJ, 64, .inr (.inl q_waysOf)))] sz) := by
  refine Met.ofW (cc := cX5_addWays) (maxL := 5) (ret := none) (by decide) rfl ?_
  intro p e s m args below meth c s₁ B hml hv
  obtain ⟨rfl, hsz, hP, hK, hD0, hNw, hw⟩ := hv
  have hx := B.exec
  have hb := B.bytes
  have hr := B.returns
  have hts := atoms_spec (ws := wsX5_addWays) B.pre
  have hown : s.vm.findClass RX5 = some m.cls := findClass_of_methodNamed B.named
  have hlocks := B.notSynchronized
  subst hsz
  have hD := hD0.self (sz := s.heap.size)
  generalize hAe : va_A [(aq, .inr (5, [.ref aq_fitting, .ref aq_waysOf, .int q_claims])), (aq_fitting, .inl (cyI, 6, .inl q_fitting)), (aq_waysOf, .inl (cyJ, 64, .inr (.inl q_waysOf)))] s.heap.size = A at hD ⊢
  have hA : ∀ q : Nat, s.heap.size ≤ q → A q := fun q h => by rw [← hAe]; exact Or.inr h
  have hS : va_S A s.heap s.heap [] := va_S.rf
  have hl := lv_entry ([.ref aq, .int x1, .int x2]) (n := 5) (Nat.le_of_ble_eq_true rfl)
  rw [lg_entry_eq]
  generalize (lg_sl ([.ref aq, .int x1, .int x2]) ++ List.replicate (5 - (lg_sl ([.ref aq, .int x1, .int x2])).length) Slot.unset).toArray = ls at hl ⊢
  have hl : lv_has ls 5 [(0, .ref aq), (1, .int x1), (2, .int x2)] := hl
  refine gx_q (fun Q9 hQ => ?_)
  unfold nf_Matching_addWays at hw
  have hi_X5 : ∀ w ∈ wsX50, w ∈ wsX5_addWays := (sub_c (nq_m (n := 4) rfl) (sub_c (nq_m (n := 5) rfl) (sub_c (nq_m (n := 6) rfl) sub_n)))
  have hf19 : (Cond.fieldLink RX5 19 "CoatsHall$Matching" (TX5 2).2.1 (TX5 2).2.2.1).before ([.ref aq, .int x1, .int x2] : List Value).toArray s = true := hts (.fieldLink RX5 19 "CoatsHall$Matching" "claims" "I") (nq_m (n := 1) rfl)
  have hf15 : (Cond.fieldLink RX5 15 "CoatsHall$Matching" (TX5 1).2.1 (TX5 1).2.2.1).before ([.ref aq, .int x1, .int x2] : List Value).toArray s = true := hts (.fieldLink RX5 15 "CoatsHall$Matching" "waysOf" "[J") (nq_m (n := 3) rfl)
  have hf9 : (Cond.fieldLink RX5 9 "CoatsHall$Matching" (TX5 0).2.1 (TX5 0).2.2.1).before ([.ref aq, .int x1, .int x2] : List Value).toArray s = true := hts (.fieldLink RX5 9 "CoatsHall$Matching" "fitting" "[I") (nq_m (n := 2) rfl)
  refine lv_iconst (v := (0 : Int32)) hx hb (nq_d dX5_addWays_0_g (n := 0) rfl) (by decide) ?_
  refine lv_istore_n (lv' := [(3, .int (0 : Int32)), (0, .ref aq), (1, .int x1), (2, .int x2)]) hx hb (nq_d dX5_addWays_0_g (n := 1) rfl) rfl hl (by decide) rfl (fun ls hl => ?_)
  refine nlp2_el hw (fun X0_20 X1_20 => ∀ (l3_1 : Int32) (z2 : (Nat → Int64)), X0_20 = l3_1.toInt → X1_20 = (aL 64 z2) → ∀ (H : Heap) (locs : List Loc) (ls : Array Slot), va_P (dC, dI) vwCl [(aq, .inr (5, [.ref aq_fitting, .ref aq_waysOf, .int q_claims])), (aq_fitting, .inl (cyI, 6, .inl q_fitting)), (aq_waysOf, .inl (cyJ, 64, .inr (.inl z2)))] H → va_D A [(aq, .inr (5, [.ref aq_fitting, .ref aq_waysOf, .int q_claims])), (aq_fitting, .inl (cyI, 6, .inl q_fitting)), (aq_waysOf, .inl (cyJ, 64, .inr (.inl z2)))] → va_S A s.heap H locs → lv_has ls 5 [(0, .ref aq), (1, .int x1), (2, .int x2), (3, .int l3_1)] → W p l e (headSpec wsX5_addWays rmX5_addWays).room s m ([.ref aq, .int x1, .int x2] : List Value).toArray below meth c H locs 0 0 Q9 (F0 m 2 ls [])) (fun self3 hPself3 X0_20 X1_20 hw l3_1 z2 eX0_20 eX1_20 H locs ls hP hD hS hl => ?_) (0 : Int32) q_waysOf rfl rfl _ _ _ hP hD hS (lv_sub hl [1, 2, 3, 0] rfl)
  subst eX0_20
  subst eX1_20
  refine lv_iload_n hx hb (nq_d dX5_addWays_0_g (n := 2) rfl) rfl (lv_at hl 3 rfl) ?_
  refine lv_aload_n hx hb (nq_d dX5_addWays_0_g (n := 3) rfl) rfl (lv_at hl 0 rfl) ?_
  refine va_get (D := (dC, dI)) (ci := 5) (v := .int q_claims) (C := RX5) (T := TX5) (N := 3) hx hb hts hi_X5 hown hK hP 0 rfl rfl 2 (by decide) hf19 (fun _ h9 => h9) rfl (nq_d dX5_addWays_0_g (n := 4) rfl) ?_
  refine gx_icmp_ge (tgt := 70) hx hb (nq_d dX5_addWays_0_g (n := 5) rfl) (by decide) hw (fun hw => ?_) (fun hw => ?_)
  · exact rt_v (A1 := A) hQ hx hb hr hlocks hP hD hS z2 [0, 1, 2] rfl (by decide +kernel) hw (nq_d dX5_addWays_60_g (n := 6) rfl)
  · refine lv_iload_n hx hb (nq_d dX5_addWays_0_g (n := 6) rfl) rfl (lv_at hl 1 rfl) ?_
    refine lv_iload_n hx hb (nq_d dX5_addWays_0_g (n := 7) rfl) rfl (lv_at hl 3 rfl) ?_
    refine gx_ishr hx hb (nq_d dX5_addWays_0_g (n := 8) rfl) hw (fun v4 hw => ?_)
    refine lv_iconst (v := (1 : Int32)) hx hb (nq_d dX5_addWays_0_g (n := 9) rfl) (by decide) ?_
    refine gx_iand hx hb (nq_d dX5_addWays_0_g (n := 10) rfl) hw (fun v5 hw => ?_)
    refine lv_iconst (v := (1 : Int32)) hx hb (nq_d dX5_addWays_0_g (n := 11) rfl) (by decide) ?_
    refine jn1_el hw (fun j7 hj7 hw => ?_)
    have Jj7 : ∀ (t6 : Int32) (H : Heap) (locs : List Loc) (ls : Array Slot), va_P (dC, dI) vwCl [(aq, .inr (5, [.ref aq_fitting, .ref aq_waysOf, .int q_claims])), (aq_fitting, .inl (cyI, 6, .inl q_fitting)), (aq_waysOf, .inl (cyJ, 64, .inr (.inl z2)))] H → va_D A [(aq, .inr (5, [.ref aq_fitting, .ref aq_waysOf, .int q_claims])), (aq_fitting, .inl (cyI, 6, .inl q_fitting)), (aq_waysOf, .inl (cyJ, 64, .inr (.inl z2)))] → va_S A s.heap H locs → lv_has ls 5 [(0, .ref aq), (1, .int x1), (2, .int x2), (3, .int l3_1)] → j7 t6.toInt → W p l e (headSpec wsX5_addWays rmX5_addWays).room s m ([.ref aq, .int x1, .int x2] : List Value).toArray below meth c H locs 0 0 Q9 (F0 m 38 ls [.int t6]) := by
      intro t6 H locs ls hP hD hS hl hw
      have hw := hj7 _ hw
      refine lv_istore (lv' := [(4, .int t6), (0, .ref aq), (1, .int x1), (2, .int x2), (3, .int l3_1)]) hx hb (nq_d dX5_addWays_0_g (n := 26) rfl) hl (by decide) rfl (fun ls hl => ?_)
      refine lv_iload hx hb (nq_d dX5_addWays_0_g (n := 27) rfl) (lv_at hl 0 rfl) ?_
      refine jn1_el hw (fun j9 hj9 hw => ?_)
      have Jj9 : ∀ (z8 : (Nat → Int64)) (H : Heap) (locs : List Loc) (ls : Array Slot), va_P (dC, dI) vwCl [(aq, .inr (5, [.ref aq_fitting, .ref aq_waysOf, .int q_claims])), (aq_fitting, .inl (cyI, 6, .inl q_fitting)), (aq_waysOf, .inl (cyJ, 64, .inr (.inl z8)))] H → va_D A [(aq, .inr (5, [.ref aq_fitting, .ref aq_waysOf, .int q_claims])), (aq_fitting, .inl (cyI, 6, .inl q_fitting)), (aq_waysOf, .inl (cyJ, 64, .inr (.inl z8)))] → va_S A s.heap H locs → lv_has ls 5 [(0, .ref aq), (1, .int x1), (2, .int x2), (3, .int l3_1)] → j9 (aL 64 z8) → W p l e (headSpec wsX5_addWays rmX5_addWays).room s m ([.ref aq, .int x1, .int x2] : List Value).toArray below meth c H locs 0 0 Q9 (F0 m 64 ls []) := by
        intro z8 H locs ls hP hD hS hl hw
        have hw := hj9 _ hw
        refine gx_iinc (k := 3) (z := (1 : Int32)) (lv' := fun v10 => [(3, .int v10), (0, .ref aq), (1, .int x1), (2, .int x2)]) hx hb (nq_d dX5_addWays_60_g (n := 4) rfl) hl rfl (by decide) (by decide) (fun _ => rfl) hw (fun v10 ls hw hl => ?_)
        refine lv_goto (tgt := 2) hx hb (nq_d dX5_addWays_60_g (n := 5) rfl) (by decide) ?_
        exact hPself3 _ _ hw v10 z8 rfl rfl _ _ _ hP hD hS (lv_sub hl [1, 2, 3, 0] rfl)
      refine gx_if_eq (tgt := 64) hx hb (nq_d dX5_addWays_0_g (n := 28) rfl) (by decide) hw (fun hw => ?_) (fun hw => ?_)
      · exact Jj9 z2 _ _ _ hP hD hS (lv_sub hl [1, 2, 3, 4] rfl) hw
      · refine lv_aload_n hx hb (nq_d dX5_addWays_0_g (n := 29) rfl) rfl (lv_at hl 1 rfl) ?_
        refine va_get (D := (dC, dI)) (ci := 5) (v := .ref aq_waysOf) (C := RX5) (T := TX5) (N := 3) hx hb hts hi_X5 hown hK hP 0 rfl rfl 1 (by decide) hf15 (fun _ h9 => h9) rfl (nq_d dX5_addWays_0_g (n := 30) rfl) ?_
        refine lv_iload_n hx hb (nq_d dX5_addWays_0_g (n := 31) rfl) rfl (lv_at hl 2 rfl) ?_
        refine lv_dup2_11 hx hb (nq_d dX5_addWays_0_g (n := 32) rfl) rfl rfl ?_
        refine gx_lald hx hb hK hP 2 2 rfl rfl (nq_d dX5_addWays_0_g (n := 33) rfl) hw (fun v11 hw => ?_)
        refine lv_aload_n hx hb (nq_d dX5_addWays_0_g (n := 34) rfl) rfl (lv_at hl 1 rfl) ?_
        refine va_get (D := (dC, dI)) (ci := 5) (v := .ref aq_waysOf) (C := RX5) (T := TX5) (N := 3) hx hb hts hi_X5 hown hK hP 0 rfl rfl 1 (by decide) hf15 (fun _ h9 => h9) rfl (nq_d dX5_addWays_0_g (n := 35) rfl) ?_
        refine lv_iload_n hx hb (nq_d dX5_addWays_0_g (n := 36) rfl) rfl (lv_at hl 2 rfl) ?_
        refine lv_iconst (v := (1 : Int32)) hx hb (nq_d dX5_addWays_0_g (n := 37) rfl) (by decide) ?_
        refine lv_iload_n hx hb (nq_d dX5_addWays_0_g (n := 38) rfl) rfl (lv_at hl 4 rfl) ?_
        refine gx_ishl hx hb (nq_d dX5_addWays_0_g (n := 39) rfl) hw (fun v12 hw => ?_)
        refine gx_ixor hx hb (nq_d dX5_addWays_60_g (n := 0) rfl) hw (fun v13 hw => ?_)
        refine gx_lald hx hb hK hP 2 2 rfl rfl (nq_d dX5_addWays_60_g (n := 1) rfl) hw (fun v14 hw => ?_)
        refine gx_ladd hx hb (nq_d dX5_addWays_60_g (n := 2) rfl) hw (fun v15 hw => ?_)
        refine gx_last hx hb hK hP hD hS 2 2 rfl rfl (nq_d dX5_addWays_60_g (n := 3) rfl) (fun f16 => [(aq, .inr (5, [.ref aq_fitting, .ref aq_waysOf, .int q_claims])), (aq_fitting, .inl (cyI, 6, .inl q_fitting)), (aq_waysOf, .inl (cyJ, 64, .inr (.inl f16)))]) (fun _ => rfl) hw (fun f16 H locs hw hP hD hS => ?_)
        exact Jj9 f16 _ _ _ hP hD hS (lv_sub hl [1, 2, 3, 4] rfl) hw
    refine jn0_el hw (fun j17 hj17 hw => ?_)
    have Jj17 : ∀  (H : Heap) (locs : List Loc) (ls : Array Slot), va_P (dC, dI) vwCl [(aq, .inr (5, [.ref aq_fitting, .ref aq_waysOf, .int q_claims])), (aq_fitting, .inl (cyI, 6, .inl q_fitting)), (aq_waysOf, .inl (cyJ, 64, .inr (.inl z2)))] H → va_D A [(aq, .inr (5, [.ref aq_fitting, .ref aq_waysOf, .int q_claims])), (aq_fitting, .inl (cyI, 6, .inl q_fitting)), (aq_waysOf, .inl (cyJ, 64, .inr (.inl z2)))] → va_S A s.heap H locs → lv_has ls 5 [(0, .ref aq), (1, .int x1), (2, .int x2), (3, .int l3_1)] → j17  → W p l e (headSpec wsX5_addWays rmX5_addWays).room s m ([.ref aq, .int x1, .int x2] : List Value).toArray below meth c H locs 0 0 Q9 (F0 m 37 ls []) := by
      intro  H locs ls hP hD hS hl hw
      have hw := hj17  hw
      refine lv_iconst (v := (0 : Int32)) hx hb (nq_d dX5_addWays_0_g (n := 25) rfl) (by decide) ?_
      exact Jj7 (0 : Int32) _ _ _ hP hD hS (lv_sub hl [0, 1, 2, 3] rfl) hw
    refine gx_icmp_ne (tgt := 37) hx hb (nq_d dX5_addWays_0_g (n := 12) rfl) (by decide) hw (fun hw => ?_) (fun hw => ?_)
    · exact Jj17  _ _ _ hP hD hS (lv_sub hl [0, 1, 2, 3] rfl) hw
    · refine lv_aload_n hx hb (nq_d dX5_addWays_0_g (n := 13) rfl) rfl (lv_at hl 0 rfl) ?_
      refine va_get (D := (dC, dI)) (ci := 5) (v := .ref aq_fitting) (C := RX5) (T := TX5) (N := 3) hx hb hts hi_X5 hown hK hP 0 rfl rfl 0 (by decide) hf9 (fun _ h9 => h9) rfl (nq_d dX5_addWays_0_g (n := 14) rfl) ?_
      refine lv_iload_n hx hb (nq_d dX5_addWays_0_g (n := 15) rfl) rfl (lv_at hl 3 rfl) ?_
      refine gx_iald hx hb hK hP 1 1 rfl rfl (nq_d dX5_addWays_0_g (n := 16) rfl) hw (fun v18 hw => ?_)
      refine lv_iload_n hx hb (nq_d dX5_addWays_0_g (n := 17) rfl) rfl (lv_at hl 2 rfl) ?_
      refine gx_ishr hx hb (nq_d dX5_addWays_0_g (n := 18) rfl) hw (fun v19 hw => ?_)
      refine lv_iconst (v := (1 : Int32)) hx hb (nq_d dX5_addWays_0_g (n := 19) rfl) (by decide) ?_
      refine gx_iand hx hb (nq_d dX5_addWays_0_g (n := 20) rfl) hw (fun v20 hw => ?_)
      refine lv_iconst (v := (1 : Int32)) hx hb (nq_d dX5_addWays_0_g (n := 21) rfl) (by decide) ?_
      refine gx_icmp_ne (tgt := 37) hx hb (nq_d dX5_addWays_0_g (n := 22) rfl) (by decide) hw (fun hw => ?_) (fun hw => ?_)
      · exact Jj17  _ _ _ hP hD hS (lv_sub hl [0, 1, 2, 3] rfl) hw
      · refine lv_iconst (v := (1 : Int32)) hx hb (nq_d dX5_addWays_0_g (n := 23) rfl) (by decide) ?_
        refine lv_goto (tgt := 38) hx hb (nq_d dX5_addWays_0_g (n := 24) rfl) (by decide) ?_
        exact Jj7 (1 : Int32) _ _ _ hP hD hS (lv_sub hl [0, 1, 2, 3] rfl) hw
abbrev rmX5_number : Room := { frames := 1, cells := 0, slots := 0, locals := 24 }
theorem cd_X5_number : yX5_number.cls = RX5 ∧ yX5_number.cls ≠ "java/lang/invoke/MethodHandle" ∧ yX5_number.cls ≠ "java/lang/invoke/VarHandle" ∧ (parseMethodDescriptor yX5_number.desc).map (fun d => d.parameters.length) = some 0 := by decide +kernel
set_option maxHeartbeats 4000000 in
set_option maxRecDepth 100000 in
theorem ct_Matching_number (l : Launch) (dC : Nat → ClassId) (dI : Nat → Nat → Nat) (cyB cyI cyJ cyZ : ClassId) (aq aq_fitting aq_waysOf : Nat) (sz : Nat) (q_claims : Int32) (q_fitting : Nat → Int32) (q_waysOf : Nat → Int64) (Q : Int → (Int → Int) → Prop) : Met l yX5_number wsX5_number rmX5_number (va_Pc [.ref aq] (cPre (dC, dI) vwCl (tyS cyB cyI cyJ cyZ) [(aq, .inr (5, [.ref aq_fitting, .ref aq_waysOf, .int q_claims])), (aq_fitting, .inl (cyI, 6, .inl q_fitting)), (aq_waysOf, .inl (cyJ, 64, .inr (.inl q_waysOf)))] sz (nf_Matching_number q_claims.toInt (aI 6 q_fitting) (aL 64 q_waysOf)  Q))) (va_Ql (fun (r : Int64) (u : (Nat → Int64)) => Q r.toInt (aL 64 u)) (cPost (dC, dI) vwCl (fun u : (Nat → Int64) => [(aq, .inr (5, [.ref aq_fitting, .ref aq_waysOf, .int q_claims])), (aq_fitting, .inl (cyI, 6, .inl q_fitting)), (aq_waysOf, .inl (cyJ, 64, .inr (.inl (u))))]) (va_A [(aq, .inr (5, [.ref aq_fitting, .ref aq_waysOf, .int q_claims])), (aq_fitting, .inl (cyI, 6, .inl q_fitting)), (aq_waysOf, .inl (cyJ, 64, .inr (.inl q_waysOf)))] sz)) (va_A [(aq, .inr (5, [.ref aq_fitting, .ref aq_waysOf, .int q_claims])), (aq_fitting, .inl (cyI, 6, .inl q_fitting)), (aq_waysOf, .inl (cyJ, 64, .inr (.inl q_waysOf)))] sz)) 0 0 (va_A [(aq, .inr (5, [.ref aq_fitting, .ref aq_waysOf, .int q_claims])), (aq_fitting, .inl (cyI, 6, .inl q_fitting)), (aq_waysOf, .inl (cyJ, 64, .inr (.inl q_waysOf)))] sz) := by
  refine Met.ofW (cc := cX5_number) (maxL := 5) (ret := (some .long)) (by decide) rfl ?_
  intro p e s m args below meth c s₁ B hml hv
  obtain ⟨rfl, hsz, hP, hK, hD0, hNw, hw⟩ := hv
  have hx := B.exec
  have hb := B.bytes
  have hr := B.returns
  have hts := atoms_spec (ws := wsX5_number) B.pre
  have hown : s.vm.findClass RX5 = some m.cls := findClass_of_methodNamed B.named
  have hlocks := B.notSynchronized
  subst hsz
  have hD := hD0.self (sz := s.heap.size)
  generalize hAe : va_A [(aq, .inr (5, [.ref aq_fitting, .ref aq_waysOf, .int q_claims])), (aq_fitting, .inl (cyI, 6, .inl q_fitting)), (aq_waysOf, .inl (cyJ, 64, .inr (.inl q_waysOf)))] s.heap.size = A at hD ⊢
  have hA : ∀ q : Nat, s.heap.size ≤ q → A q := fun q h => by rw [← hAe]; exact Or.inr h
  have hS : va_S A s.heap s.heap [] := va_S.rf
  have hl := lv_entry ([.ref aq]) (n := 5) (Nat.le_of_ble_eq_true rfl)
  rw [lg_entry_eq]
  generalize (lg_sl ([.ref aq]) ++ List.replicate (5 - (lg_sl ([.ref aq])).length) Slot.unset).toArray = ls at hl ⊢
  have hl : lv_has ls 5 [(0, .ref aq)] := hl
  refine gx_q (fun Q9 hQ => ?_)
  unfold nf_Matching_number at hw
  have hi_X5 : ∀ w ∈ wsX50, w ∈ wsX5_number := (sub_c (nq_m (n := 9) rfl) (sub_c (nq_m (n := 10) rfl) (sub_c (nq_m (n := 11) rfl) sub_n)))
  have hf19 : (Cond.fieldLink RX5 19 "CoatsHall$Matching" (TX5 2).2.1 (TX5 2).2.2.1).before ([.ref aq] : List Value).toArray s = true := hts (.fieldLink RX5 19 "CoatsHall$Matching" "claims" "I") (nq_m (n := 1) rfl)
  have hf15 : (Cond.fieldLink RX5 15 "CoatsHall$Matching" (TX5 1).2.1 (TX5 1).2.2.1).before ([.ref aq] : List Value).toArray s = true := hts (.fieldLink RX5 15 "CoatsHall$Matching" "waysOf" "[J") (nq_m (n := 3) rfl)
  have hf9 : (Cond.fieldLink RX5 9 "CoatsHall$Matching" (TX5 0).2.1 (TX5 0).2.2.1).before ([.ref aq] : List Value).toArray s = true := hts (.fieldLink RX5 9 "CoatsHall$Matching" "fitting" "[I") (nq_m (n := 2) rfl)
  refine lv_iconst (v := (1 : Int32)) hx hb (nq_d dX5_number_0_g (n := 0) rfl) (by decide) ?_
  refine lv_aload_n hx hb (nq_d dX5_number_0_g (n := 1) rfl) rfl (lv_at hl 0 rfl) ?_
  refine va_get (D := (dC, dI)) (ci := 5) (v := .int q_claims) (C := RX5) (T := TX5) (N := 3) hx hb hts hi_X5 hown hK hP 0 rfl rfl 2 (by decide) hf19 (fun _ h9 => h9) rfl (nq_d dX5_number_0_g (n := 2) rfl) ?_
  refine gx_ishl hx hb (nq_d dX5_number_0_g (n := 3) rfl) hw (fun v1 hw => ?_)
  refine lv_iconst (v := (1 : Int32)) hx hb (nq_d dX5_number_0_g (n := 4) rfl) (by decide) ?_
  refine gx_isub hx hb (nq_d dX5_number_0_g (n := 5) rfl) hw (fun v2 hw => ?_)
  refine lv_istore_n (lv' := [(1, .int v2), (0, .ref aq)]) hx hb (nq_d dX5_number_0_g (n := 6) rfl) rfl hl (by decide) rfl (fun ls hl => ?_)
  refine lv_iconst (v := (0 : Int32)) hx hb (nq_d dX5_number_0_g (n := 7) rfl) (by decide) ?_
  refine lv_istore_n (lv' := [(2, .int (0 : Int32)), (1, .int v2), (0, .ref aq)]) hx hb (nq_d dX5_number_0_g (n := 8) rfl) rfl hl (by decide) rfl (fun ls hl => ?_)
  refine lv_iconst (v := (0 : Int32)) hx hb (nq_d dX5_number_0_g (n := 9) rfl) (by decide) ?_
  refine lv_istore_n (lv' := [(3, .int (0 : Int32)), (2, .int (0 : Int32)), (1, .int v2), (0, .ref aq)]) hx hb (nq_d dX5_number_0_g (n := 10) rfl) rfl hl (by decide) rfl (fun ls hl => ?_)
  refine nlp2_el hw (fun X0_28 X1_28 => ∀ (l2_3 : Int32) (l3_4 : Int32), X0_28 = l2_3.toInt → X1_28 = l3_4.toInt → ∀ (H : Heap) (locs : List Loc) (ls : Array Slot), va_P (dC, dI) vwCl [(aq, .inr (5, [.ref aq_fitting, .ref aq_waysOf, .int q_claims])), (aq_fitting, .inl (cyI, 6, .inl q_fitting)), (aq_waysOf, .inl (cyJ, 64, .inr (.inl q_waysOf)))] H → va_D A [(aq, .inr (5, [.ref aq_fitting, .ref aq_waysOf, .int q_claims])), (aq_fitting, .inl (cyI, 6, .inl q_fitting)), (aq_waysOf, .inl (cyJ, 64, .inr (.inl q_waysOf)))] → va_S A s.heap H locs → lv_has ls 5 [(0, .ref aq), (1, .int v2), (2, .int l2_3), (3, .int l3_4)] → W p l e (headSpec wsX5_number rmX5_number).room s m ([.ref aq] : List Value).toArray below meth c H locs 0 0 Q9 (F0 m 13 ls [])) (fun self5 hPself5 X0_28 X1_28 hw l2_3 l3_4 eX0_28 eX1_28 H locs ls hP hD hS hl => ?_) (0 : Int32) (0 : Int32) rfl rfl _ _ _ hP hD hS (lv_sub hl [3, 2, 1, 0] rfl)
  subst eX0_28
  subst eX1_28
  refine lv_iload_n hx hb (nq_d dX5_number_0_g (n := 11) rfl) rfl (lv_at hl 3 rfl) ?_
  refine lv_aload_n hx hb (nq_d dX5_number_0_g (n := 12) rfl) rfl (lv_at hl 0 rfl) ?_
  refine va_get (D := (dC, dI)) (ci := 5) (v := .int q_claims) (C := RX5) (T := TX5) (N := 3) hx hb hts hi_X5 hown hK hP 0 rfl rfl 2 (by decide) hf19 (fun _ h9 => h9) rfl (nq_d dX5_number_0_g (n := 13) rfl) ?_
  refine gx_icmp_ge (tgt := 36) hx hb (nq_d dX5_number_0_g (n := 14) rfl) (by decide) hw (fun hw => ?_) (fun hw => ?_)
  · refine lv_iconst (v := (0 : Int32)) hx hb (nq_d dX5_number_0_g (n := 24) rfl) (by decide) ?_
    refine lv_istore_n (lv' := [(3, .int (0 : Int32)), (0, .ref aq), (1, .int v2), (2, .int l2_3)]) hx hb (nq_d dX5_number_0_g (n := 25) rfl) rfl hl (by decide) rfl (fun ls hl => ?_)
    refine nlp2_el hw (fun X0_25 X1_25 => ∀ (l3_6 : Int32) (z7 : (Nat → Int64)), X0_25 = l3_6.toInt → X1_25 = (aL 64 z7) → ∀ (H : Heap) (locs : List Loc) (ls : Array Slot), va_P (dC, dI) vwCl [(aq, .inr (5, [.ref aq_fitting, .ref aq_waysOf, .int q_claims])), (aq_fitting, .inl (cyI, 6, .inl q_fitting)), (aq_waysOf, .inl (cyJ, 64, .inr (.inl z7)))] H → va_D A [(aq, .inr (5, [.ref aq_fitting, .ref aq_waysOf, .int q_claims])), (aq_fitting, .inl (cyI, 6, .inl q_fitting)), (aq_waysOf, .inl (cyJ, 64, .inr (.inl z7)))] → va_S A s.heap H locs → lv_has ls 5 [(0, .ref aq), (1, .int v2), (2, .int l2_3), (3, .int l3_6)] → W p l e (headSpec wsX5_number rmX5_number).room s m ([.ref aq] : List Value).toArray below meth c H locs 0 0 Q9 (F0 m 38 ls [])) (fun self8 hPself8 X0_25 X1_25 hw l3_6 z7 eX0_25 eX1_25 H locs ls hP hD hS hl => ?_) (0 : Int32) q_waysOf rfl rfl _ _ _ hP hD hS (lv_sub hl [1, 2, 3, 0] rfl)
    subst eX0_25
    subst eX1_25
    refine lv_iload_n hx hb (nq_d dX5_number_0_g (n := 26) rfl) rfl (lv_at hl 3 rfl) ?_
    refine lv_iload_n hx hb (nq_d dX5_number_0_g (n := 27) rfl) rfl (lv_at hl 1 rfl) ?_
    refine gx_icmp_gt (tgt := 56) hx hb (nq_d dX5_number_0_g (n := 28) rfl) (by decide) hw (fun hw => ?_) (fun hw => ?_)
    · refine lv_aload_n hx hb (nq_d dX5_number_0_g (n := 36) rfl) rfl (lv_at hl 0 rfl) ?_
      refine va_get (D := (dC, dI)) (ci := 5) (v := .ref aq_waysOf) (C := RX5) (T := TX5) (N := 3) hx hb hts hi_X5 hown hK hP 0 rfl rfl 1 (by decide) hf15 (fun _ h9 => h9) rfl (nq_d dX5_number_0_g (n := 37) rfl) ?_
      refine lv_iconst (v := (0 : Int32)) hx hb (nq_d dX5_number_0_g (n := 38) rfl) (by decide) ?_
      refine lv_lconst (v := (1 : Int64)) hx hb (nq_d dX5_number_0_g (n := 39) rfl) (by decide) ?_
      refine gx_last hx hb hK hP hD hS 2 2 rfl rfl (nq_d dX5_number_62_g (n := 0) rfl) (fun f9 => [(aq, .inr (5, [.ref aq_fitting, .ref aq_waysOf, .int q_claims])), (aq_fitting, .inl (cyI, 6, .inl q_fitting)), (aq_waysOf, .inl (cyJ, 64, .inr (.inl f9)))]) (fun _ => rfl) hw (fun f9 H locs hw hP hD hS => ?_)
      refine lv_iconst (v := (0 : Int32)) hx hb (nq_d dX5_number_62_g (n := 1) rfl) (by decide) ?_
      refine lv_istore_n (lv' := [(3, .int (0 : Int32)), (0, .ref aq), (1, .int v2), (2, .int l2_3)]) hx hb (nq_d dX5_number_62_g (n := 2) rfl) rfl hl (by decide) rfl (fun ls hl => ?_)
      refine nlp2_el hw (fun X0_23 X1_23 => ∀ (l3_10 : Int32) (z11 : (Nat → Int64)), X0_23 = l3_10.toInt → X1_23 = (aL 64 z11) → ∀ (H : Heap) (locs : List Loc) (ls : Array Slot), va_P (dC, dI) vwCl [(aq, .inr (5, [.ref aq_fitting, .ref aq_waysOf, .int q_claims])), (aq_fitting, .inl (cyI, 6, .inl q_fitting)), (aq_waysOf, .inl (cyJ, 64, .inr (.inl z11)))] H → va_D A [(aq, .inr (5, [.ref aq_fitting, .ref aq_waysOf, .int q_claims])), (aq_fitting, .inl (cyI, 6, .inl q_fitting)), (aq_waysOf, .inl (cyJ, 64, .inr (.inl z11)))] → va_S A s.heap H locs → lv_has ls 5 [(0, .ref aq), (1, .int v2), (2, .int l2_3), (3, .int l3_10)] → W p l e (headSpec wsX5_number rmX5_number).room s m ([.ref aq] : List Value).toArray below meth c H locs 0 0 Q9 (F0 m 65 ls [])) (fun self12 hPself12 X0_23 X1_23 hw l3_10 z11 eX0_23 eX1_23 H locs ls hP hD hS hl => ?_) (0 : Int32) f9 rfl rfl _ _ _ hP hD hS (lv_sub hl [1, 2, 3, 0] rfl)
      subst eX0_23
      subst eX1_23
      refine lv_iload_n hx hb (nq_d dX5_number_62_g (n := 3) rfl) rfl (lv_at hl 3 rfl) ?_
      refine lv_bipush (v := (16 : Int32)) hx hb (nq_d dX5_number_62_g (n := 4) rfl) (by decide) ?_
      refine gx_icmp_ge (tgt := 109) hx hb (nq_d dX5_number_62_g (n := 5) rfl) (by decide) hw (fun hw => ?_) (fun hw => ?_)
      · refine lv_aload_n hx hb (nq_d dX5_number_62_g (n := 25) rfl) rfl (lv_at hl 0 rfl) ?_
        refine va_get (D := (dC, dI)) (ci := 5) (v := .ref aq_waysOf) (C := RX5) (T := TX5) (N := 3) hx hb hts hi_X5 hown hK hP 0 rfl rfl 1 (by decide) hf15 (fun _ h9 => h9) rfl (nq_d dX5_number_62_g (n := 26) rfl) ?_
        refine lv_iload_n hx hb (nq_d dX5_number_62_g (n := 27) rfl) rfl (lv_at hl 1 rfl) ?_
        refine gx_lald hx hb hK hP 2 2 rfl rfl (nq_d dX5_number_62_g (n := 28) rfl) hw (fun v13 hw => ?_)
        exact rt_l (A1 := A) hQ hx hb hr hlocks hP hD hS z11 [0, 1, 2] rfl (by decide +kernel) hw (nq_d dX5_number_62_g (n := 29) rfl)
      · refine lv_iload_n hx hb (nq_d dX5_number_62_g (n := 6) rfl) rfl (lv_at hl 2 rfl) ?_
        refine lv_iload_n hx hb (nq_d dX5_number_62_g (n := 7) rfl) rfl (lv_at hl 3 rfl) ?_
        refine gx_ishr hx hb (nq_d dX5_number_62_g (n := 8) rfl) hw (fun v14 hw => ?_)
        refine lv_iconst (v := (1 : Int32)) hx hb (nq_d dX5_number_62_g (n := 9) rfl) (by decide) ?_
        refine gx_iand hx hb (nq_d dX5_number_62_g (n := 10) rfl) hw (fun v15 hw => ?_)
        refine jn1_el hw (fun j17 hj17 hw => ?_)
        have Jj17 : ∀ (z16 : (Nat → Int64)) (H : Heap) (locs : List Loc) (ls : Array Slot), va_P (dC, dI) vwCl [(aq, .inr (5, [.ref aq_fitting, .ref aq_waysOf, .int q_claims])), (aq_fitting, .inl (cyI, 6, .inl q_fitting)), (aq_waysOf, .inl (cyJ, 64, .inr (.inl z16)))] H → va_D A [(aq, .inr (5, [.ref aq_fitting, .ref aq_waysOf, .int q_claims])), (aq_fitting, .inl (cyI, 6, .inl q_fitting)), (aq_waysOf, .inl (cyJ, 64, .inr (.inl z16)))] → va_S A s.heap H locs → lv_has ls 5 [(0, .ref aq), (1, .int v2), (2, .int l2_3), (3, .int l3_10)] → j17 (aL 64 z16) → W p l e (headSpec wsX5_number rmX5_number).room s m ([.ref aq] : List Value).toArray below meth c H locs 0 0 Q9 (F0 m 103 ls []) := by
          intro z16 H locs ls hP hD hS hl hw
          have hw := hj17 _ hw
          refine gx_iinc (k := 3) (z := (1 : Int32)) (lv' := fun v18 => [(3, .int v18), (0, .ref aq), (1, .int v2), (2, .int l2_3)]) hx hb (nq_d dX5_number_62_g (n := 23) rfl) hl rfl (by decide) (by decide) (fun _ => rfl) hw (fun v18 ls hw hl => ?_)
          refine lv_goto (tgt := 65) hx hb (nq_d dX5_number_62_g (n := 24) rfl) (by decide) ?_
          exact hPself12 _ _ hw v18 z16 rfl rfl _ _ _ hP hD hS (lv_sub hl [1, 2, 3, 0] rfl)
        refine gx_if_ne (tgt := 82) hx hb (nq_d dX5_number_62_g (n := 11) rfl) (by decide) hw (fun hw => ?_) (fun hw => ?_)
        · refine lv_iload_n hx hb (nq_d dX5_number_62_g (n := 13) rfl) rfl (lv_at hl 1 rfl) ?_
          refine lv_istore (lv' := [(4, .int v2), (0, .ref aq), (1, .int v2), (2, .int l2_3), (3, .int l3_10)]) hx hb (nq_d dX5_number_62_g (n := 14) rfl) hl (by decide) rfl (fun ls hl => ?_)
          refine nlp2_el hw (fun X0_23 X1_23 => ∀ (l4_19 : Int32) (z20 : (Nat → Int64)), X0_23 = l4_19.toInt → X1_23 = (aL 64 z20) → ∀ (H : Heap) (locs : List Loc) (ls : Array Slot), va_P (dC, dI) vwCl [(aq, .inr (5, [.ref aq_fitting, .ref aq_waysOf, .int q_claims])), (aq_fitting, .inl (cyI, 6, .inl q_fitting)), (aq_waysOf, .inl (cyJ, 64, .inr (.inl z20)))] H → va_D A [(aq, .inr (5, [.ref aq_fitting, .ref aq_waysOf, .int q_claims])), (aq_fitting, .inl (cyI, 6, .inl q_fitting)), (aq_waysOf, .inl (cyJ, 64, .inr (.inl z20)))] → va_S A s.heap H locs → lv_has ls 5 [(0, .ref aq), (1, .int v2), (2, .int l2_3), (3, .int l3_10), (4, .int l4_19)] → W p l e (headSpec wsX5_number rmX5_number).room s m ([.ref aq] : List Value).toArray below meth c H locs 0 0 Q9 (F0 m 85 ls [])) (fun self21 hPself21 X0_23 X1_23 hw l4_19 z20 eX0_23 eX1_23 H locs ls hP hD hS hl => ?_) v2 z11 rfl rfl _ _ _ hP hD hS (lv_sub hl [1, 2, 3, 4, 0] rfl)
          subst eX0_23
          subst eX1_23
          refine lv_iload hx hb (nq_d dX5_number_62_g (n := 15) rfl) (lv_at hl 4 rfl) ?_
          refine gx_if_le (tgt := 103) hx hb (nq_d dX5_number_62_g (n := 16) rfl) (by decide) hw (fun hw => ?_) (fun hw => ?_)
          · exact Jj17 z20 _ _ _ hP hD hS (lv_sub hl [0, 1, 2, 3] rfl) hw
          · refine lv_aload_n hx hb (nq_d dX5_number_62_g (n := 17) rfl) rfl (lv_at hl 0 rfl) ?_
            refine lv_iload hx hb (nq_d dX5_number_62_g (n := 18) rfl) (lv_at hl 4 rfl) ?_
            refine lv_iload_n hx hb (nq_d dX5_number_62_g (n := 19) rfl) rfl (lv_at hl 3 rfl) ?_
            refine gx_rv (wr := []) (va_runV (As := [.int l4_19, .int l3_10]) (rest := []) ⟨hx, hb, hml, hown, hts⟩ (ct_Matching_addWays l dC dI cyB cyI cyJ cyZ aq aq_fitting aq_waysOf _ q_claims q_fitting z20 l4_19 l3_10 _) (cwV 2 hts gX5_number_X5_addWays rfl rfl rfl cd_X5_addWays ⟨Nat.le_of_ble_eq_true rfl, Nat.le_of_ble_eq_true rfl⟩) (gx_preV hK hP hD hNw [0, 1, 2] rfl (by decide +kernel) hw 0 (ci := 5) rfl rfl rfl) rfl rfl hl.1 rfl (lv_room (Nat.le_of_ble_eq_true rfl)) (nq_d dX5_number_62_g (n := 20) rfl) ⟨Nat.zero_le _, Nat.zero_le _⟩) hP hD hS hA [0, 1, 2] [] [0, 1, 2] rfl rfl (by decide) (by decide) (by decide) (fun u => [(aq, .inr (5, [.ref aq_fitting, .ref aq_waysOf, .int q_claims])), (aq_fitting, .inl (cyI, 6, .inl q_fitting)), (aq_waysOf, .inl (cyJ, 64, .inr (.inl u)))]) (fun _ => rfl) (fun u H locs hw hP hD hS => ?_)
            obtain ⟨f22, rfl⟩ : ∃ z, z = u := ⟨_, rfl⟩
            try dsimp only at hw hP hD
            refine gx_iinc (k := 4) (z := ((-1) : Int32)) (lv' := fun v23 => [(4, .int v23), (0, .ref aq), (1, .int v2), (2, .int l2_3), (3, .int l3_10)]) hx hb (nq_d dX5_number_62_g (n := 21) rfl) hl rfl (by decide) (by decide) (fun _ => rfl) hw (fun v23 ls hw hl => ?_)
            refine lv_goto (tgt := 85) hx hb (nq_d dX5_number_62_g (n := 22) rfl) (by decide) ?_
            exact hPself21 _ _ hw v23 f22 rfl rfl _ _ _ hP hD hS (lv_sub hl [1, 2, 3, 4, 0] rfl)
        · refine lv_goto (tgt := 103) hx hb (nq_d dX5_number_62_g (n := 12) rfl) (by decide) ?_
          exact Jj17 z11 _ _ _ hP hD hS (lv_sub hl [0, 1, 2, 3] rfl) hw
    · refine lv_aload_n hx hb (nq_d dX5_number_0_g (n := 29) rfl) rfl (lv_at hl 0 rfl) ?_
      refine va_get (D := (dC, dI)) (ci := 5) (v := .ref aq_waysOf) (C := RX5) (T := TX5) (N := 3) hx hb hts hi_X5 hown hK hP 0 rfl rfl 1 (by decide) hf15 (fun _ h9 => h9) rfl (nq_d dX5_number_0_g (n := 30) rfl) ?_
      refine lv_iload_n hx hb (nq_d dX5_number_0_g (n := 31) rfl) rfl (lv_at hl 3 rfl) ?_
      refine lv_lconst (v := (0 : Int64)) hx hb (nq_d dX5_number_0_g (n := 32) rfl) (by decide) ?_
      refine gx_last hx hb hK hP hD hS 2 2 rfl rfl (nq_d dX5_number_0_g (n := 33) rfl) (fun f24 => [(aq, .inr (5, [.ref aq_fitting, .ref aq_waysOf, .int q_claims])), (aq_fitting, .inl (cyI, 6, .inl q_fitting)), (aq_waysOf, .inl (cyJ, 64, .inr (.inl f24)))]) (fun _ => rfl) hw (fun f24 H locs hw hP hD hS => ?_)
      refine gx_iinc (k := 3) (z := (1 : Int32)) (lv' := fun v25 => [(3, .int v25), (0, .ref aq), (1, .int v2), (2, .int l2_3)]) hx hb (nq_d dX5_number_0_g (n := 34) rfl) hl rfl (by decide) (by decide) (fun _ => rfl) hw (fun v25 ls hw hl => ?_)
      refine lv_goto (tgt := 38) hx hb (nq_d dX5_number_0_g (n := 35) rfl) (by decide) ?_
      exact hPself8 _ _ hw v25 f24 rfl rfl _ _ _ hP hD hS (lv_sub hl [1, 2, 3, 0] rfl)
  · refine lv_iload_n hx hb (nq_d dX5_number_0_g (n := 15) rfl) rfl (lv_at hl 2 rfl) ?_
    refine lv_aload_n hx hb (nq_d dX5_number_0_g (n := 16) rfl) rfl (lv_at hl 0 rfl) ?_
    refine va_get (D := (dC, dI)) (ci := 5) (v := .ref aq_fitting) (C := RX5) (T := TX5) (N := 3) hx hb hts hi_X5 hown hK hP 0 rfl rfl 0 (by decide) hf9 (fun _ h9 => h9) rfl (nq_d dX5_number_0_g (n := 17) rfl) ?_
    refine lv_iload_n hx hb (nq_d dX5_number_0_g (n := 18) rfl) rfl (lv_at hl 3 rfl) ?_
    refine gx_iald hx hb hK hP 1 1 rfl rfl (nq_d dX5_number_0_g (n := 19) rfl) hw (fun v26 hw => ?_)
    refine gx_ior hx hb (nq_d dX5_number_0_g (n := 20) rfl) hw (fun v27 hw => ?_)
    refine lv_istore_n (lv' := [(2, .int v27), (0, .ref aq), (1, .int v2), (3, .int l3_4)]) hx hb (nq_d dX5_number_0_g (n := 21) rfl) rfl hl (by decide) rfl (fun ls hl => ?_)
    refine gx_iinc (k := 3) (z := (1 : Int32)) (lv' := fun v28 => [(3, .int v28), (2, .int v27), (0, .ref aq), (1, .int v2)]) hx hb (nq_d dX5_number_0_g (n := 22) rfl) hl rfl (by decide) (by decide) (fun _ => rfl) hw (fun v28 ls hw hl => ?_)
    refine lv_goto (tgt := 13) hx hb (nq_d dX5_number_0_g (n := 23) rfl) (by decide) ?_
    exact hPself5 _ _ hw v27 v28 rfl rfl _ _ _ hP hD hS (lv_sub hl [2, 3, 1, 0] rfl)
abbrev rmX5_onlyThingOf : Room := { frames := 2, cells := 0, slots := 0, locals := 48 }
theorem cd_X5_onlyThingOf : yX5_onlyThingOf.cls = RX5 ∧ yX5_onlyThingOf.cls ≠ "java/lang/invoke/MethodHandle" ∧ yX5_onlyThingOf.cls ≠ "java/lang/invoke/VarHandle" ∧ (parseMethodDescriptor yX5_onlyThingOf.desc).map (fun d => d.parameters.length) = some 1 := by decide +kernel
set_option maxHeartbeats 4000000 in
set_option maxRecDepth 100000 in
theorem ct_Matching_onlyThingOf (l : Launch) (dC : Nat → ClassId) (dI : Nat → Nat → Nat) (cyB cyI cyJ cyZ : ClassId) (aq aq_fitting aq_waysOf : Nat) (sz : Nat) (q_claims : Int32) (q_fitting : Nat → Int32) (q_waysOf : Nat → Int64) (x1 : Int32) (Q : Int → (Int → Int) → (Int → Int) → Prop) : Met l yX5_onlyThingOf wsX5_onlyThingOf rmX5_onlyThingOf (va_Pc [.ref aq, .int x1] (cPre (dC, dI) vwCl (tyS cyB cyI cyJ cyZ) [(aq, .inr (5, [.ref aq_fitting, .ref aq_waysOf, .int q_claims])), (aq_fitting, .inl (cyI, 6, .inl q_fitting)), (aq_waysOf, .inl (cyJ, 64, .inr (.inl q_waysOf)))] sz (nf_Matching_onlyThingOf q_claims.toInt (aI 6 q_fitting) (aL 64 q_waysOf) x1.toInt Q))) (va_Qi (fun (r : Int32) (u : (Nat → Int32) × (Nat → Int64)) => Q r.toInt (aI 6 (u.1)) (aL 64 (u.2))) (cPost (dC, dI) vwCl (fun u : (Nat → Int32) × (Nat → Int64) => [(aq, .inr (5, [.ref aq_fitting, .ref aq_waysOf, .int q_claims])), (aq_fitting, .inl (cyI, 6, .inl (u.1))), (aq_waysOf, .inl (cyJ, 64, .inr (.inl (u.2))))]) (va_A [(aq, .inr (5, [.ref aq_fitting, .ref aq_waysOf, .int q_claims])), (aq_fitting, .inl (cyI, 6, .inl q_fitting)), (aq_waysOf, .inl (cyJ, 64, .inr (.inl q_waysOf)))] sz)) (va_A [(aq, .inr (5, [.ref aq_fitting, .ref aq_waysOf, .int q_claims])), (aq_fitting, .inl (cyI, 6, .inl q_fitting)), (aq_waysOf, .inl (cyJ, 64, .inr (.inl q_waysOf)))] sz)) 0 0 (va_A [(aq, .inr (5, [.ref aq_fitting, .ref aq_waysOf, .int q_claims])), (aq_fitting, .inl (cyI, 6, .inl q_fitting)), (aq_waysOf, .inl (cyJ, 64, .inr (.inl q_waysOf)))] sz) := by
  refine Met.ofW (cc := cX5_onlyThingOf) (maxL := 5) (ret := (some .int)) (by decide) rfl ?_
  intro p e s m args below meth c s₁ B hml hv
  obtain ⟨rfl, hsz, hP, hK, hD0, hNw, hw⟩ := hv
  have hx := B.exec
  have hb := B.bytes
  have hr := B.returns
  have hts := atoms_spec (ws := wsX5_onlyThingOf) B.pre
  have hown : s.vm.findClass RX5 = some m.cls := findClass_of_methodNamed B.named
  have hlocks := B.notSynchronized
  subst hsz
  have hD := hD0.self (sz := s.heap.size)
  generalize hAe : va_A [(aq, .inr (5, [.ref aq_fitting, .ref aq_waysOf, .int q_claims])), (aq_fitting, .inl (cyI, 6, .inl q_fitting)), (aq_waysOf, .inl (cyJ, 64, .inr (.inl q_waysOf)))] s.heap.size = A at hD ⊢
  have hA : ∀ q : Nat, s.heap.size ≤ q → A q := fun q h => by rw [← hAe]; exact Or.inr h
  have hS : va_S A s.heap s.heap [] := va_S.rf
  have hl := lv_entry ([.ref aq, .int x1]) (n := 5) (Nat.le_of_ble_eq_true rfl)
  rw [lg_entry_eq]
  generalize (lg_sl ([.ref aq, .int x1]) ++ List.replicate (5 - (lg_sl ([.ref aq, .int x1])).length) Slot.unset).toArray = ls at hl ⊢
  have hl : lv_has ls 5 [(0, .ref aq), (1, .int x1)] := hl
  refine gx_q (fun Q9 hQ => ?_)
  unfold nf_Matching_onlyThingOf at hw
  have hi_X5 : ∀ w ∈ wsX50, w ∈ wsX5_onlyThingOf := (sub_c (nq_m (n := 16) rfl) (sub_c (nq_m (n := 17) rfl) (sub_c (nq_m (n := 18) rfl) sub_n)))
  have hf19 : (Cond.fieldLink RX5 19 "CoatsHall$Matching" (TX5 2).2.1 (TX5 2).2.2.1).before ([.ref aq, .int x1] : List Value).toArray s = true := hts (.fieldLink RX5 19 "CoatsHall$Matching" "claims" "I") (nq_m (n := 1) rfl)
  have hf9 : (Cond.fieldLink RX5 9 "CoatsHall$Matching" (TX5 0).2.1 (TX5 0).2.2.1).before ([.ref aq, .int x1] : List Value).toArray s = true := hts (.fieldLink RX5 9 "CoatsHall$Matching" "fitting" "[I") (nq_m (n := 2) rfl)
  refine lv_iload_n hx hb (nq_d dX5_onlyThingOf_0_g (n := 0) rfl) rfl (lv_at hl 1 rfl) ?_
  refine lv_iconst (v := (0 : Int32)) hx hb (nq_d dX5_onlyThingOf_0_g (n := 1) rfl) (by decide) ?_
  refine lv_aload_n hx hb (nq_d dX5_onlyThingOf_0_g (n := 2) rfl) rfl (lv_at hl 0 rfl) ?_
  refine va_get (D := (dC, dI)) (ci := 5) (v := .int q_claims) (C := RX5) (T := TX5) (N := 3) hx hb hts hi_X5 hown hK hP 0 rfl rfl 2 (by decide) hf19 (fun _ h9 => h9) rfl (nq_d dX5_onlyThingOf_0_g (n := 3) rfl) ?_
  refine lv_iconst (v := (1 : Int32)) hx hb (nq_d dX5_onlyThingOf_0_g (n := 4) rfl) (by decide) ?_
  refine gx_isub hx hb (nq_d dX5_onlyThingOf_0_g (n := 5) rfl) hw (fun v1 hw => ?_)
  refine gx_ri (wr := [(aq, .inr (5, [.ref aq_fitting, .ref aq_waysOf, .int q_claims])), (aq_fitting, .inl (cyI, 6, .inl q_fitting)), (aq_waysOf, .inl (cyJ, 64, .inr (.inl q_waysOf)))]) (va_runSN (As := [.int x1, .int (0 : Int32), .int v1]) (rest := []) ⟨hx, hb, hml, hown, hts⟩ (ct_H_within l dC dI cyB cyI cyJ cyZ  _ x1 (0 : Int32) v1 _) ⟨va_cnB 3 hts gX5_onlyThingOf_X10_within_n42 rfl rfl rfl (nw_17 hNw) (hts (.initialized RX10) (nq_m (n := 4) rfl)) cd_X10_within.2 ⟨Nat.le_of_ble_eq_true rfl, Nat.le_of_ble_eq_true rfl⟩, hts (.static yX10_within) (nq_m (n := 3) rfl), trivial⟩ (gx_preS hK hP hD hNw [] rfl (by decide) hw) rfl rfl hl.1 rfl (lv_room (Nat.le_of_ble_eq_true rfl)) (nq_d dX5_onlyThingOf_0_g (n := 6) rfl) ⟨Nat.zero_le _, Nat.zero_le _⟩) hP hD hS hA [] [0, 1, 2] [0, 1, 2] rfl rfl (by decide) (by decide) (by decide) (fun _ => [(aq, .inr (5, [.ref aq_fitting, .ref aq_waysOf, .int q_claims])), (aq_fitting, .inl (cyI, 6, .inl q_fitting)), (aq_waysOf, .inl (cyJ, 64, .inr (.inl q_waysOf)))]) (fun _ => rfl) (fun r2 u H locs hw hP hD hS => ?_)
  try dsimp only at hw hP hD
  refine gx_if_ne (tgt := 16) hx hb (nq_d dX5_onlyThingOf_0_g (n := 7) rfl) (by decide) hw (fun hw => ?_) (fun hw => ?_)
  · refine lv_aload_n hx hb (nq_d dX5_onlyThingOf_0_g (n := 10) rfl) rfl (lv_at hl 0 rfl) ?_
    refine gx_rl (wr := []) (va_runV (As := []) (rest := []) ⟨hx, hb, hml, hown, hts⟩ (ct_Matching_number l dC dI cyB cyI cyJ cyZ aq aq_fitting aq_waysOf _ q_claims q_fitting q_waysOf _) (cwV 0 hts gX5_onlyThingOf_X5_number rfl rfl rfl cd_X5_number ⟨Nat.le_of_ble_eq_true rfl, Nat.le_of_ble_eq_true rfl⟩) (gx_preV hK hP hD hNw [0, 1, 2] rfl (by decide +kernel) hw 0 (ci := 5) rfl rfl rfl) rfl rfl hl.1 rfl (lv_room (Nat.le_of_ble_eq_true rfl)) (nq_d dX5_onlyThingOf_0_g (n := 11) rfl) ⟨Nat.zero_le _, Nat.zero_le _⟩) hP hD hS hA [0, 1, 2] [] [0, 1, 2] rfl rfl (by decide) (by decide) (by decide) (fun u => [(aq, .inr (5, [.ref aq_fitting, .ref aq_waysOf, .int q_claims])), (aq_fitting, .inl (cyI, 6, .inl q_fitting)), (aq_waysOf, .inl (cyJ, 64, .inr (.inl u)))]) (fun _ => rfl) (fun r4 u H locs hw hP hD hS => ?_)
    obtain ⟨f3, rfl⟩ : ∃ z, z = u := ⟨_, rfl⟩
    try dsimp only at hw hP hD
    refine lv_lconst (v := (0 : Int64)) hx hb (nq_d dX5_onlyThingOf_0_g (n := 12) rfl) (by decide) ?_
    refine gx_lcmp hx hb (nq_d dX5_onlyThingOf_0_g (n := 13) rfl) hw (fun v5 hw => ?_)
    refine gx_if_ne (tgt := 27) hx hb (nq_d dX5_onlyThingOf_0_g (n := 14) rfl) (by decide) hw (fun hw => ?_) (fun hw => ?_)
    · refine lv_aload_n hx hb (nq_d dX5_onlyThingOf_0_g (n := 17) rfl) rfl (lv_at hl 0 rfl) ?_
      refine va_get (D := (dC, dI)) (ci := 5) (v := .ref aq_fitting) (C := RX5) (T := TX5) (N := 3) hx hb hts hi_X5 hown hK hP 0 rfl rfl 0 (by decide) hf9 (fun _ h9 => h9) rfl (nq_d dX5_onlyThingOf_0_g (n := 18) rfl) ?_
      refine lv_iload_n hx hb (nq_d dX5_onlyThingOf_0_g (n := 19) rfl) rfl (lv_at hl 1 rfl) ?_
      refine gx_iald hx hb hK hP 1 1 rfl rfl (nq_d dX5_onlyThingOf_0_g (n := 20) rfl) hw (fun v6 hw => ?_)
      refine lv_istore_n (lv' := [(2, .int v6), (0, .ref aq), (1, .int x1)]) hx hb (nq_d dX5_onlyThingOf_0_g (n := 21) rfl) rfl hl (by decide) rfl (fun ls hl => ?_)
      refine lv_iconst (v := ((-1) : Int32)) hx hb (nq_d dX5_onlyThingOf_0_g (n := 22) rfl) (by decide) ?_
      refine lv_istore_n (lv' := [(3, .int ((-1) : Int32)), (2, .int v6), (0, .ref aq), (1, .int x1)]) hx hb (nq_d dX5_onlyThingOf_0_g (n := 23) rfl) rfl hl (by decide) rfl (fun ls hl => ?_)
      refine lv_iconst (v := (0 : Int32)) hx hb (nq_d dX5_onlyThingOf_0_g (n := 24) rfl) (by decide) ?_
      refine lv_istore (lv' := [(4, .int (0 : Int32)), (3, .int ((-1) : Int32)), (2, .int v6), (0, .ref aq), (1, .int x1)]) hx hb (nq_d dX5_onlyThingOf_0_g (n := 25) rfl) hl (by decide) rfl (fun ls hl => ?_)
      refine nlp4_el hw (fun X0_23 X1_23 X2_23 X3_23 => ∀ (l3_7 : Int32) (l4_8 : Int32) (z9 : (Nat → Int32)) (z10 : (Nat → Int64)), X0_23 = l3_7.toInt → X1_23 = l4_8.toInt → X2_23 = (aI 6 z9) → X3_23 = (aL 64 z10) → ∀ (H : Heap) (locs : List Loc) (ls : Array Slot), va_P (dC, dI) vwCl [(aq, .inr (5, [.ref aq_fitting, .ref aq_waysOf, .int q_claims])), (aq_fitting, .inl (cyI, 6, .inl z9)), (aq_waysOf, .inl (cyJ, 64, .inr (.inl z10)))] H → va_D A [(aq, .inr (5, [.ref aq_fitting, .ref aq_waysOf, .int q_claims])), (aq_fitting, .inl (cyI, 6, .inl z9)), (aq_waysOf, .inl (cyJ, 64, .inr (.inl z10)))] → va_S A s.heap H locs → lv_has ls 5 [(0, .ref aq), (1, .int x1), (2, .int v6), (3, .int l3_7), (4, .int l4_8)] → W p l e (headSpec wsX5_onlyThingOf rmX5_onlyThingOf).room s m ([.ref aq, .int x1] : List Value).toArray below meth c H locs 0 0 Q9 (F0 m 39 ls [])) (fun self11 hPself11 X0_23 X1_23 X2_23 X3_23 hw l3_7 l4_8 z9 z10 eX0_23 eX1_23 eX2_23 eX3_23 H locs ls hP hD hS hl => ?_) ((-1) : Int32) (0 : Int32) q_fitting f3 rfl rfl rfl rfl _ _ _ hP hD hS (lv_sub hl [3, 4, 2, 1, 0] rfl)
      subst eX0_23
      subst eX1_23
      subst eX2_23
      subst eX3_23
      refine lv_iload hx hb (nq_d dX5_onlyThingOf_0_g (n := 26) rfl) (lv_at hl 4 rfl) ?_
      refine lv_bipush (v := (16 : Int32)) hx hb (nq_d dX5_onlyThingOf_0_g (n := 27) rfl) (by decide) ?_
      refine gx_icmp_ge (tgt := 96) hx hb (nq_d dX5_onlyThingOf_0_g (n := 28) rfl) (by decide) hw (fun hw => ?_) (fun hw => ?_)
      · refine lv_iload_n hx hb (nq_d dX5_onlyThingOf_64_g (n := 18) rfl) rfl (lv_at hl 3 rfl) ?_
        exact rt_i (A1 := A) hQ hx hb hr hlocks hP hD hS (z9, z10) [0, 1, 2] rfl (by decide +kernel) hw (nq_d dX5_onlyThingOf_64_g (n := 19) rfl)
      · refine lv_iload_n hx hb (nq_d dX5_onlyThingOf_0_g (n := 29) rfl) rfl (lv_at hl 2 rfl) ?_
        refine lv_iload hx hb (nq_d dX5_onlyThingOf_0_g (n := 30) rfl) (lv_at hl 4 rfl) ?_
        refine gx_ishr hx hb (nq_d dX5_onlyThingOf_0_g (n := 31) rfl) hw (fun v12 hw => ?_)
        refine lv_iconst (v := (1 : Int32)) hx hb (nq_d dX5_onlyThingOf_0_g (n := 32) rfl) (by decide) ?_
        refine gx_iand hx hb (nq_d dX5_onlyThingOf_0_g (n := 33) rfl) hw (fun v13 hw => ?_)
        refine jn3_el hw (fun j17 hj17 hw => ?_)
        have Jj17 : ∀ (l3_14 : Int32) (z15 : (Nat → Int32)) (z16 : (Nat → Int64)) (H : Heap) (locs : List Loc) (ls : Array Slot), va_P (dC, dI) vwCl [(aq, .inr (5, [.ref aq_fitting, .ref aq_waysOf, .int q_claims])), (aq_fitting, .inl (cyI, 6, .inl z15)), (aq_waysOf, .inl (cyJ, 64, .inr (.inl z16)))] H → va_D A [(aq, .inr (5, [.ref aq_fitting, .ref aq_waysOf, .int q_claims])), (aq_fitting, .inl (cyI, 6, .inl z15)), (aq_waysOf, .inl (cyJ, 64, .inr (.inl z16)))] → va_S A s.heap H locs → lv_has ls 5 [(0, .ref aq), (1, .int x1), (2, .int v6), (3, .int l3_14), (4, .int l4_8)] → j17 l3_14.toInt (aI 6 z15) (aL 64 z16) → W p l e (headSpec wsX5_onlyThingOf rmX5_onlyThingOf).room s m ([.ref aq, .int x1] : List Value).toArray below meth c H locs 0 0 Q9 (F0 m 90 ls []) := by
          intro l3_14 z15 z16 H locs ls hP hD hS hl hw
          have hw := hj17 _ _ _ hw
          refine gx_iinc (k := 4) (z := (1 : Int32)) (lv' := fun v18 => [(4, .int v18), (0, .ref aq), (1, .int x1), (2, .int v6), (3, .int l3_14)]) hx hb (nq_d dX5_onlyThingOf_64_g (n := 16) rfl) hl rfl (by decide) (by decide) (fun _ => rfl) hw (fun v18 ls hw hl => ?_)
          refine lv_goto (tgt := 39) hx hb (nq_d dX5_onlyThingOf_64_g (n := 17) rfl) (by decide) ?_
          exact hPself11 _ _ _ _ hw l3_14 v18 z15 z16 rfl rfl rfl rfl _ _ _ hP hD hS (lv_sub hl [1, 2, 3, 4, 0] rfl)
        refine gx_if_ne (tgt := 58) hx hb (nq_d dX5_onlyThingOf_0_g (n := 34) rfl) (by decide) hw (fun hw => ?_) (fun hw => ?_)
        · refine lv_aload_n hx hb (nq_d dX5_onlyThingOf_0_g (n := 36) rfl) rfl (lv_at hl 0 rfl) ?_
          refine va_get (D := (dC, dI)) (ci := 5) (v := .ref aq_fitting) (C := RX5) (T := TX5) (N := 3) hx hb hts hi_X5 hown hK hP 0 rfl rfl 0 (by decide) hf9 (fun _ h9 => h9) rfl (nq_d dX5_onlyThingOf_0_g (n := 37) rfl) ?_
          refine lv_iload_n hx hb (nq_d dX5_onlyThingOf_0_g (n := 38) rfl) rfl (lv_at hl 1 rfl) ?_
          refine lv_iconst (v := (1 : Int32)) hx hb (nq_d dX5_onlyThingOf_0_g (n := 39) rfl) (by decide) ?_
          refine lv_iload hx hb (nq_d dX5_onlyThingOf_64_g (n := 0) rfl) (lv_at hl 4 rfl) ?_
          refine gx_ishl hx hb (nq_d dX5_onlyThingOf_64_g (n := 1) rfl) hw (fun v19 hw => ?_)
          refine gx_iast hx hb hK hP hD hS 1 1 rfl rfl (nq_d dX5_onlyThingOf_64_g (n := 2) rfl) (fun f20 => [(aq, .inr (5, [.ref aq_fitting, .ref aq_waysOf, .int q_claims])), (aq_fitting, .inl (cyI, 6, .inl f20)), (aq_waysOf, .inl (cyJ, 64, .inr (.inl z10)))]) (fun _ => rfl) hw (fun f20 H locs hw hP hD hS => ?_)
          refine lv_aload_n hx hb (nq_d dX5_onlyThingOf_64_g (n := 3) rfl) rfl (lv_at hl 0 rfl) ?_
          refine gx_rl (wr := []) (va_runV (As := []) (rest := []) ⟨hx, hb, hml, hown, hts⟩ (ct_Matching_number l dC dI cyB cyI cyJ cyZ aq aq_fitting aq_waysOf _ q_claims f20 z10 _) (cwV 0 hts gX5_onlyThingOf_X5_number rfl rfl rfl cd_X5_number ⟨Nat.le_of_ble_eq_true rfl, Nat.le_of_ble_eq_true rfl⟩) (gx_preV hK hP hD hNw [0, 1, 2] rfl (by decide +kernel) hw 0 (ci := 5) rfl rfl rfl) rfl rfl hl.1 rfl (lv_room (Nat.le_of_ble_eq_true rfl)) (nq_d dX5_onlyThingOf_64_g (n := 4) rfl) ⟨Nat.zero_le _, Nat.zero_le _⟩) hP hD hS hA [0, 1, 2] [] [0, 1, 2] rfl rfl (by decide) (by decide) (by decide) (fun u => [(aq, .inr (5, [.ref aq_fitting, .ref aq_waysOf, .int q_claims])), (aq_fitting, .inl (cyI, 6, .inl f20)), (aq_waysOf, .inl (cyJ, 64, .inr (.inl u)))]) (fun _ => rfl) (fun r22 u H locs hw hP hD hS => ?_)
          obtain ⟨f21, rfl⟩ : ∃ z, z = u := ⟨_, rfl⟩
          try dsimp only at hw hP hD
          refine lv_lconst (v := (0 : Int64)) hx hb (nq_d dX5_onlyThingOf_64_g (n := 5) rfl) (by decide) ?_
          refine gx_lcmp hx hb (nq_d dX5_onlyThingOf_64_g (n := 6) rfl) hw (fun v23 hw => ?_)
          refine gx_if_ne (tgt := 80) hx hb (nq_d dX5_onlyThingOf_64_g (n := 7) rfl) (by decide) hw (fun hw => ?_) (fun hw => ?_)
          · refine lv_iload_n hx hb (nq_d dX5_onlyThingOf_64_g (n := 9) rfl) rfl (lv_at hl 3 rfl) ?_
            refine lv_iconst (v := ((-1) : Int32)) hx hb (nq_d dX5_onlyThingOf_64_g (n := 10) rfl) (by decide) ?_
            refine gx_icmp_eq (tgt := 87) hx hb (nq_d dX5_onlyThingOf_64_g (n := 11) rfl) (by decide) hw (fun hw => ?_) (fun hw => ?_)
            · refine lv_iload hx hb (nq_d dX5_onlyThingOf_64_g (n := 14) rfl) (lv_at hl 4 rfl) ?_
              refine lv_istore_n (lv' := [(3, .int l4_8), (0, .ref aq), (1, .int x1), (2, .int v6), (4, .int l4_8)]) hx hb (nq_d dX5_onlyThingOf_64_g (n := 15) rfl) rfl hl (by decide) rfl (fun ls hl => ?_)
              exact Jj17 l4_8 f20 f21 _ _ _ hP hD hS (lv_sub hl [1, 2, 3, 0, 4] rfl) hw
            · refine lv_iconst (v := ((-1) : Int32)) hx hb (nq_d dX5_onlyThingOf_64_g (n := 12) rfl) (by decide) ?_
              exact rt_i (A1 := A) hQ hx hb hr hlocks hP hD hS (f20, f21) [0, 1, 2] rfl (by decide +kernel) hw (nq_d dX5_onlyThingOf_64_g (n := 13) rfl)
          · refine lv_goto (tgt := 90) hx hb (nq_d dX5_onlyThingOf_64_g (n := 8) rfl) (by decide) ?_
            exact Jj17 l3_7 f20 f21 _ _ _ hP hD hS (lv_sub hl [0, 1, 2, 3, 4] rfl) hw
        · refine lv_goto (tgt := 90) hx hb (nq_d dX5_onlyThingOf_0_g (n := 35) rfl) (by decide) ?_
          exact Jj17 l3_7 z9 z10 _ _ _ hP hD hS (lv_sub hl [0, 1, 2, 3, 4] rfl) hw
    · refine lv_iconst (v := ((-1) : Int32)) hx hb (nq_d dX5_onlyThingOf_0_g (n := 15) rfl) (by decide) ?_
      exact rt_i (A1 := A) hQ hx hb hr hlocks hP hD hS (q_fitting, f3) [0, 1, 2] rfl (by decide +kernel) hw (nq_d dX5_onlyThingOf_0_g (n := 16) rfl)
  · refine lv_iconst (v := ((-1) : Int32)) hx hb (nq_d dX5_onlyThingOf_0_g (n := 8) rfl) (by decide) ?_
    exact rt_i (A1 := A) hQ hx hb hr hlocks hP hD hS (q_fitting, q_waysOf) [0, 1, 2] rfl (by decide +kernel) hw (nq_d dX5_onlyThingOf_0_g (n := 9) rfl)
abbrev rmX6_add : Room := { frames := 1, cells := 0, slots := 0, locals := 22 }
theorem cd_X6_add : yX6_add.cls = RX6 ∧ yX6_add.cls ≠ "java/lang/invoke/MethodHandle" ∧ yX6_add.cls ≠ "java/lang/invoke/VarHandle" ∧ (parseMethodDescriptor yX6_add.desc).map (fun d => d.parameters.length) = some 5 := by decide +kernel
set_option maxHeartbeats 4000000 in
set_option maxRecDepth 100000 in
theorem ct_Nights_add (l : Launch) (dC : Nat → ClassId) (dI : Nat → Nat → Nat) (cyB cyI cyJ cyZ : ClassId) (an an_left : Nat) (sz : Nat) (n_number : Int32) (n_left : Nat → Int32) (x1 : Int32) (x2 : Int32) (x3 : Int32) (x4 : Int32) (x5 : Int32) (Q : Int → Int → (Int → Int) → Prop) : Met l yX6_add wsX6_add rmX6_add (va_Pc [.ref an, .int x1, .int x2, .int x3, .int x4, .int x5] (cPre (dC, dI) vwCl (tyS cyB cyI cyJ cyZ) [(an, .inr (6, [.int n_number, .ref an_left])), (an_left, .inl (cyI, 24, .inl n_left))] sz (nf_Nights_add n_number.toInt (aI 24 n_left) x1.toInt x2.toInt x3.toInt x4.toInt x5.toInt Q))) (va_Qi (fun (r : Int32) (u : Int32 × (Nat → Int32)) => Q r.toInt (u.1).toInt (aI 24 (u.2))) (cPost (dC, dI) vwCl (fun u : Int32 × (Nat → Int32) => [(an, .inr (6, [.int u.1, .ref an_left])), (an_left, .inl (cyI, 24, .inl (u.2)))]) (va_A [(an, .inr (6, [.int n_number, .ref an_left])), (an_left, .inl (cyI, 24, .inl n_left))] sz)) (va_A [(an, .inr (6, [.int n_number, .ref an_left])), (an_left, .inl (cyI, 24, .inl n_left))] sz)) 0 0 (va_A [(an, .inr (6, [.int n_number, .ref an_left])), (an_left, .inl (cyI, 24, .inl n_left))] sz) := by
  refine Met.ofW (cc := cX6_add) (maxL := 7) (ret := (some .int)) (by decide) rfl ?_
  intro p e s m args below meth c s₁ B hml hv
  obtain ⟨rfl, hsz, hP, hK, hD0, hNw, hw⟩ := hv
  have hx := B.exec
  have hb := B.bytes
  have hr := B.returns
  have hts := atoms_spec (ws := wsX6_add) B.pre
  have hown : s.vm.findClass RX6 = some m.cls := findClass_of_methodNamed B.named
  have hlocks := B.notSynchronized
  subst hsz
  have hD := hD0.self (sz := s.heap.size)
  generalize hAe : va_A [(an, .inr (6, [.int n_number, .ref an_left])), (an_left, .inl (cyI, 24, .inl n_left))] s.heap.size = A at hD ⊢
  have hA : ∀ q : Nat, s.heap.size ≤ q → A q := fun q h => by rw [← hAe]; exact Or.inr h
  have hS : va_S A s.heap s.heap [] := va_S.rf
  have hl := lv_entry ([.ref an, .int x1, .int x2, .int x3, .int x4, .int x5]) (n := 7) (Nat.le_of_ble_eq_true rfl)
  rw [lg_entry_eq]
  generalize (lg_sl ([.ref an, .int x1, .int x2, .int x3, .int x4, .int x5]) ++ List.replicate (7 - (lg_sl ([.ref an, .int x1, .int x2, .int x3, .int x4, .int x5])).length) Slot.unset).toArray = ls at hl ⊢
  have hl : lv_has ls 7 [(0, .ref an), (1, .int x1), (2, .int x2), (3, .int x3), (4, .int x4), (5, .int x5)] := hl
  refine gx_q (fun Q9 hQ => ?_)
  unfold nf_Nights_add at hw
  have hi_X6 : ∀ w ∈ wsX60, w ∈ wsX6_add := (sub_c (nq_m (n := 6) rfl) (sub_c (nq_m (n := 7) rfl) sub_n))
  have hf15 : (Cond.fieldLink RX6 15 "CoatsHall$Nights" (TX6 1).2.1 (TX6 1).2.2.1).before ([.ref an, .int x1, .int x2, .int x3, .int x4, .int x5] : List Value).toArray s = true := hts (.fieldLink RX6 15 "CoatsHall$Nights" "left" "[I") (nq_m (n := 1) rfl)
  have hf9 : (Cond.fieldLink RX6 9 "CoatsHall$Nights" (TX6 0).2.1 (TX6 0).2.2.1).before ([.ref an, .int x1, .int x2, .int x3, .int x4, .int x5] : List Value).toArray s = true := hts (.fieldLink RX6 9 "CoatsHall$Nights" "number" "I") (nq_m (n := 2) rfl)
  refine lv_iload_n hx hb (nq_d dX6_add_0_g (n := 0) rfl) rfl (lv_at hl 1 rfl) ?_
  refine lv_iconst (v := (0 : Int32)) hx hb (nq_d dX6_add_0_g (n := 1) rfl) (by decide) ?_
  refine lv_iconst (v := (3 : Int32)) hx hb (nq_d dX6_add_0_g (n := 2) rfl) (by decide) ?_
  refine gx_ri (wr := [(an, .inr (6, [.int n_number, .ref an_left])), (an_left, .inl (cyI, 24, .inl n_left))]) (va_runSN (As := [.int x1, .int (0 : Int32), .int (3 : Int32)]) (rest := []) ⟨hx, hb, hml, hown, hts⟩ (ct_H_within l dC dI cyB cyI cyJ cyZ  _ x1 (0 : Int32) (3 : Int32) _) ⟨va_cnB 3 hts gX6_add_X10_within_n25 rfl rfl rfl (nw_13 hNw) (hts (.initialized RX10) (nq_m (n := 4) rfl)) cd_X10_within.2 ⟨Nat.le_of_ble_eq_true rfl, Nat.le_of_ble_eq_true rfl⟩, hts (.static yX10_within) (nq_m (n := 3) rfl), trivial⟩ (gx_preS hK hP hD hNw [] rfl (by decide) hw) rfl rfl hl.1 rfl (lv_room (Nat.le_of_ble_eq_true rfl)) (nq_d dX6_add_0_g (n := 3) rfl) ⟨Nat.zero_le _, Nat.zero_le _⟩) hP hD hS hA [] [0, 1] [0, 1] rfl rfl (by decide) (by decide) (by decide) (fun _ => [(an, .inr (6, [.int n_number, .ref an_left])), (an_left, .inl (cyI, 24, .inl n_left))]) (fun _ => rfl) (fun r1 u H locs hw hP hD hS => ?_)
  try dsimp only at hw hP hD
  refine gx_if_eq (tgt := 18) hx hb (nq_d dX6_add_0_g (n := 4) rfl) (by decide) hw (fun hw => ?_) (fun hw => ?_)
  · refine lv_sipush (v := ((-1002) : Int32)) hx hb (nq_d dX6_add_0_g (n := 10) rfl) (by decide) ?_
    exact rt_i (A1 := A) hQ hx hb hr hlocks hP hD hS (n_number, n_left) [0, 1] rfl (by decide +kernel) hw (nq_d dX6_add_0_g (n := 11) rfl)
  · refine lv_iload_n hx hb (nq_d dX6_add_0_g (n := 5) rfl) rfl (lv_at hl 2 rfl) ?_
    refine lv_iconst (v := (0 : Int32)) hx hb (nq_d dX6_add_0_g (n := 6) rfl) (by decide) ?_
    refine lv_iconst (v := (1 : Int32)) hx hb (nq_d dX6_add_0_g (n := 7) rfl) (by decide) ?_
    refine gx_ri (wr := [(an, .inr (6, [.int n_number, .ref an_left])), (an_left, .inl (cyI, 24, .inl n_left))]) (va_runSN (As := [.int x2, .int (0 : Int32), .int (1 : Int32)]) (rest := []) ⟨hx, hb, hml, hown, hts⟩ (ct_H_within l dC dI cyB cyI cyJ cyZ  _ x2 (0 : Int32) (1 : Int32) _) ⟨va_cnB 3 hts gX6_add_X10_within_n25 rfl rfl rfl (nw_13 hNw) (hts (.initialized RX10) (nq_m (n := 4) rfl)) cd_X10_within.2 ⟨Nat.le_of_ble_eq_true rfl, Nat.le_of_ble_eq_true rfl⟩, hts (.static yX10_within) (nq_m (n := 3) rfl), trivial⟩ (gx_preS hK hP hD hNw [] rfl (by decide) hw) rfl rfl hl.1 rfl (lv_room (Nat.le_of_ble_eq_true rfl)) (nq_d dX6_add_0_g (n := 8) rfl) ⟨Nat.zero_le _, Nat.zero_le _⟩) hP hD hS hA [] [0, 1] [0, 1] rfl rfl (by decide) (by decide) (by decide) (fun _ => [(an, .inr (6, [.int n_number, .ref an_left])), (an_left, .inl (cyI, 24, .inl n_left))]) (fun _ => rfl) (fun r2 u H locs hw hP hD hS => ?_)
    try dsimp only at hw hP hD
    refine gx_if_ne (tgt := 22) hx hb (nq_d dX6_add_0_g (n := 9) rfl) (by decide) hw (fun hw => ?_) (fun hw => ?_)
    · refine lv_iload_n hx hb (nq_d dX6_add_0_g (n := 12) rfl) rfl (lv_at hl 1 rfl) ?_
      refine lv_iconst (v := (2 : Int32)) hx hb (nq_d dX6_add_0_g (n := 13) rfl) (by decide) ?_
      refine gx_imul hx hb (nq_d dX6_add_0_g (n := 14) rfl) hw (fun v3 hw => ?_)
      refine lv_iload_n hx hb (nq_d dX6_add_0_g (n := 15) rfl) rfl (lv_at hl 2 rfl) ?_
      refine gx_iadd hx hb (nq_d dX6_add_0_g (n := 16) rfl) hw (fun v4 hw => ?_)
      refine lv_iconst (v := (3 : Int32)) hx hb (nq_d dX6_add_0_g (n := 17) rfl) (by decide) ?_
      refine gx_imul hx hb (nq_d dX6_add_0_g (n := 18) rfl) hw (fun v5 hw => ?_)
      refine lv_istore (lv' := [(6, .int v5), (0, .ref an), (1, .int x1), (2, .int x2), (3, .int x3), (4, .int x4), (5, .int x5)]) hx hb (nq_d dX6_add_0_g (n := 19) rfl) hl (by decide) rfl (fun ls hl => ?_)
      refine lv_aload_n hx hb (nq_d dX6_add_0_g (n := 20) rfl) rfl (lv_at hl 1 rfl) ?_
      refine va_get (D := (dC, dI)) (ci := 6) (v := .ref an_left) (C := RX6) (T := TX6) (N := 2) hx hb hts hi_X6 hown hK hP 0 rfl rfl 1 (by decide) hf15 (fun _ h9 => h9) rfl (nq_d dX6_add_0_g (n := 21) rfl) ?_
      refine lv_iload hx hb (nq_d dX6_add_0_g (n := 22) rfl) (lv_at hl 0 rfl) ?_
      refine lv_dup2_11 hx hb (nq_d dX6_add_0_g (n := 23) rfl) rfl rfl ?_
      refine gx_iald hx hb hK hP 1 1 rfl rfl (nq_d dX6_add_0_g (n := 24) rfl) hw (fun v6 hw => ?_)
      refine lv_iload_n hx hb (nq_d dX6_add_0_g (n := 25) rfl) rfl (lv_at hl 4 rfl) ?_
      refine gx_iadd hx hb (nq_d dX6_add_0_g (n := 26) rfl) hw (fun v7 hw => ?_)
      refine gx_iast hx hb hK hP hD hS 1 1 rfl rfl (nq_d dX6_add_0_g (n := 27) rfl) (fun f8 => [(an, .inr (6, [.int n_number, .ref an_left])), (an_left, .inl (cyI, 24, .inl f8))]) (fun _ => rfl) hw (fun f8 H locs hw hP hD hS => ?_)
      refine lv_aload_n hx hb (nq_d dX6_add_0_g (n := 28) rfl) rfl (lv_at hl 1 rfl) ?_
      refine va_get (D := (dC, dI)) (ci := 6) (v := .ref an_left) (C := RX6) (T := TX6) (N := 2) hx hb hts hi_X6 hown hK hP 0 rfl rfl 1 (by decide) hf15 (fun _ h9 => h9) rfl (nq_d dX6_add_0_g (n := 29) rfl) ?_
      refine lv_iload hx hb (nq_d dX6_add_0_g (n := 30) rfl) (lv_at hl 0 rfl) ?_
      refine lv_iconst (v := (1 : Int32)) hx hb (nq_d dX6_add_0_g (n := 31) rfl) (by decide) ?_
      refine gx_iadd hx hb (nq_d dX6_add_0_g (n := 32) rfl) hw (fun v9 hw => ?_)
      refine lv_dup2_11 hx hb (nq_d dX6_add_0_g (n := 33) rfl) rfl rfl ?_
      refine gx_iald hx hb hK hP 1 1 rfl rfl (nq_d dX6_add_0_g (n := 34) rfl) hw (fun v10 hw => ?_)
      refine lv_iload hx hb (nq_d dX6_add_0_g (n := 35) rfl) (lv_at hl 5 rfl) ?_
      refine gx_iadd hx hb (nq_d dX6_add_0_g (n := 36) rfl) hw (fun v11 hw => ?_)
      refine gx_iast hx hb hK hP hD hS 1 1 rfl rfl (nq_d dX6_add_0_g (n := 37) rfl) (fun f12 => [(an, .inr (6, [.int n_number, .ref an_left])), (an_left, .inl (cyI, 24, .inl f12))]) (fun _ => rfl) hw (fun f12 H locs hw hP hD hS => ?_)
      refine lv_aload_n hx hb (nq_d dX6_add_0_g (n := 38) rfl) rfl (lv_at hl 1 rfl) ?_
      refine va_get (D := (dC, dI)) (ci := 6) (v := .ref an_left) (C := RX6) (T := TX6) (N := 2) hx hb hts hi_X6 hown hK hP 0 rfl rfl 1 (by decide) hf15 (fun _ h9 => h9) rfl (nq_d dX6_add_0_g (n := 39) rfl) ?_
      refine lv_iload hx hb (nq_d dX6_add_60_g (n := 0) rfl) (lv_at hl 0 rfl) ?_
      refine lv_iconst (v := (2 : Int32)) hx hb (nq_d dX6_add_60_g (n := 1) rfl) (by decide) ?_
      refine gx_iadd hx hb (nq_d dX6_add_60_g (n := 2) rfl) hw (fun v13 hw => ?_)
      refine lv_dup2_11 hx hb (nq_d dX6_add_60_g (n := 3) rfl) rfl rfl ?_
      refine gx_iald hx hb hK hP 1 1 rfl rfl (nq_d dX6_add_60_g (n := 4) rfl) hw (fun v14 hw => ?_)
      refine lv_iload hx hb (nq_d dX6_add_60_g (n := 5) rfl) (lv_at hl 6 rfl) ?_
      refine gx_iadd hx hb (nq_d dX6_add_60_g (n := 6) rfl) hw (fun v15 hw => ?_)
      refine gx_iast hx hb hK hP hD hS 1 1 rfl rfl (nq_d dX6_add_60_g (n := 7) rfl) (fun f16 => [(an, .inr (6, [.int n_number, .ref an_left])), (an_left, .inl (cyI, 24, .inl f16))]) (fun _ => rfl) hw (fun f16 H locs hw hP hD hS => ?_)
      refine lv_aload_n hx hb (nq_d dX6_add_60_g (n := 8) rfl) rfl (lv_at hl 1 rfl) ?_
      refine lv_dup hx hb (nq_d dX6_add_60_g (n := 9) rfl) rfl ?_
      refine va_get (D := (dC, dI)) (ci := 6) (v := .int n_number) (C := RX6) (T := TX6) (N := 2) hx hb hts hi_X6 hown hK hP 0 rfl rfl 0 (by decide) hf9 (fun _ h9 => h9) rfl (nq_d dX6_add_60_g (n := 10) rfl) ?_
      refine lv_iconst (v := (1 : Int32)) hx hb (nq_d dX6_add_60_g (n := 11) rfl) (by decide) ?_
      refine gx_iadd hx hb (nq_d dX6_add_60_g (n := 12) rfl) hw (fun v17 hw => ?_)
      refine gx_put (D := (dC, dI)) (ci := 6) (v := .int v17) (ty := .int) (C := RX6) (T := TX6) (N := 2) hx hb hts hi_X6 tyX6 tyX6_ok nmX6 hown hK hP hD hS 0 rfl rfl 0 (by decide) hf9 (fun _ h9 => h9) rfl (by decide +kernel) rfl rfl (Nat.le_of_ble_eq_true rfl) (nq_d dX6_add_60_g (n := 13) rfl) [(an, .inr (6, [.int v17, .ref an_left])), (an_left, .inl (cyI, 24, .inl f16))] rfl (fun H locs hP hD hS => ?_)
      refine lv_aload_n hx hb (nq_d dX6_add_60_g (n := 14) rfl) rfl (lv_at hl 1 rfl) ?_
      refine va_get (D := (dC, dI)) (ci := 6) (v := .int v17) (C := RX6) (T := TX6) (N := 2) hx hb hts hi_X6 hown hK hP 0 rfl rfl 0 (by decide) hf9 (fun _ h9 => h9) rfl (nq_d dX6_add_60_g (n := 15) rfl) ?_
      exact rt_i (A1 := A) hQ hx hb hr hlocks hP hD hS (v17, f16) [0, 1] rfl (by decide +kernel) hw (nq_d dX6_add_60_g (n := 16) rfl)
    · refine lv_sipush (v := ((-1002) : Int32)) hx hb (nq_d dX6_add_0_g (n := 10) rfl) (by decide) ?_
      exact rt_i (A1 := A) hQ hx hb hr hlocks hP hD hS (n_number, n_left) [0, 1] rfl (by decide +kernel) hw (nq_d dX6_add_0_g (n := 11) rfl)
abbrev rmX6_oddsOf : Room := { frames := 1, cells := 0, slots := 0, locals := 22 }
theorem cd_X6_oddsOf : yX6_oddsOf.cls = RX6 ∧ yX6_oddsOf.cls ≠ "java/lang/invoke/MethodHandle" ∧ yX6_oddsOf.cls ≠ "java/lang/invoke/VarHandle" ∧ (parseMethodDescriptor yX6_oddsOf.desc).map (fun d => d.parameters.length) = some 3 := by decide +kernel
set_option maxHeartbeats 4000000 in
set_option maxRecDepth 100000 in
theorem ct_Nights_oddsOf (l : Launch) (dC : Nat → ClassId) (dI : Nat → Nat → Nat) (cyB cyI cyJ cyZ : ClassId) (an an_left : Nat) (sz : Nat) (n_number : Int32) (n_left : Nat → Int32) (x1 : Int32) (x2 : Int32) (x3 : Int32) (Q : Int → Prop) : Met l yX6_oddsOf wsX6_oddsOf rmX6_oddsOf (va_Pc [.ref an, .int x1, .int x2, .int x3] (cPre (dC, dI) vwCl (tyS cyB cyI cyJ cyZ) [(an, .inr (6, [.int n_number, .ref an_left])), (an_left, .inl (cyI, 24, .inl n_left))] sz (nf_Nights_oddsOf (aI 24 n_left) x1.toInt x2.toInt x3.toInt Q))) (va_Qi (fun (r : Int32) (_ : Unit) => Q r.toInt ) (cPost (dC, dI) vwCl (fun _ : Unit => [(an, .inr (6, [.int n_number, .ref an_left])), (an_left, .inl (cyI, 24, .inl n_left))]) (va_A [(an, .inr (6, [.int n_number, .ref an_left])), (an_left, .inl (cyI, 24, .inl n_left))] sz)) (va_A [(an, .inr (6, [.int n_number, .ref an_left])), (an_left, .inl (cyI, 24, .inl n_left))] sz)) 0 0 (va_A [(an, .inr (6, [.int n_number, .ref an_left])), (an_left, .inl (cyI, 24, .inl n_left))] sz) := by
  refine Met.ofW (cc := cX6_oddsOf) (maxL := 8) (ret := (some .int)) (by decide) rfl ?_
  intro p e s m args below meth c s₁ B hml hv
  obtain ⟨rfl, hsz, hP, hK, hD0, hNw, hw⟩ := hv
  have hx := B.exec
  have hb := B.bytes
  have hr := B.returns
  have hts := atoms_spec (ws := wsX6_oddsOf) B.pre
  have hown : s.vm.findClass RX6 = some m.cls := findClass_of_methodNamed B.named
  have hlocks := B.notSynchronized
  subst hsz
  have hD := hD0.self (sz := s.heap.size)
  generalize hAe : va_A [(an, .inr (6, [.int n_number, .ref an_left])), (an_left, .inl (cyI, 24, .inl n_left))] s.heap.size = A at hD ⊢
  have hA : ∀ q : Nat, s.heap.size ≤ q → A q := fun q h => by rw [← hAe]; exact Or.inr h
  have hS : va_S A s.heap s.heap [] := va_S.rf
  have hl := lv_entry ([.ref an, .int x1, .int x2, .int x3]) (n := 8) (Nat.le_of_ble_eq_true rfl)
  rw [lg_entry_eq]
  generalize (lg_sl ([.ref an, .int x1, .int x2, .int x3]) ++ List.replicate (8 - (lg_sl ([.ref an, .int x1, .int x2, .int x3])).length) Slot.unset).toArray = ls at hl ⊢
  have hl : lv_has ls 8 [(0, .ref an), (1, .int x1), (2, .int x2), (3, .int x3)] := hl
  refine gx_q (fun Q9 hQ => ?_)
  unfold nf_Nights_oddsOf at hw
  have hi_X6 : ∀ w ∈ wsX60, w ∈ wsX6_oddsOf := (sub_c (nq_m (n := 5) rfl) (sub_c (nq_m (n := 6) rfl) sub_n))
  have hf15 : (Cond.fieldLink RX6 15 "CoatsHall$Nights" (TX6 1).2.1 (TX6 1).2.2.1).before ([.ref an, .int x1, .int x2, .int x3] : List Value).toArray s = true := hts (.fieldLink RX6 15 "CoatsHall$Nights" "left" "[I") (nq_m (n := 1) rfl)
  refine lv_iload_n hx hb (nq_d dX6_oddsOf_0_g (n := 0) rfl) rfl (lv_at hl 1 rfl) ?_
  refine lv_iconst (v := (0 : Int32)) hx hb (nq_d dX6_oddsOf_0_g (n := 1) rfl) (by decide) ?_
  refine lv_iconst (v := (3 : Int32)) hx hb (nq_d dX6_oddsOf_0_g (n := 2) rfl) (by decide) ?_
  refine gx_ri (wr := [(an, .inr (6, [.int n_number, .ref an_left])), (an_left, .inl (cyI, 24, .inl n_left))]) (va_runSN (As := [.int x1, .int (0 : Int32), .int (3 : Int32)]) (rest := []) ⟨hx, hb, hml, hown, hts⟩ (ct_H_within l dC dI cyB cyI cyJ cyZ  _ x1 (0 : Int32) (3 : Int32) _) ⟨va_cnB 3 hts gX6_oddsOf_X10_within_n25 rfl rfl rfl (nw_13 hNw) (hts (.initialized RX10) (nq_m (n := 3) rfl)) cd_X10_within.2 ⟨Nat.le_of_ble_eq_true rfl, Nat.le_of_ble_eq_true rfl⟩, hts (.static yX10_within) (nq_m (n := 2) rfl), trivial⟩ (gx_preS hK hP hD hNw [] rfl (by decide) hw) rfl rfl hl.1 rfl (lv_room (Nat.le_of_ble_eq_true rfl)) (nq_d dX6_oddsOf_0_g (n := 3) rfl) ⟨Nat.zero_le _, Nat.zero_le _⟩) hP hD hS hA [] [0, 1] [0, 1] rfl rfl (by decide) (by decide) (by decide) (fun _ => [(an, .inr (6, [.int n_number, .ref an_left])), (an_left, .inl (cyI, 24, .inl n_left))]) (fun _ => rfl) (fun r1 u H locs hw hP hD hS => ?_)
  try dsimp only at hw hP hD
  refine gx_if_eq (tgt := 18) hx hb (nq_d dX6_oddsOf_0_g (n := 4) rfl) (by decide) hw (fun hw => ?_) (fun hw => ?_)
  · refine lv_iconst (v := (0 : Int32)) hx hb (nq_d dX6_oddsOf_0_g (n := 10) rfl) (by decide) ?_
    exact rt_i (A1 := A) hQ hx hb hr hlocks hP hD hS () [0, 1] rfl (by decide +kernel) hw (nq_d dX6_oddsOf_0_g (n := 11) rfl)
  · refine lv_iload_n hx hb (nq_d dX6_oddsOf_0_g (n := 5) rfl) rfl (lv_at hl 2 rfl) ?_
    refine lv_iconst (v := (0 : Int32)) hx hb (nq_d dX6_oddsOf_0_g (n := 6) rfl) (by decide) ?_
    refine lv_iconst (v := (1 : Int32)) hx hb (nq_d dX6_oddsOf_0_g (n := 7) rfl) (by decide) ?_
    refine gx_ri (wr := [(an, .inr (6, [.int n_number, .ref an_left])), (an_left, .inl (cyI, 24, .inl n_left))]) (va_runSN (As := [.int x2, .int (0 : Int32), .int (1 : Int32)]) (rest := []) ⟨hx, hb, hml, hown, hts⟩ (ct_H_within l dC dI cyB cyI cyJ cyZ  _ x2 (0 : Int32) (1 : Int32) _) ⟨va_cnB 3 hts gX6_oddsOf_X10_within_n25 rfl rfl rfl (nw_13 hNw) (hts (.initialized RX10) (nq_m (n := 3) rfl)) cd_X10_within.2 ⟨Nat.le_of_ble_eq_true rfl, Nat.le_of_ble_eq_true rfl⟩, hts (.static yX10_within) (nq_m (n := 2) rfl), trivial⟩ (gx_preS hK hP hD hNw [] rfl (by decide) hw) rfl rfl hl.1 rfl (lv_room (Nat.le_of_ble_eq_true rfl)) (nq_d dX6_oddsOf_0_g (n := 8) rfl) ⟨Nat.zero_le _, Nat.zero_le _⟩) hP hD hS hA [] [0, 1] [0, 1] rfl rfl (by decide) (by decide) (by decide) (fun _ => [(an, .inr (6, [.int n_number, .ref an_left])), (an_left, .inl (cyI, 24, .inl n_left))]) (fun _ => rfl) (fun r2 u H locs hw hP hD hS => ?_)
    try dsimp only at hw hP hD
    refine gx_if_ne (tgt := 20) hx hb (nq_d dX6_oddsOf_0_g (n := 9) rfl) (by decide) hw (fun hw => ?_) (fun hw => ?_)
    · refine lv_iload_n hx hb (nq_d dX6_oddsOf_0_g (n := 12) rfl) rfl (lv_at hl 1 rfl) ?_
      refine lv_iconst (v := (2 : Int32)) hx hb (nq_d dX6_oddsOf_0_g (n := 13) rfl) (by decide) ?_
      refine gx_imul hx hb (nq_d dX6_oddsOf_0_g (n := 14) rfl) hw (fun v3 hw => ?_)
      refine lv_iload_n hx hb (nq_d dX6_oddsOf_0_g (n := 15) rfl) rfl (lv_at hl 2 rfl) ?_
      refine gx_iadd hx hb (nq_d dX6_oddsOf_0_g (n := 16) rfl) hw (fun v4 hw => ?_)
      refine lv_iconst (v := (3 : Int32)) hx hb (nq_d dX6_oddsOf_0_g (n := 17) rfl) (by decide) ?_
      refine gx_imul hx hb (nq_d dX6_oddsOf_0_g (n := 18) rfl) hw (fun v5 hw => ?_)
      refine lv_istore (lv' := [(4, .int v5), (0, .ref an), (1, .int x1), (2, .int x2), (3, .int x3)]) hx hb (nq_d dX6_oddsOf_0_g (n := 19) rfl) hl (by decide) rfl (fun ls hl => ?_)
      refine lv_aload_n hx hb (nq_d dX6_oddsOf_0_g (n := 20) rfl) rfl (lv_at hl 1 rfl) ?_
      refine va_get (D := (dC, dI)) (ci := 6) (v := .ref an_left) (C := RX6) (T := TX6) (N := 2) hx hb hts hi_X6 hown hK hP 0 rfl rfl 1 (by decide) hf15 (fun _ h9 => h9) rfl (nq_d dX6_oddsOf_0_g (n := 21) rfl) ?_
      refine lv_iload hx hb (nq_d dX6_oddsOf_0_g (n := 22) rfl) (lv_at hl 0 rfl) ?_
      refine gx_iald hx hb hK hP 1 1 rfl rfl (nq_d dX6_oddsOf_0_g (n := 23) rfl) hw (fun v6 hw => ?_)
      refine lv_aload_n hx hb (nq_d dX6_oddsOf_0_g (n := 24) rfl) rfl (lv_at hl 1 rfl) ?_
      refine va_get (D := (dC, dI)) (ci := 6) (v := .ref an_left) (C := RX6) (T := TX6) (N := 2) hx hb hts hi_X6 hown hK hP 0 rfl rfl 1 (by decide) hf15 (fun _ h9 => h9) rfl (nq_d dX6_oddsOf_0_g (n := 25) rfl) ?_
      refine lv_iload hx hb (nq_d dX6_oddsOf_0_g (n := 26) rfl) (lv_at hl 0 rfl) ?_
      refine lv_iconst (v := (1 : Int32)) hx hb (nq_d dX6_oddsOf_0_g (n := 27) rfl) (by decide) ?_
      refine gx_iadd hx hb (nq_d dX6_oddsOf_0_g (n := 28) rfl) hw (fun v7 hw => ?_)
      refine gx_iald hx hb hK hP 1 1 rfl rfl (nq_d dX6_oddsOf_0_g (n := 29) rfl) hw (fun v8 hw => ?_)
      refine gx_iadd hx hb (nq_d dX6_oddsOf_0_g (n := 30) rfl) hw (fun v9 hw => ?_)
      refine lv_aload_n hx hb (nq_d dX6_oddsOf_0_g (n := 31) rfl) rfl (lv_at hl 1 rfl) ?_
      refine va_get (D := (dC, dI)) (ci := 6) (v := .ref an_left) (C := RX6) (T := TX6) (N := 2) hx hb hts hi_X6 hown hK hP 0 rfl rfl 1 (by decide) hf15 (fun _ h9 => h9) rfl (nq_d dX6_oddsOf_0_g (n := 32) rfl) ?_
      refine lv_iload hx hb (nq_d dX6_oddsOf_0_g (n := 33) rfl) (lv_at hl 0 rfl) ?_
      refine lv_iconst (v := (2 : Int32)) hx hb (nq_d dX6_oddsOf_0_g (n := 34) rfl) (by decide) ?_
      refine gx_iadd hx hb (nq_d dX6_oddsOf_0_g (n := 35) rfl) hw (fun v10 hw => ?_)
      refine gx_iald hx hb hK hP 1 1 rfl rfl (nq_d dX6_oddsOf_0_g (n := 36) rfl) hw (fun v11 hw => ?_)
      refine gx_iadd hx hb (nq_d dX6_oddsOf_0_g (n := 37) rfl) hw (fun v12 hw => ?_)
      refine lv_iconst (v := (3 : Int32)) hx hb (nq_d dX6_oddsOf_0_g (n := 38) rfl) (by decide) ?_
      refine gx_iadd hx hb (nq_d dX6_oddsOf_0_g (n := 39) rfl) hw (fun v13 hw => ?_)
      refine lv_istore (lv' := [(5, .int v13), (4, .int v5), (0, .ref an), (1, .int x1), (2, .int x2), (3, .int x3)]) hx hb (nq_d dX6_oddsOf_58_g (n := 0) rfl) hl (by decide) rfl (fun ls hl => ?_)
      refine lv_iload hx hb (nq_d dX6_oddsOf_58_g (n := 1) rfl) (lv_at hl 0 rfl) ?_
      refine gx_if_gt (tgt := 67) hx hb (nq_d dX6_oddsOf_58_g (n := 2) rfl) (by decide) hw (fun hw => ?_) (fun hw => ?_)
      · refine lv_sipush (v := (1000 : Int32)) hx hb (nq_d dX6_oddsOf_58_g (n := 5) rfl) (by decide) ?_
        refine lv_aload_n hx hb (nq_d dX6_oddsOf_58_g (n := 6) rfl) rfl (lv_at hl 2 rfl) ?_
        refine va_get (D := (dC, dI)) (ci := 6) (v := .ref an_left) (C := RX6) (T := TX6) (N := 2) hx hb hts hi_X6 hown hK hP 0 rfl rfl 1 (by decide) hf15 (fun _ h9 => h9) rfl (nq_d dX6_oddsOf_58_g (n := 7) rfl) ?_
        refine lv_iload hx hb (nq_d dX6_oddsOf_58_g (n := 8) rfl) (lv_at hl 1 rfl) ?_
        refine gx_iald hx hb hK hP 1 1 rfl rfl (nq_d dX6_oddsOf_58_g (n := 9) rfl) hw (fun v14 hw => ?_)
        refine lv_iconst (v := (1 : Int32)) hx hb (nq_d dX6_oddsOf_58_g (n := 10) rfl) (by decide) ?_
        refine gx_iadd hx hb (nq_d dX6_oddsOf_58_g (n := 11) rfl) hw (fun v15 hw => ?_)
        refine gx_imul hx hb (nq_d dX6_oddsOf_58_g (n := 12) rfl) hw (fun v16 hw => ?_)
        refine lv_iload hx hb (nq_d dX6_oddsOf_58_g (n := 13) rfl) (lv_at hl 0 rfl) ?_
        refine gx_idiv hx hb (nq_d dX6_oddsOf_58_g (n := 14) rfl) hw (fun v17 hw => ?_)
        refine lv_istore (lv' := [(6, .int v17), (5, .int v13), (4, .int v5), (0, .ref an), (1, .int x1), (2, .int x2), (3, .int x3)]) hx hb (nq_d dX6_oddsOf_58_g (n := 15) rfl) hl (by decide) rfl (fun ls hl => ?_)
        refine lv_sipush (v := (1000 : Int32)) hx hb (nq_d dX6_oddsOf_58_g (n := 16) rfl) (by decide) ?_
        refine lv_aload_n hx hb (nq_d dX6_oddsOf_58_g (n := 17) rfl) rfl (lv_at hl 3 rfl) ?_
        refine va_get (D := (dC, dI)) (ci := 6) (v := .ref an_left) (C := RX6) (T := TX6) (N := 2) hx hb hts hi_X6 hown hK hP 0 rfl rfl 1 (by decide) hf15 (fun _ h9 => h9) rfl (nq_d dX6_oddsOf_58_g (n := 18) rfl) ?_
        refine lv_iload hx hb (nq_d dX6_oddsOf_58_g (n := 19) rfl) (lv_at hl 2 rfl) ?_
        refine lv_iconst (v := (1 : Int32)) hx hb (nq_d dX6_oddsOf_58_g (n := 20) rfl) (by decide) ?_
        refine gx_iadd hx hb (nq_d dX6_oddsOf_58_g (n := 21) rfl) hw (fun v18 hw => ?_)
        refine gx_iald hx hb hK hP 1 1 rfl rfl (nq_d dX6_oddsOf_58_g (n := 22) rfl) hw (fun v19 hw => ?_)
        refine lv_iconst (v := (1 : Int32)) hx hb (nq_d dX6_oddsOf_58_g (n := 23) rfl) (by decide) ?_
        refine gx_iadd hx hb (nq_d dX6_oddsOf_58_g (n := 24) rfl) hw (fun v20 hw => ?_)
        refine gx_imul hx hb (nq_d dX6_oddsOf_58_g (n := 25) rfl) hw (fun v21 hw => ?_)
        refine lv_iload hx hb (nq_d dX6_oddsOf_58_g (n := 26) rfl) (lv_at hl 1 rfl) ?_
        refine gx_idiv hx hb (nq_d dX6_oddsOf_58_g (n := 27) rfl) hw (fun v22 hw => ?_)
        refine lv_istore (lv' := [(7, .int v22), (6, .int v17), (5, .int v13), (4, .int v5), (0, .ref an), (1, .int x1), (2, .int x2), (3, .int x3)]) hx hb (nq_d dX6_oddsOf_58_g (n := 28) rfl) hl (by decide) rfl (fun ls hl => ?_)
        refine lv_iload_n hx hb (nq_d dX6_oddsOf_58_g (n := 29) rfl) rfl (lv_at hl 7 rfl) ?_
        refine gx_if_ne (tgt := 112) hx hb (nq_d dX6_oddsOf_58_g (n := 30) rfl) (by decide) hw (fun hw => ?_) (fun hw => ?_)
        · refine lv_iload_n hx hb (nq_d dX6_oddsOf_58_g (n := 33) rfl) rfl (lv_at hl 7 rfl) ?_
          refine lv_iconst (v := (1 : Int32)) hx hb (nq_d dX6_oddsOf_58_g (n := 34) rfl) (by decide) ?_
          refine gx_icmp_ne (tgt := 122) hx hb (nq_d dX6_oddsOf_58_g (n := 35) rfl) (by decide) hw (fun hw => ?_) (fun hw => ?_)
          · refine lv_sipush (v := (1000 : Int32)) hx hb (nq_d dX6_oddsOf_58_g (n := 38) rfl) (by decide) ?_
            refine lv_iload hx hb (nq_d dX6_oddsOf_58_g (n := 39) rfl) (lv_at hl 1 rfl) ?_
            refine gx_isub hx hb (nq_d dX6_oddsOf_127_g (n := 0) rfl) hw (fun v23 hw => ?_)
            refine lv_iload hx hb (nq_d dX6_oddsOf_127_g (n := 1) rfl) (lv_at hl 0 rfl) ?_
            refine gx_isub hx hb (nq_d dX6_oddsOf_127_g (n := 2) rfl) hw (fun v24 hw => ?_)
            exact rt_i (A1 := A) hQ hx hb hr hlocks hP hD hS () [0, 1] rfl (by decide +kernel) hw (nq_d dX6_oddsOf_127_g (n := 3) rfl)
          · refine lv_iload hx hb (nq_d dX6_oddsOf_58_g (n := 36) rfl) (lv_at hl 0 rfl) ?_
            refine lv_goto (tgt := 131) hx hb (nq_d dX6_oddsOf_58_g (n := 37) rfl) (by decide) ?_
            exact rt_i (A1 := A) hQ hx hb hr hlocks hP hD hS () [0, 1] rfl (by decide +kernel) hw (nq_d dX6_oddsOf_127_g (n := 3) rfl)
        · refine lv_iload hx hb (nq_d dX6_oddsOf_58_g (n := 31) rfl) (lv_at hl 1 rfl) ?_
          exact rt_i (A1 := A) hQ hx hb hr hlocks hP hD hS () [0, 1] rfl (by decide +kernel) hw (nq_d dX6_oddsOf_58_g (n := 32) rfl)
      · refine lv_iconst (v := (0 : Int32)) hx hb (nq_d dX6_oddsOf_58_g (n := 3) rfl) (by decide) ?_
        exact rt_i (A1 := A) hQ hx hb hr hlocks hP hD hS () [0, 1] rfl (by decide +kernel) hw (nq_d dX6_oddsOf_58_g (n := 4) rfl)
    · refine lv_iconst (v := (0 : Int32)) hx hb (nq_d dX6_oddsOf_0_g (n := 10) rfl) (by decide) ?_
      exact rt_i (A1 := A) hQ hx hb hr hlocks hP hD hS () [0, 1] rfl (by decide +kernel) hw (nq_d dX6_oddsOf_0_g (n := 11) rfl)
abbrev rmX7_pegOf : Room := { frames := 1, cells := 0, slots := 0, locals := 22 }
theorem cd_X7_pegOf : yX7_pegOf.cls = RX7 ∧ yX7_pegOf.cls ≠ "java/lang/invoke/MethodHandle" ∧ yX7_pegOf.cls ≠ "java/lang/invoke/VarHandle" ∧ (parseMethodDescriptor yX7_pegOf.desc).map (fun d => d.parameters.length) = some 1 := by decide +kernel
set_option maxHeartbeats 4000000 in
set_option maxRecDepth 100000 in
theorem ct_Plan_pegOf (l : Launch) (dC : Nat → ClassId) (dI : Nat → Nat → Nat) (cyB cyI cyJ cyZ : ClassId) (ap ap_expected ap_pegFor ap_taken : Nat) (sz : Nat) (p_sum : Int32) (p_pegFor : Nat → Int32) (x1 : Int32) (Q : Int → Prop) : Met l yX7_pegOf wsX7_pegOf rmX7_pegOf (va_Pc [.ref ap, .int x1] (cPre (dC, dI) vwCl (tyS cyB cyI cyJ cyZ) [(ap, .inr (7, [.ref ap_expected, .ref ap_pegFor, .ref ap_taken, .int p_sum])), (ap_pegFor, .inl (cyI, 16, .inl p_pegFor))] sz (nf_Plan_pegOf (aI 16 p_pegFor) x1.toInt Q))) (va_Qi (fun (r : Int32) (_ : Unit) => Q r.toInt ) (cPost (dC, dI) vwCl (fun _ : Unit => [(ap, .inr (7, [.ref ap_expected, .ref ap_pegFor, .ref ap_taken, .int p_sum])), (ap_pegFor, .inl (cyI, 16, .inl p_pegFor))]) (va_A [(ap, .inr (7, [.ref ap_expected, .ref ap_pegFor, .ref ap_taken, .int p_sum])), (ap_pegFor, .inl (cyI, 16, .inl p_pegFor))] sz)) (va_A [(ap, .inr (7, [.ref ap_expected, .ref ap_pegFor, .ref ap_taken, .int p_sum])), (ap_pegFor, .inl (cyI, 16, .inl p_pegFor))] sz)) 0 0 (va_A [(ap, .inr (7, [.ref ap_expected, .ref ap_pegFor, .ref ap_taken, .int p_sum])), (ap_pegFor, .inl (cyI, 16, .inl p_pegFor))] sz) := by
  refine Met.ofW (cc := cX7_pegOf) (maxL := 2) (ret := (some .int)) (by decide) rfl ?_
  intro p e s m args below meth c s₁ B hml hv
  obtain ⟨rfl, hsz, hP, hK, hD0, hNw, hw⟩ := hv
  have hx := B.exec
  have hb := B.bytes
  have hr := B.returns
  have hts := atoms_spec (ws := wsX7_pegOf) B.pre
  have hown : s.vm.findClass RX7 = some m.cls := findClass_of_methodNamed B.named
  have hlocks := B.notSynchronized
  subst hsz
  have hD := hD0.self (sz := s.heap.size)
  generalize hAe : va_A [(ap, .inr (7, [.ref ap_expected, .ref ap_pegFor, .ref ap_taken, .int p_sum])), (ap_pegFor, .inl (cyI, 16, .inl p_pegFor))] s.heap.size = A at hD ⊢
  have hA : ∀ q : Nat, s.heap.size ≤ q → A q := fun q h => by rw [← hAe]; exact Or.inr h
  have hS : va_S A s.heap s.heap [] := va_S.rf
  have hl := lv_entry ([.ref ap, .int x1]) (n := 2) (Nat.le_of_ble_eq_true rfl)
  rw [lg_entry_eq]
  generalize (lg_sl ([.ref ap, .int x1]) ++ List.replicate (2 - (lg_sl ([.ref ap, .int x1])).length) Slot.unset).toArray = ls at hl ⊢
  have hl : lv_has ls 2 [(0, .ref ap), (1, .int x1)] := hl
  refine gx_q (fun Q9 hQ => ?_)
  unfold nf_Plan_pegOf at hw
  have hi_X7 : ∀ w ∈ wsX70, w ∈ wsX7_pegOf := (sub_c (nq_m (n := 5) rfl) (sub_c (nq_m (n := 6) rfl) (sub_c (nq_m (n := 7) rfl) (sub_c (nq_m (n := 8) rfl) sub_n))))
  have hf15 : (Cond.fieldLink RX7 15 "CoatsHall$Plan" (TX7 1).2.1 (TX7 1).2.2.1).before ([.ref ap, .int x1] : List Value).toArray s = true := hts (.fieldLink RX7 15 "CoatsHall$Plan" "pegFor" "[I") (nq_m (n := 1) rfl)
  refine lv_iload_n hx hb (nq_d dX7_pegOf_0_g (n := 0) rfl) rfl (lv_at hl 1 rfl) ?_
  refine lv_iconst (v := (0 : Int32)) hx hb (nq_d dX7_pegOf_0_g (n := 1) rfl) (by decide) ?_
  refine lv_bipush (v := (15 : Int32)) hx hb (nq_d dX7_pegOf_0_g (n := 2) rfl) (by decide) ?_
  refine gx_ri (wr := [(ap, .inr (7, [.ref ap_expected, .ref ap_pegFor, .ref ap_taken, .int p_sum])), (ap_pegFor, .inl (cyI, 16, .inl p_pegFor))]) (va_runSN (As := [.int x1, .int (0 : Int32), .int (15 : Int32)]) (rest := []) ⟨hx, hb, hml, hown, hts⟩ (ct_H_within l dC dI cyB cyI cyJ cyZ  _ x1 (0 : Int32) (15 : Int32) _) ⟨va_cnB 3 hts gX7_pegOf_X10_within_n26 rfl rfl rfl (nw_14 hNw) (hts (.initialized RX10) (nq_m (n := 3) rfl)) cd_X10_within.2 ⟨Nat.le_of_ble_eq_true rfl, Nat.le_of_ble_eq_true rfl⟩, hts (.static yX10_within) (nq_m (n := 2) rfl), trivial⟩ (gx_preS hK hP hD hNw [] rfl (by decide) hw) rfl rfl hl.1 rfl (lv_room (Nat.le_of_ble_eq_true rfl)) (nq_d dX7_pegOf_0_g (n := 3) rfl) ⟨Nat.zero_le _, Nat.zero_le _⟩) hP hD hS hA [] [0, 1] [0, 1] rfl rfl (by decide) (by decide) (by decide) (fun _ => [(ap, .inr (7, [.ref ap_expected, .ref ap_pegFor, .ref ap_taken, .int p_sum])), (ap_pegFor, .inl (cyI, 16, .inl p_pegFor))]) (fun _ => rfl) (fun r1 u H locs hw hP hD hS => ?_)
  try dsimp only at hw hP hD
  refine gx_if_eq (tgt := 19) hx hb (nq_d dX7_pegOf_0_g (n := 4) rfl) (by decide) hw (fun hw => ?_) (fun hw => ?_)
  · refine lv_iconst (v := ((-1) : Int32)) hx hb (nq_d dX7_pegOf_0_g (n := 10) rfl) (by decide) ?_
    exact rt_i (A1 := A) hQ hx hb hr hlocks hP hD hS () [0, 1] rfl (by decide +kernel) hw (nq_d dX7_pegOf_0_g (n := 11) rfl)
  · refine lv_aload_n hx hb (nq_d dX7_pegOf_0_g (n := 5) rfl) rfl (lv_at hl 0 rfl) ?_
    refine va_get (D := (dC, dI)) (ci := 7) (v := .ref ap_pegFor) (C := RX7) (T := TX7) (N := 4) hx hb hts hi_X7 hown hK hP 0 rfl rfl 1 (by decide) hf15 (fun _ h9 => h9) rfl (nq_d dX7_pegOf_0_g (n := 6) rfl) ?_
    refine lv_iload_n hx hb (nq_d dX7_pegOf_0_g (n := 7) rfl) rfl (lv_at hl 1 rfl) ?_
    refine gx_iald hx hb hK hP 1 1 rfl rfl (nq_d dX7_pegOf_0_g (n := 8) rfl) hw (fun v2 hw => ?_)
    refine lv_goto (tgt := 20) hx hb (nq_d dX7_pegOf_0_g (n := 9) rfl) (by decide) ?_
    exact rt_i (A1 := A) hQ hx hb hr hlocks hP hD hS () [0, 1] rfl (by decide +kernel) hw (nq_d dX7_pegOf_0_g (n := 11) rfl)
abbrev rmX7_leastWalkLeft : Room := { frames := 2, cells := 0, slots := 0, locals := 43 }
theorem cd_X7_leastWalkLeft : yX7_leastWalkLeft.cls = RX7 ∧ yX7_leastWalkLeft.cls ≠ "java/lang/invoke/MethodHandle" ∧ yX7_leastWalkLeft.cls ≠ "java/lang/invoke/VarHandle" ∧ (parseMethodDescriptor yX7_leastWalkLeft.desc).map (fun d => d.parameters.length) = some 2 := by decide +kernel
set_option maxHeartbeats 4000000 in
set_option maxRecDepth 100000 in
theorem ct_Plan_leastWalkLeft (l : Launch) (dC : Nat → ClassId) (dI : Nat → Nat → Nat) (cyB cyI cyJ cyZ : ClassId) (ah ah_kind ah_walk ah_share ah_weight ap ap_expected ap_pegFor ap_taken : Nat) (sz : Nat) (h_pegs : Int32) (h_ticks : Int32) (h_loss : Int32) (p_sum : Int32) (h_kind : Nat → Int32) (h_walk : Nat → Int32) (p_taken : Nat → Int32) (x1 : Int32) (Q : Int → Prop) : Met l yX7_leastWalkLeft wsX7_leastWalkLeft rmX7_leastWalkLeft (va_Pc [.ref ap, .int x1, .ref ah] (cPre (dC, dI) vwCl (tyS cyB cyI cyJ cyZ) [(ah, .inr (3, [.ref ah_kind, .ref ah_walk, .ref ah_share, .ref ah_weight, .int h_pegs, .int h_ticks, .int h_loss])), (ah_kind, .inl (cyI, 24, .inl h_kind)), (ah_walk, .inl (cyI, 24, .inl h_walk)), (ap, .inr (7, [.ref ap_expected, .ref ap_pegFor, .ref ap_taken, .int p_sum])), (ap_taken, .inl (cyZ, 24, .inl p_taken))] sz (nf_Plan_leastWalkLeft h_pegs.toInt (aI 24 h_kind) (aI 24 h_walk) (aI 24 p_taken) x1.toInt Q))) (va_Qi (fun (r : Int32) (_ : Unit) => Q r.toInt ) (cPost (dC, dI) vwCl (fun _ : Unit => [(ah, .inr (3, [.ref ah_kind, .ref ah_walk, .ref ah_share, .ref ah_weight, .int h_pegs, .int h_ticks, .int h_loss])), (ah_kind, .inl (cyI, 24, .inl h_kind)), (ah_walk, .inl (cyI, 24, .inl h_walk)), (ap, .inr (7, [.ref ap_expected, .ref ap_pegFor, .ref ap_taken, .int p_sum])), (ap_taken, .inl (cyZ, 24, .inl p_taken))]) (va_A [(ah, .inr (3, [.ref ah_kind, .ref ah_walk, .ref ah_share, .ref ah_weight, .int h_pegs, .int h_ticks, .int h_loss])), (ah_kind, .inl (cyI, 24, .inl h_kind)), (ah_walk, .inl (cyI, 24, .inl h_walk)), (ap, .inr (7, [.ref ap_expected, .ref ap_pegFor, .ref ap_taken, .int p_sum])), (ap_taken, .inl (cyZ, 24, .inl p_taken))] sz)) (va_A [(ah, .inr (3, [.ref ah_kind, .ref ah_walk, .ref ah_share, .ref ah_weight, .int h_pegs, .int h_ticks, .int h_loss])), (ah_kind, .inl (cyI, 24, .inl h_kind)), (ah_walk, .inl (cyI, 24, .inl h_walk)), (ap, .inr (7, [.ref ap_expected, .ref ap_pegFor, .ref ap_taken, .int p_sum])), (ap_taken, .inl (cyZ, 24, .inl p_taken))] sz)) 0 0 (va_A [(ah, .inr (3, [.ref ah_kind, .ref ah_walk, .ref ah_share, .ref ah_weight, .int h_pegs, .int h_ticks, .int h_loss])), (ah_kind, .inl (cyI, 24, .inl h_kind)), (ah_walk, .inl (cyI, 24, .inl h_walk)), (ap, .inr (7, [.ref ap_expected, .ref ap_pegFor, .ref ap_taken, .int p_sum])), (ap_taken, .inl (cyZ, 24, .inl p_taken))] sz) := by
  refine Met.ofW (cc := cX7_leastWalkLeft) (maxL := 6) (ret := (some .int)) (by decide) rfl ?_
  intro p e s m args below meth c s₁ B hml hv
  obtain ⟨rfl, hsz, hP, hK, hD0, hNw, hw⟩ := hv
  have hx := B.exec
  have hb := B.bytes
  have hr := B.returns
  have hts := atoms_spec (ws := wsX7_leastWalkLeft) B.pre
  have hown : s.vm.findClass RX7 = some m.cls := findClass_of_methodNamed B.named
  have hlocks := B.notSynchronized
  subst hsz
  have hD := hD0.self (sz := s.heap.size)
  generalize hAe : va_A [(ah, .inr (3, [.ref ah_kind, .ref ah_walk, .ref ah_share, .ref ah_weight, .int h_pegs, .int h_ticks, .int h_loss])), (ah_kind, .inl (cyI, 24, .inl h_kind)), (ah_walk, .inl (cyI, 24, .inl h_walk)), (ap, .inr (7, [.ref ap_expected, .ref ap_pegFor, .ref ap_taken, .int p_sum])), (ap_taken, .inl (cyZ, 24, .inl p_taken))] s.heap.size = A at hD ⊢
  have hA : ∀ q : Nat, s.heap.size ≤ q → A q := fun q h => by rw [← hAe]; exact Or.inr h
  have hS : va_S A s.heap s.heap [] := va_S.rf
  have hl := lv_entry ([.ref ap, .int x1, .ref ah]) (n := 6) (Nat.le_of_ble_eq_true rfl)
  rw [lg_entry_eq]
  generalize (lg_sl ([.ref ap, .int x1, .ref ah]) ++ List.replicate (6 - (lg_sl ([.ref ap, .int x1, .ref ah])).length) Slot.unset).toArray = ls at hl ⊢
  have hl : lv_has ls 6 [(0, .ref ap), (1, .int x1), (2, .ref ah)] := hl
  refine gx_q (fun Q9 hQ => ?_)
  unfold nf_Plan_leastWalkLeft at hw
  have hi_X3 : ∀ w ∈ wsX30, w ∈ wsX7_leastWalkLeft := (sub_c (nq_m (n := 15) rfl) (sub_c (nq_m (n := 16) rfl) (sub_c (nq_m (n := 17) rfl) (sub_c (nq_m (n := 18) rfl) (sub_c (nq_m (n := 19) rfl) (sub_c (nq_m (n := 20) rfl) (sub_c (nq_m (n := 21) rfl) sub_n)))))))
  have hf59 : (Cond.fieldLink RX7 59 "CoatsHall$Hall" (TX3 4).2.1 (TX3 4).2.2.1).before ([.ref ap, .int x1, .ref ah] : List Value).toArray s = true := hts (.fieldLink RX7 59 "CoatsHall$Hall" "pegs" "I") (nq_m (n := 1) rfl)
  have hi_X7 : ∀ w ∈ wsX70, w ∈ wsX7_leastWalkLeft := (sub_c (nq_m (n := 22) rfl) (sub_c (nq_m (n := 23) rfl) (sub_c (nq_m (n := 24) rfl) (sub_c (nq_m (n := 25) rfl) sub_n))))
  have hf18 : (Cond.fieldLink RX7 18 "CoatsHall$Plan" (TX7 2).2.1 (TX7 2).2.2.1).before ([.ref ap, .int x1, .ref ah] : List Value).toArray s = true := hts (.fieldLink RX7 18 "CoatsHall$Plan" "taken" "[Z") (nq_m (n := 2) rfl)
  have hf66 : (Cond.fieldLink RX7 66 "CoatsHall$Hall" (TX3 1).2.1 (TX3 1).2.2.1).before ([.ref ap, .int x1, .ref ah] : List Value).toArray s = true := hts (.fieldLink RX7 66 "CoatsHall$Hall" "walk" "[I") (nq_m (n := 3) rfl)
  refine lv_iconst (v := ((-1) : Int32)) hx hb (nq_d dX7_leastWalkLeft_0_g (n := 0) rfl) (by decide) ?_
  refine lv_istore_n (lv' := [(3, .int ((-1) : Int32)), (0, .ref ap), (1, .int x1), (2, .ref ah)]) hx hb (nq_d dX7_leastWalkLeft_0_g (n := 1) rfl) rfl hl (by decide) rfl (fun ls hl => ?_)
  refine lv_iconst (v := (0 : Int32)) hx hb (nq_d dX7_leastWalkLeft_0_g (n := 2) rfl) (by decide) ?_
  refine lv_istore (lv' := [(4, .int (0 : Int32)), (3, .int ((-1) : Int32)), (0, .ref ap), (1, .int x1), (2, .ref ah)]) hx hb (nq_d dX7_leastWalkLeft_0_g (n := 3) rfl) hl (by decide) rfl (fun ls hl => ?_)
  refine nlp2_el hw (fun X0_14 X1_14 => ∀ (l3_1 : Int32) (l4_2 : Int32), X0_14 = l3_1.toInt → X1_14 = l4_2.toInt → ∀ (H : Heap) (locs : List Loc) (ls : Array Slot), va_P (dC, dI) vwCl [(ah, .inr (3, [.ref ah_kind, .ref ah_walk, .ref ah_share, .ref ah_weight, .int h_pegs, .int h_ticks, .int h_loss])), (ah_kind, .inl (cyI, 24, .inl h_kind)), (ah_walk, .inl (cyI, 24, .inl h_walk)), (ap, .inr (7, [.ref ap_expected, .ref ap_pegFor, .ref ap_taken, .int p_sum])), (ap_taken, .inl (cyZ, 24, .inl p_taken))] H → va_D A [(ah, .inr (3, [.ref ah_kind, .ref ah_walk, .ref ah_share, .ref ah_weight, .int h_pegs, .int h_ticks, .int h_loss])), (ah_kind, .inl (cyI, 24, .inl h_kind)), (ah_walk, .inl (cyI, 24, .inl h_walk)), (ap, .inr (7, [.ref ap_expected, .ref ap_pegFor, .ref ap_taken, .int p_sum])), (ap_taken, .inl (cyZ, 24, .inl p_taken))] → va_S A s.heap H locs → lv_has ls 6 [(0, .ref ap), (1, .int x1), (2, .ref ah), (3, .int l3_1), (4, .int l4_2)] → W p l e (headSpec wsX7_leastWalkLeft rmX7_leastWalkLeft).room s m ([.ref ap, .int x1, .ref ah] : List Value).toArray below meth c H locs 0 0 Q9 (F0 m 5 ls [])) (fun self3 hPself3 X0_14 X1_14 hw l3_1 l4_2 eX0_14 eX1_14 H locs ls hP hD hS hl => ?_) ((-1) : Int32) (0 : Int32) rfl rfl _ _ _ hP hD hS (lv_sub hl [2, 3, 4, 1, 0] rfl)
  subst eX0_14
  subst eX1_14
  refine lv_iload hx hb (nq_d dX7_leastWalkLeft_0_g (n := 4) rfl) (lv_at hl 4 rfl) ?_
  refine lv_aload_n hx hb (nq_d dX7_leastWalkLeft_0_g (n := 5) rfl) rfl (lv_at hl 2 rfl) ?_
  refine va_get (D := (dC, dI)) (ci := 3) (v := .int h_pegs) (C := RX3) (T := TX3) (N := 7) hx hb hts hi_X3 hown hK hP 0 rfl rfl 4 (by decide) hf59 (fun _ h9 => h9) rfl (nq_d dX7_leastWalkLeft_0_g (n := 6) rfl) ?_
  refine gx_icmp_ge (tgt := 76) hx hb (nq_d dX7_leastWalkLeft_0_g (n := 7) rfl) (by decide) hw (fun hw => ?_) (fun hw => ?_)
  · refine lv_iload_n hx hb (nq_d dX7_leastWalkLeft_76_g (n := 0) rfl) rfl (lv_at hl 3 rfl) ?_
    exact rt_i (A1 := A) hQ hx hb hr hlocks hP hD hS () [0, 1, 2, 3, 4] rfl (by decide +kernel) hw (nq_d dX7_leastWalkLeft_76_g (n := 1) rfl)
  · refine lv_aload_n hx hb (nq_d dX7_leastWalkLeft_0_g (n := 8) rfl) rfl (lv_at hl 0 rfl) ?_
    refine va_get (D := (dC, dI)) (ci := 7) (v := .ref ap_taken) (C := RX7) (T := TX7) (N := 4) hx hb hts hi_X7 hown hK hP 3 rfl rfl 2 (by decide) hf18 (fun _ h9 => h9) rfl (nq_d dX7_leastWalkLeft_0_g (n := 9) rfl) ?_
    refine lv_iload hx hb (nq_d dX7_leastWalkLeft_0_g (n := 10) rfl) (lv_at hl 4 rfl) ?_
    refine gx_zald hx hb hK hP 4 3 rfl rfl (nq_d dX7_leastWalkLeft_0_g (n := 11) rfl) hw (fun v4 hw => ?_)
    refine jn1_el hw (fun j6 hj6 hw => ?_)
    have Jj6 : ∀ (t5 : Int32) (H : Heap) (locs : List Loc) (ls : Array Slot), va_P (dC, dI) vwCl [(ah, .inr (3, [.ref ah_kind, .ref ah_walk, .ref ah_share, .ref ah_weight, .int h_pegs, .int h_ticks, .int h_loss])), (ah_kind, .inl (cyI, 24, .inl h_kind)), (ah_walk, .inl (cyI, 24, .inl h_walk)), (ap, .inr (7, [.ref ap_expected, .ref ap_pegFor, .ref ap_taken, .int p_sum])), (ap_taken, .inl (cyZ, 24, .inl p_taken))] H → va_D A [(ah, .inr (3, [.ref ah_kind, .ref ah_walk, .ref ah_share, .ref ah_weight, .int h_pegs, .int h_ticks, .int h_loss])), (ah_kind, .inl (cyI, 24, .inl h_kind)), (ah_walk, .inl (cyI, 24, .inl h_walk)), (ap, .inr (7, [.ref ap_expected, .ref ap_pegFor, .ref ap_taken, .int p_sum])), (ap_taken, .inl (cyZ, 24, .inl p_taken))] → va_S A s.heap H locs → lv_has ls 6 [(0, .ref ap), (1, .int x1), (2, .ref ah), (3, .int l3_1), (4, .int l4_2)] → j6 t5.toInt → W p l e (headSpec wsX7_leastWalkLeft rmX7_leastWalkLeft).room s m ([.ref ap, .int x1, .ref ah] : List Value).toArray below meth c H locs 0 0 Q9 (F0 m 39 ls [.int t5]) := by
      intro t5 H locs ls hP hD hS hl hw
      have hw := hj6 _ hw
      refine lv_istore (lv' := [(5, .int t5), (0, .ref ap), (1, .int x1), (2, .ref ah), (3, .int l3_1), (4, .int l4_2)]) hx hb (nq_d dX7_leastWalkLeft_0_g (n := 21) rfl) hl (by decide) rfl (fun ls hl => ?_)
      refine lv_iload hx hb (nq_d dX7_leastWalkLeft_0_g (n := 22) rfl) (lv_at hl 0 rfl) ?_
      refine jn1_el hw (fun j8 hj8 hw => ?_)
      have Jj8 : ∀ (l3_7 : Int32) (H : Heap) (locs : List Loc) (ls : Array Slot), va_P (dC, dI) vwCl [(ah, .inr (3, [.ref ah_kind, .ref ah_walk, .ref ah_share, .ref ah_weight, .int h_pegs, .int h_ticks, .int h_loss])), (ah_kind, .inl (cyI, 24, .inl h_kind)), (ah_walk, .inl (cyI, 24, .inl h_walk)), (ap, .inr (7, [.ref ap_expected, .ref ap_pegFor, .ref ap_taken, .int p_sum])), (ap_taken, .inl (cyZ, 24, .inl p_taken))] H → va_D A [(ah, .inr (3, [.ref ah_kind, .ref ah_walk, .ref ah_share, .ref ah_weight, .int h_pegs, .int h_ticks, .int h_loss])), (ah_kind, .inl (cyI, 24, .inl h_kind)), (ah_walk, .inl (cyI, 24, .inl h_walk)), (ap, .inr (7, [.ref ap_expected, .ref ap_pegFor, .ref ap_taken, .int p_sum])), (ap_taken, .inl (cyZ, 24, .inl p_taken))] → va_S A s.heap H locs → lv_has ls 6 [(0, .ref ap), (1, .int x1), (2, .ref ah), (3, .int l3_7), (4, .int l4_2)] → j8 l3_7.toInt → W p l e (headSpec wsX7_leastWalkLeft rmX7_leastWalkLeft).room s m ([.ref ap, .int x1, .ref ah] : List Value).toArray below meth c H locs 0 0 Q9 (F0 m 70 ls []) := by
        intro l3_7 H locs ls hP hD hS hl hw
        have hw := hj8 _ hw
        refine gx_iinc (k := 4) (z := (1 : Int32)) (lv' := fun v9 => [(4, .int v9), (0, .ref ap), (1, .int x1), (2, .ref ah), (3, .int l3_7)]) hx hb (nq_d dX7_leastWalkLeft_0_g (n := 38) rfl) hl rfl (by decide) (by decide) (fun _ => rfl) hw (fun v9 ls hw hl => ?_)
        refine lv_goto (tgt := 5) hx hb (nq_d dX7_leastWalkLeft_0_g (n := 39) rfl) (by decide) ?_
        exact hPself3 _ _ hw l3_7 v9 rfl rfl _ _ _ hP hD hS (lv_sub hl [1, 2, 3, 4, 0] rfl)
      refine gx_if_eq (tgt := 70) hx hb (nq_d dX7_leastWalkLeft_0_g (n := 23) rfl) (by decide) hw (fun hw => ?_) (fun hw => ?_)
      · exact Jj8 l3_1 _ _ _ hP hD hS (lv_sub hl [1, 2, 3, 4, 5] rfl) hw
      · refine lv_iload_n hx hb (nq_d dX7_leastWalkLeft_0_g (n := 24) rfl) rfl (lv_at hl 4 rfl) ?_
        refine lv_iconst (v := ((-1) : Int32)) hx hb (nq_d dX7_leastWalkLeft_0_g (n := 25) rfl) (by decide) ?_
        refine jn0_el hw (fun j10 hj10 hw => ?_)
        have Jj10 : ∀  (H : Heap) (locs : List Loc) (ls : Array Slot), va_P (dC, dI) vwCl [(ah, .inr (3, [.ref ah_kind, .ref ah_walk, .ref ah_share, .ref ah_weight, .int h_pegs, .int h_ticks, .int h_loss])), (ah_kind, .inl (cyI, 24, .inl h_kind)), (ah_walk, .inl (cyI, 24, .inl h_walk)), (ap, .inr (7, [.ref ap_expected, .ref ap_pegFor, .ref ap_taken, .int p_sum])), (ap_taken, .inl (cyZ, 24, .inl p_taken))] H → va_D A [(ah, .inr (3, [.ref ah_kind, .ref ah_walk, .ref ah_share, .ref ah_weight, .int h_pegs, .int h_ticks, .int h_loss])), (ah_kind, .inl (cyI, 24, .inl h_kind)), (ah_walk, .inl (cyI, 24, .inl h_walk)), (ap, .inr (7, [.ref ap_expected, .ref ap_pegFor, .ref ap_taken, .int p_sum])), (ap_taken, .inl (cyZ, 24, .inl p_taken))] → va_S A s.heap H locs → lv_has ls 6 [(0, .ref ap), (1, .int x1), (2, .ref ah), (4, .int l4_2)] → j10  → W p l e (headSpec wsX7_leastWalkLeft rmX7_leastWalkLeft).room s m ([.ref ap, .int x1, .ref ah] : List Value).toArray below meth c H locs 0 0 Q9 (F0 m 67 ls []) := by
          intro  H locs ls hP hD hS hl hw
          have hw := hj10  hw
          refine lv_iload hx hb (nq_d dX7_leastWalkLeft_0_g (n := 36) rfl) (lv_at hl 3 rfl) ?_
          refine lv_istore_n (lv' := [(3, .int l4_2), (0, .ref ap), (1, .int x1), (2, .ref ah), (4, .int l4_2)]) hx hb (nq_d dX7_leastWalkLeft_0_g (n := 37) rfl) rfl hl (by decide) rfl (fun ls hl => ?_)
          exact Jj8 l4_2 _ _ _ hP hD hS (lv_sub hl [1, 2, 3, 0, 4] rfl) hw
        refine gx_icmp_eq (tgt := 67) hx hb (nq_d dX7_leastWalkLeft_0_g (n := 26) rfl) (by decide) hw (fun hw => ?_) (fun hw => ?_)
        · exact Jj10  _ _ _ hP hD hS (lv_sub hl [1, 2, 3, 5] rfl) hw
        · refine lv_aload_n hx hb (nq_d dX7_leastWalkLeft_0_g (n := 27) rfl) rfl (lv_at hl 3 rfl) ?_
          refine va_get (D := (dC, dI)) (ci := 3) (v := .ref ah_walk) (C := RX3) (T := TX3) (N := 7) hx hb hts hi_X3 hown hK hP 0 rfl rfl 1 (by decide) hf66 (fun _ h9 => h9) rfl (nq_d dX7_leastWalkLeft_0_g (n := 28) rfl) ?_
          refine lv_iload hx hb (nq_d dX7_leastWalkLeft_0_g (n := 29) rfl) (lv_at hl 5 rfl) ?_
          refine gx_iald hx hb hK hP 2 1 rfl rfl (nq_d dX7_leastWalkLeft_0_g (n := 30) rfl) hw (fun v11 hw => ?_)
          refine lv_aload_n hx hb (nq_d dX7_leastWalkLeft_0_g (n := 31) rfl) rfl (lv_at hl 3 rfl) ?_
          refine va_get (D := (dC, dI)) (ci := 3) (v := .ref ah_walk) (C := RX3) (T := TX3) (N := 7) hx hb hts hi_X3 hown hK hP 0 rfl rfl 1 (by decide) hf66 (fun _ h9 => h9) rfl (nq_d dX7_leastWalkLeft_0_g (n := 32) rfl) ?_
          refine lv_iload_n hx hb (nq_d dX7_leastWalkLeft_0_g (n := 33) rfl) rfl (lv_at hl 4 rfl) ?_
          refine gx_iald hx hb hK hP 2 1 rfl rfl (nq_d dX7_leastWalkLeft_0_g (n := 34) rfl) hw (fun v12 hw => ?_)
          refine gx_icmp_ge (tgt := 70) hx hb (nq_d dX7_leastWalkLeft_0_g (n := 35) rfl) (by decide) hw (fun hw => ?_) (fun hw => ?_)
          · exact Jj8 l3_1 _ _ _ hP hD hS (lv_sub hl [1, 2, 3, 4, 5] rfl) hw
          · exact Jj10  _ _ _ hP hD hS (lv_sub hl [1, 2, 3, 5] rfl) hw
    refine jn0_el hw (fun j13 hj13 hw => ?_)
    have Jj13 : ∀  (H : Heap) (locs : List Loc) (ls : Array Slot), va_P (dC, dI) vwCl [(ah, .inr (3, [.ref ah_kind, .ref ah_walk, .ref ah_share, .ref ah_weight, .int h_pegs, .int h_ticks, .int h_loss])), (ah_kind, .inl (cyI, 24, .inl h_kind)), (ah_walk, .inl (cyI, 24, .inl h_walk)), (ap, .inr (7, [.ref ap_expected, .ref ap_pegFor, .ref ap_taken, .int p_sum])), (ap_taken, .inl (cyZ, 24, .inl p_taken))] H → va_D A [(ah, .inr (3, [.ref ah_kind, .ref ah_walk, .ref ah_share, .ref ah_weight, .int h_pegs, .int h_ticks, .int h_loss])), (ah_kind, .inl (cyI, 24, .inl h_kind)), (ah_walk, .inl (cyI, 24, .inl h_walk)), (ap, .inr (7, [.ref ap_expected, .ref ap_pegFor, .ref ap_taken, .int p_sum])), (ap_taken, .inl (cyZ, 24, .inl p_taken))] → va_S A s.heap H locs → lv_has ls 6 [(0, .ref ap), (1, .int x1), (2, .ref ah), (3, .int l3_1), (4, .int l4_2)] → j13  → W p l e (headSpec wsX7_leastWalkLeft rmX7_leastWalkLeft).room s m ([.ref ap, .int x1, .ref ah] : List Value).toArray below meth c H locs 0 0 Q9 (F0 m 38 ls []) := by
      intro  H locs ls hP hD hS hl hw
      have hw := hj13  hw
      refine lv_iconst (v := (0 : Int32)) hx hb (nq_d dX7_leastWalkLeft_0_g (n := 20) rfl) (by decide) ?_
      exact Jj6 (0 : Int32) _ _ _ hP hD hS (lv_sub hl [0, 1, 2, 3, 4] rfl) hw
    refine gx_if_ne (tgt := 38) hx hb (nq_d dX7_leastWalkLeft_0_g (n := 12) rfl) (by decide) hw (fun hw => ?_) (fun hw => ?_)
    · exact Jj13  _ _ _ hP hD hS (lv_sub hl [0, 1, 2, 3, 4] rfl) hw
    · refine lv_aload_n hx hb (nq_d dX7_leastWalkLeft_0_g (n := 13) rfl) rfl (lv_at hl 2 rfl) ?_
      refine lv_iload hx hb (nq_d dX7_leastWalkLeft_0_g (n := 14) rfl) (lv_at hl 4 rfl) ?_
      refine lv_iload_n hx hb (nq_d dX7_leastWalkLeft_0_g (n := 15) rfl) rfl (lv_at hl 1 rfl) ?_
      refine gx_ri (wr := [(ah_walk, .inl (cyI, 24, .inl h_walk)), (ap, .inr (7, [.ref ap_expected, .ref ap_pegFor, .ref ap_taken, .int p_sum])), (ap_taken, .inl (cyZ, 24, .inl p_taken))]) (va_runV (As := [.int l4_2, .int x1]) (rest := []) ⟨hx, hb, hml, hown, hts⟩ (ct_Hall_isOfKind l dC dI cyB cyI cyJ cyZ ah ah_kind ah_walk ah_share ah_weight _ h_pegs h_ticks h_loss h_kind l4_2 x1 _) (cwV 2 hts gX7_leastWalkLeft_X3_isOfKind rfl rfl rfl cd_X3_isOfKind ⟨Nat.le_of_ble_eq_true rfl, Nat.le_of_ble_eq_true rfl⟩) (gx_preV hK hP hD hNw [0, 1] rfl (by decide +kernel) hw 0 (ci := 3) rfl rfl rfl) rfl rfl hl.1 rfl (lv_room (Nat.le_of_ble_eq_true rfl)) (nq_d dX7_leastWalkLeft_0_g (n := 16) rfl) ⟨Nat.zero_le _, Nat.zero_le _⟩) hP hD hS hA [0, 1] [2, 3, 4] [3, 4, 0, 1, 2] rfl rfl (by decide) (by decide) (by decide) (fun _ => [(ah, .inr (3, [.ref ah_kind, .ref ah_walk, .ref ah_share, .ref ah_weight, .int h_pegs, .int h_ticks, .int h_loss])), (ah_kind, .inl (cyI, 24, .inl h_kind)), (ah_walk, .inl (cyI, 24, .inl h_walk)), (ap, .inr (7, [.ref ap_expected, .ref ap_pegFor, .ref ap_taken, .int p_sum])), (ap_taken, .inl (cyZ, 24, .inl p_taken))]) (fun _ => rfl) (fun r14 u H locs hw hP hD hS => ?_)
      try dsimp only at hw hP hD
      refine gx_if_eq (tgt := 38) hx hb (nq_d dX7_leastWalkLeft_0_g (n := 17) rfl) (by decide) hw (fun hw => ?_) (fun hw => ?_)
      · exact Jj13  _ _ _ hP hD hS (lv_sub hl [0, 1, 2, 3, 4] rfl) hw
      · refine lv_iconst (v := (1 : Int32)) hx hb (nq_d dX7_leastWalkLeft_0_g (n := 18) rfl) (by decide) ?_
        refine lv_goto (tgt := 39) hx hb (nq_d dX7_leastWalkLeft_0_g (n := 19) rfl) (by decide) ?_
        exact Jj6 (1 : Int32) _ _ _ hP hD hS (lv_sub hl [0, 1, 2, 3, 4] rfl) hw
abbrev rmX7_greatestLeft : Room := { frames := 0, cells := 0, slots := 0, locals := 0 }
theorem cd_X7_greatestLeft : yX7_greatestLeft.cls = RX7 ∧ yX7_greatestLeft.cls ≠ "java/lang/invoke/MethodHandle" ∧ yX7_greatestLeft.cls ≠ "java/lang/invoke/VarHandle" ∧ (parseMethodDescriptor yX7_greatestLeft.desc).map (fun d => d.parameters.length) = some 1 := by decide +kernel
set_option maxHeartbeats 4000000 in
set_option maxRecDepth 100000 in
theorem ct_Plan_greatestLeft (l : Launch) (dC : Nat → ClassId) (dI : Nat → Nat → Nat) (cyB cyI cyJ cyZ : ClassId) (ag ag_sort ag_kind ag_tip ag_marks ag_brass ag_peg ag_has ap ap_expected ap_pegFor ap_taken : Nat) (sz : Nat) (g_number : Int32) (p_sum : Int32) (p_expected : Nat → Int32) (p_pegFor : Nat → Int32) (Q : Int → Prop) : Met l yX7_greatestLeft wsX7_greatestLeft rmX7_greatestLeft (va_Pc [.ref ap, .ref ag] (cPre (dC, dI) vwCl (tyS cyB cyI cyJ cyZ) [(ag, .inr (2, [.int g_number, .ref ag_sort, .ref ag_kind, .ref ag_tip, .ref ag_marks, .ref ag_brass, .ref ag_peg, .ref ag_has])), (ap, .inr (7, [.ref ap_expected, .ref ap_pegFor, .ref ap_taken, .int p_sum])), (ap_expected, .inl (cyI, 16, .inl p_expected)), (ap_pegFor, .inl (cyI, 16, .inl p_pegFor))] sz (nf_Plan_greatestLeft g_number.toInt (aI 16 p_expected) (aI 16 p_pegFor)  Q))) (va_Qi (fun (r : Int32) (_ : Unit) => Q r.toInt ) (cPost (dC, dI) vwCl (fun _ : Unit => [(ag, .inr (2, [.int g_number, .ref ag_sort, .ref ag_kind, .ref ag_tip, .ref ag_marks, .ref ag_brass, .ref ag_peg, .ref ag_has])), (ap, .inr (7, [.ref ap_expected, .ref ap_pegFor, .ref ap_taken, .int p_sum])), (ap_expected, .inl (cyI, 16, .inl p_expected)), (ap_pegFor, .inl (cyI, 16, .inl p_pegFor))]) (va_A [(ag, .inr (2, [.int g_number, .ref ag_sort, .ref ag_kind, .ref ag_tip, .ref ag_marks, .ref ag_brass, .ref ag_peg, .ref ag_has])), (ap, .inr (7, [.ref ap_expected, .ref ap_pegFor, .ref ap_taken, .int p_sum])), (ap_expected, .inl (cyI, 16, .inl p_expected)), (ap_pegFor, .inl (cyI, 16, .inl p_pegFor))] sz)) (va_A [(ag, .inr (2, [.int g_number, .ref ag_sort, .ref ag_kind, .ref ag_tip, .ref ag_marks, .ref ag_brass, .ref ag_peg, .ref ag_has])), (ap, .inr (7, [.ref ap_expected, .ref ap_pegFor, .ref ap_taken, .int p_sum])), (ap_expected, .inl (cyI, 16, .inl p_expected)), (ap_pegFor, .inl (cyI, 16, .inl p_pegFor))] sz)) 0 0 (va_A [(ag, .inr (2, [.int g_number, .ref ag_sort, .ref ag_kind, .ref ag_tip, .ref ag_marks, .ref ag_brass, .ref ag_peg, .ref ag_has])), (ap, .inr (7, [.ref ap_expected, .ref ap_pegFor, .ref ap_taken, .int p_sum])), (ap_expected, .inl (cyI, 16, .inl p_expected)), (ap_pegFor, .inl (cyI, 16, .inl p_pegFor))] sz) := by
  refine Met.ofW (cc := cX7_greatestLeft) (maxL := 4) (ret := (some .int)) (by decide) rfl ?_
  intro p e s m args below meth c s₁ B hml hv
  obtain ⟨rfl, hsz, hP, hK, hD0, hNw, hw⟩ := hv
  have hx := B.exec
  have hb := B.bytes
  have hr := B.returns
  have hts := atoms_spec (ws := wsX7_greatestLeft) B.pre
  have hown : s.vm.findClass RX7 = some m.cls := findClass_of_methodNamed B.named
  have hlocks := B.notSynchronized
  subst hsz
  have hD := hD0.self (sz := s.heap.size)
  generalize hAe : va_A [(ag, .inr (2, [.int g_number, .ref ag_sort, .ref ag_kind, .ref ag_tip, .ref ag_marks, .ref ag_brass, .ref ag_peg, .ref ag_has])), (ap, .inr (7, [.ref ap_expected, .ref ap_pegFor, .ref ap_taken, .int p_sum])), (ap_expected, .inl (cyI, 16, .inl p_expected)), (ap_pegFor, .inl (cyI, 16, .inl p_pegFor))] s.heap.size = A at hD ⊢
  have hA : ∀ q : Nat, s.heap.size ≤ q → A q := fun q h => by rw [← hAe]; exact Or.inr h
  have hS : va_S A s.heap s.heap [] := va_S.rf
  have hl := lv_entry ([.ref ap, .ref ag]) (n := 4) (Nat.le_of_ble_eq_true rfl)
  rw [lg_entry_eq]
  generalize (lg_sl ([.ref ap, .ref ag]) ++ List.replicate (4 - (lg_sl ([.ref ap, .ref ag])).length) Slot.unset).toArray = ls at hl ⊢
  have hl : lv_has ls 4 [(0, .ref ap), (1, .ref ag)] := hl
  refine gx_q (fun Q9 hQ => ?_)
  unfold nf_Plan_greatestLeft at hw
  have hi_X2 : ∀ w ∈ wsX20, w ∈ wsX7_greatestLeft := (sub_c (nq_m (n := 4) rfl) (sub_c (nq_m (n := 5) rfl) (sub_c (nq_m (n := 6) rfl) (sub_c (nq_m (n := 7) rfl) (sub_c (nq_m (n := 8) rfl) (sub_c (nq_m (n := 9) rfl) (sub_c (nq_m (n := 10) rfl) (sub_c (nq_m (n := 11) rfl) sub_n))))))))
  have hf30 : (Cond.fieldLink RX7 30 "CoatsHall$Guests" (TX2 0).2.1 (TX2 0).2.2.1).before ([.ref ap, .ref ag] : List Value).toArray s = true := hts (.fieldLink RX7 30 "CoatsHall$Guests" "number" "I") (nq_m (n := 1) rfl)
  have hi_X7 : ∀ w ∈ wsX70, w ∈ wsX7_greatestLeft := (sub_c (nq_m (n := 12) rfl) (sub_c (nq_m (n := 13) rfl) (sub_c (nq_m (n := 14) rfl) (sub_c (nq_m (n := 15) rfl) sub_n))))
  have hf15 : (Cond.fieldLink RX7 15 "CoatsHall$Plan" (TX7 1).2.1 (TX7 1).2.2.1).before ([.ref ap, .ref ag] : List Value).toArray s = true := hts (.fieldLink RX7 15 "CoatsHall$Plan" "pegFor" "[I") (nq_m (n := 2) rfl)
  have hf9 : (Cond.fieldLink RX7 9 "CoatsHall$Plan" (TX7 0).2.1 (TX7 0).2.2.1).before ([.ref ap, .ref ag] : List Value).toArray s = true := hts (.fieldLink RX7 9 "CoatsHall$Plan" "expected" "[I") (nq_m (n := 3) rfl)
  refine lv_iconst (v := ((-1) : Int32)) hx hb (nq_d dX7_greatestLeft_0_g (n := 0) rfl) (by decide) ?_
  refine lv_istore_n (lv' := [(2, .int ((-1) : Int32)), (0, .ref ap), (1, .ref ag)]) hx hb (nq_d dX7_greatestLeft_0_g (n := 1) rfl) rfl hl (by decide) rfl (fun ls hl => ?_)
  refine lv_iconst (v := (0 : Int32)) hx hb (nq_d dX7_greatestLeft_0_g (n := 2) rfl) (by decide) ?_
  refine lv_istore_n (lv' := [(3, .int (0 : Int32)), (2, .int ((-1) : Int32)), (0, .ref ap), (1, .ref ag)]) hx hb (nq_d dX7_greatestLeft_0_g (n := 3) rfl) rfl hl (by decide) rfl (fun ls hl => ?_)
  refine nlp2_el hw (fun X0_10 X1_10 => ∀ (l2_1 : Int32) (l3_2 : Int32), X0_10 = l2_1.toInt → X1_10 = l3_2.toInt → ∀ (H : Heap) (locs : List Loc) (ls : Array Slot), va_P (dC, dI) vwCl [(ag, .inr (2, [.int g_number, .ref ag_sort, .ref ag_kind, .ref ag_tip, .ref ag_marks, .ref ag_brass, .ref ag_peg, .ref ag_has])), (ap, .inr (7, [.ref ap_expected, .ref ap_pegFor, .ref ap_taken, .int p_sum])), (ap_expected, .inl (cyI, 16, .inl p_expected)), (ap_pegFor, .inl (cyI, 16, .inl p_pegFor))] H → va_D A [(ag, .inr (2, [.int g_number, .ref ag_sort, .ref ag_kind, .ref ag_tip, .ref ag_marks, .ref ag_brass, .ref ag_peg, .ref ag_has])), (ap, .inr (7, [.ref ap_expected, .ref ap_pegFor, .ref ap_taken, .int p_sum])), (ap_expected, .inl (cyI, 16, .inl p_expected)), (ap_pegFor, .inl (cyI, 16, .inl p_pegFor))] → va_S A s.heap H locs → lv_has ls 4 [(0, .ref ap), (1, .ref ag), (2, .int l2_1), (3, .int l3_2)] → W p l e (headSpec wsX7_greatestLeft rmX7_greatestLeft).room s m ([.ref ap, .ref ag] : List Value).toArray below meth c H locs 0 0 Q9 (F0 m 4 ls [])) (fun self3 hPself3 X0_10 X1_10 hw l2_1 l3_2 eX0_10 eX1_10 H locs ls hP hD hS hl => ?_) ((-1) : Int32) (0 : Int32) rfl rfl _ _ _ hP hD hS (lv_sub hl [2, 3, 1, 0] rfl)
  subst eX0_10
  subst eX1_10
  refine lv_iload_n hx hb (nq_d dX7_greatestLeft_0_g (n := 4) rfl) rfl (lv_at hl 3 rfl) ?_
  refine lv_aload_n hx hb (nq_d dX7_greatestLeft_0_g (n := 5) rfl) rfl (lv_at hl 1 rfl) ?_
  refine va_get (D := (dC, dI)) (ci := 2) (v := .int g_number) (C := RX2) (T := TX2) (N := 8) hx hb hts hi_X2 hown hK hP 0 rfl rfl 0 (by decide) hf30 (fun _ h9 => h9) rfl (nq_d dX7_greatestLeft_0_g (n := 6) rfl) ?_
  refine gx_icmp_ge (tgt := 50) hx hb (nq_d dX7_greatestLeft_0_g (n := 7) rfl) (by decide) hw (fun hw => ?_) (fun hw => ?_)
  · refine lv_iload_n hx hb (nq_d dX7_greatestLeft_0_g (n := 30) rfl) rfl (lv_at hl 2 rfl) ?_
    exact rt_i (A1 := A) hQ hx hb hr hlocks hP hD hS () [0, 1, 2, 3] rfl (by decide +kernel) hw (nq_d dX7_greatestLeft_0_g (n := 31) rfl)
  · refine lv_aload_n hx hb (nq_d dX7_greatestLeft_0_g (n := 8) rfl) rfl (lv_at hl 0 rfl) ?_
    refine va_get (D := (dC, dI)) (ci := 7) (v := .ref ap_pegFor) (C := RX7) (T := TX7) (N := 4) hx hb hts hi_X7 hown hK hP 1 rfl rfl 1 (by decide) hf15 (fun _ h9 => h9) rfl (nq_d dX7_greatestLeft_0_g (n := 9) rfl) ?_
    refine lv_iload_n hx hb (nq_d dX7_greatestLeft_0_g (n := 10) rfl) rfl (lv_at hl 3 rfl) ?_
    refine gx_iald hx hb hK hP 3 1 rfl rfl (nq_d dX7_greatestLeft_0_g (n := 11) rfl) hw (fun v4 hw => ?_)
    refine lv_iconst (v := ((-1) : Int32)) hx hb (nq_d dX7_greatestLeft_0_g (n := 12) rfl) (by decide) ?_
    refine jn1_el hw (fun j6 hj6 hw => ?_)
    have Jj6 : ∀ (l2_5 : Int32) (H : Heap) (locs : List Loc) (ls : Array Slot), va_P (dC, dI) vwCl [(ag, .inr (2, [.int g_number, .ref ag_sort, .ref ag_kind, .ref ag_tip, .ref ag_marks, .ref ag_brass, .ref ag_peg, .ref ag_has])), (ap, .inr (7, [.ref ap_expected, .ref ap_pegFor, .ref ap_taken, .int p_sum])), (ap_expected, .inl (cyI, 16, .inl p_expected)), (ap_pegFor, .inl (cyI, 16, .inl p_pegFor))] H → va_D A [(ag, .inr (2, [.int g_number, .ref ag_sort, .ref ag_kind, .ref ag_tip, .ref ag_marks, .ref ag_brass, .ref ag_peg, .ref ag_has])), (ap, .inr (7, [.ref ap_expected, .ref ap_pegFor, .ref ap_taken, .int p_sum])), (ap_expected, .inl (cyI, 16, .inl p_expected)), (ap_pegFor, .inl (cyI, 16, .inl p_pegFor))] → va_S A s.heap H locs → lv_has ls 4 [(0, .ref ap), (1, .ref ag), (2, .int l2_5), (3, .int l3_2)] → j6 l2_5.toInt → W p l e (headSpec wsX7_greatestLeft rmX7_greatestLeft).room s m ([.ref ap, .ref ag] : List Value).toArray below meth c H locs 0 0 Q9 (F0 m 44 ls []) := by
      intro l2_5 H locs ls hP hD hS hl hw
      have hw := hj6 _ hw
      refine gx_iinc (k := 3) (z := (1 : Int32)) (lv' := fun v7 => [(3, .int v7), (0, .ref ap), (1, .ref ag), (2, .int l2_5)]) hx hb (nq_d dX7_greatestLeft_0_g (n := 28) rfl) hl rfl (by decide) (by decide) (fun _ => rfl) hw (fun v7 ls hw hl => ?_)
      refine lv_goto (tgt := 4) hx hb (nq_d dX7_greatestLeft_0_g (n := 29) rfl) (by decide) ?_
      exact hPself3 _ _ hw l2_5 v7 rfl rfl _ _ _ hP hD hS (lv_sub hl [1, 2, 3, 0] rfl)
    refine gx_icmp_ne (tgt := 44) hx hb (nq_d dX7_greatestLeft_0_g (n := 13) rfl) (by decide) hw (fun hw => ?_) (fun hw => ?_)
    · exact Jj6 l2_1 _ _ _ hP hD hS (lv_sub hl [0, 1, 2, 3] rfl) hw
    · refine lv_iload_n hx hb (nq_d dX7_greatestLeft_0_g (n := 14) rfl) rfl (lv_at hl 2 rfl) ?_
      refine lv_iconst (v := ((-1) : Int32)) hx hb (nq_d dX7_greatestLeft_0_g (n := 15) rfl) (by decide) ?_
      refine jn0_el hw (fun j8 hj8 hw => ?_)
      have Jj8 : ∀  (H : Heap) (locs : List Loc) (ls : Array Slot), va_P (dC, dI) vwCl [(ag, .inr (2, [.int g_number, .ref ag_sort, .ref ag_kind, .ref ag_tip, .ref ag_marks, .ref ag_brass, .ref ag_peg, .ref ag_has])), (ap, .inr (7, [.ref ap_expected, .ref ap_pegFor, .ref ap_taken, .int p_sum])), (ap_expected, .inl (cyI, 16, .inl p_expected)), (ap_pegFor, .inl (cyI, 16, .inl p_pegFor))] H → va_D A [(ag, .inr (2, [.int g_number, .ref ag_sort, .ref ag_kind, .ref ag_tip, .ref ag_marks, .ref ag_brass, .ref ag_peg, .ref ag_has])), (ap, .inr (7, [.ref ap_expected, .ref ap_pegFor, .ref ap_taken, .int p_sum])), (ap_expected, .inl (cyI, 16, .inl p_expected)), (ap_pegFor, .inl (cyI, 16, .inl p_pegFor))] → va_S A s.heap H locs → lv_has ls 4 [(0, .ref ap), (1, .ref ag), (3, .int l3_2)] → j8  → W p l e (headSpec wsX7_greatestLeft rmX7_greatestLeft).room s m ([.ref ap, .ref ag] : List Value).toArray below meth c H locs 0 0 Q9 (F0 m 42 ls []) := by
        intro  H locs ls hP hD hS hl hw
        have hw := hj8  hw
        refine lv_iload_n hx hb (nq_d dX7_greatestLeft_0_g (n := 26) rfl) rfl (lv_at hl 2 rfl) ?_
        refine lv_istore_n (lv' := [(2, .int l3_2), (0, .ref ap), (1, .ref ag), (3, .int l3_2)]) hx hb (nq_d dX7_greatestLeft_0_g (n := 27) rfl) rfl hl (by decide) rfl (fun ls hl => ?_)
        exact Jj6 l3_2 _ _ _ hP hD hS (lv_sub hl [1, 2, 0, 3] rfl) hw
      refine gx_icmp_eq (tgt := 42) hx hb (nq_d dX7_greatestLeft_0_g (n := 16) rfl) (by decide) hw (fun hw => ?_) (fun hw => ?_)
      · exact Jj8  _ _ _ hP hD hS (lv_sub hl [0, 1, 3] rfl) hw
      · refine lv_aload_n hx hb (nq_d dX7_greatestLeft_0_g (n := 17) rfl) rfl (lv_at hl 0 rfl) ?_
        refine va_get (D := (dC, dI)) (ci := 7) (v := .ref ap_expected) (C := RX7) (T := TX7) (N := 4) hx hb hts hi_X7 hown hK hP 1 rfl rfl 0 (by decide) hf9 (fun _ h9 => h9) rfl (nq_d dX7_greatestLeft_0_g (n := 18) rfl) ?_
        refine lv_iload_n hx hb (nq_d dX7_greatestLeft_0_g (n := 19) rfl) rfl (lv_at hl 3 rfl) ?_
        refine gx_iald hx hb hK hP 2 1 rfl rfl (nq_d dX7_greatestLeft_0_g (n := 20) rfl) hw (fun v9 hw => ?_)
        refine lv_aload_n hx hb (nq_d dX7_greatestLeft_0_g (n := 21) rfl) rfl (lv_at hl 0 rfl) ?_
        refine va_get (D := (dC, dI)) (ci := 7) (v := .ref ap_expected) (C := RX7) (T := TX7) (N := 4) hx hb hts hi_X7 hown hK hP 1 rfl rfl 0 (by decide) hf9 (fun _ h9 => h9) rfl (nq_d dX7_greatestLeft_0_g (n := 22) rfl) ?_
        refine lv_iload_n hx hb (nq_d dX7_greatestLeft_0_g (n := 23) rfl) rfl (lv_at hl 2 rfl) ?_
        refine gx_iald hx hb hK hP 2 1 rfl rfl (nq_d dX7_greatestLeft_0_g (n := 24) rfl) hw (fun v10 hw => ?_)
        refine gx_icmp_le (tgt := 44) hx hb (nq_d dX7_greatestLeft_0_g (n := 25) rfl) (by decide) hw (fun hw => ?_) (fun hw => ?_)
        · exact Jj6 l2_1 _ _ _ hP hD hS (lv_sub hl [0, 1, 2, 3] rfl) hw
        · exact Jj8  _ _ _ hP hD hS (lv_sub hl [0, 1, 3] rfl) hw
