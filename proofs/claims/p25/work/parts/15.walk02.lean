/-! CONTRACTS, printed by program: the machine does what the nice form says -/
abbrev rmX2_handOver : Room := { frames := 1, cells := 0, slots := 0, locals := 21 }
theorem cd_X2_handOver : yX2_handOver.cls = RX2 ∧ yX2_handOver.cls ≠ "java/lang/invoke/MethodHandle" ∧ yX2_handOver.cls ≠ "java/lang/invoke/VarHandle" ∧ (parseMethodDescriptor yX2_handOver.desc).map (fun d => d.parameters.length) = some 2 := by decide +kernel
set_option maxHeartbeats 4000000 in
set_option maxRecDepth 100000 in
theorem ct_Guests_handOver (l : Launch) (dC : Nat → ClassId) (dI : Nat → Nat → Nat) (cyB cyI cyJ cyZ : ClassId) (ag ag_sort ag_kind ag_tip ag_marks ag_brass ag_peg ag_has : Nat) (sz : Nat) (g_number : Int32) (g_peg : Nat → Int32) (g_has : Nat → Int32) (x1 : Int32) (x2 : Int32) (Q : (Int → Int) → (Int → Int) → Prop) : Met l yX2_handOver wsX2_handOver rmX2_handOver (va_Pc [.ref ag, .int x1, .int x2] (cPre (dC, dI) vwCl (tyS cyB cyI cyJ cyZ) [(ag, .inr (2, [.int g_number, .ref ag_sort, .ref ag_kind, .ref ag_tip, .ref ag_marks, .ref ag_brass, .ref ag_peg, .ref ag_has])), (ag_peg, .inl (cyI, 16, .inl g_peg)), (ag_has, .inl (cyI, 16, .inl g_has))] sz (nf_Guests_handOver g_number.toInt (aI 16 g_peg) (aI 16 g_has) x1.toInt x2.toInt Q))) (va_Qv (fun (u : (Nat → Int32) × (Nat → Int32)) => Q (aI 16 (u.1)) (aI 16 (u.2))) (cPost (dC, dI) vwCl (fun u : (Nat → Int32) × (Nat → Int32) => [(ag, .inr (2, [.int g_number, .ref ag_sort, .ref ag_kind, .ref ag_tip, .ref ag_marks, .ref ag_brass, .ref ag_peg, .ref ag_has])), (ag_peg, .inl (cyI, 16, .inl (u.1))), (ag_has, .inl (cyI, 16, .inl (u.2)))]) (va_A [(ag, .inr (2, [.int g_number, .ref ag_sort, .ref ag_kind, .ref ag_tip, .ref ag_marks, .ref ag_brass, .ref ag_peg, .ref ag_has])), (ag_peg, .inl (cyI, 16, .inl g_peg)), (ag_has, .inl (cyI, 16, .inl g_has))] sz)) (va_A [(ag, .inr (2, [.int g_number, .ref ag_sort, .ref ag_kind, .ref ag_tip, .ref ag_marks, .ref ag_brass, .ref ag_peg, .ref ag_has])), (ag_peg, .inl (cyI, 16, .inl g_peg)), (ag_has, .inl (cyI, 16, .inl g_has))] sz)) 0 0 (va_A [(ag, .inr (2, [.int g_number, .ref ag_sort, .ref ag_kind, .ref ag_tip, .ref ag_marks, .ref ag_brass, .ref ag_peg, .ref ag_has])), (ag_peg, .inl (cyI, 16, .inl g_peg)), (ag_has, .inl (cyI, 16, .inl g_has))] sz) := by
  refine Met.ofW (cc := cX2_handOver) (maxL := 3) (ret := none) (by decide) rfl ?_
  intro p e s m args below meth c s₁ B hml hv
  obtain ⟨rfl, hsz, hP, hK, hD0, hNw, hw⟩ := hv
  have hx := B.exec
  have hb := B.bytes
  have hr := B.returns
  have hts := atoms_spec (ws := wsX2_handOver) B.pre
  have hown : s.vm.findClass RX2 = some m.cls := findClass_of_methodNamed B.named
  have hlocks := B.notSynchronized
  subst hsz
  have hD := hD0.self (sz := s.heap.size)
  generalize hAe : va_A [(ag, .inr (2, [.int g_number, .ref ag_sort, .ref ag_kind, .ref ag_tip, .ref ag_marks, .ref ag_brass, .ref ag_peg, .ref ag_has])), (ag_peg, .inl (cyI, 16, .inl g_peg)), (ag_has, .inl (cyI, 16, .inl g_has))] s.heap.size = A at hD ⊢
  have hA : ∀ q : Nat, s.heap.size ≤ q → A q := fun q h => by rw [← hAe]; exact Or.inr h
  have hS : va_S A s.heap s.heap [] := va_S.rf
  have hl := lv_entry ([.ref ag, .int x1, .int x2]) (n := 3) (Nat.le_of_ble_eq_true rfl)
  rw [lg_entry_eq]
  generalize (lg_sl ([.ref ag, .int x1, .int x2]) ++ List.replicate (3 - (lg_sl ([.ref ag, .int x1, .int x2])).length) Slot.unset).toArray = ls at hl ⊢
  have hl : lv_has ls 3 [(0, .ref ag), (1, .int x1), (2, .int x2)] := hl
  refine gx_q (fun Q9 hQ => ?_)
  unfold nf_Guests_handOver at hw
  have hi_X2 : ∀ w ∈ wsX20, w ∈ wsX2_handOver := (sub_c (nq_m (n := 9) rfl) (sub_c (nq_m (n := 10) rfl) (sub_c (nq_m (n := 11) rfl) (sub_c (nq_m (n := 12) rfl) (sub_c (nq_m (n := 13) rfl) (sub_c (nq_m (n := 14) rfl) (sub_c (nq_m (n := 15) rfl) (sub_c (nq_m (n := 16) rfl) sub_n))))))))
  have hf31 : (Cond.fieldLink RX2 31 "CoatsHall$Guests" (TX2 6).2.1 (TX2 6).2.2.1).before ([.ref ag, .int x1, .int x2] : List Value).toArray s = true := hts (.fieldLink RX2 31 "CoatsHall$Guests" "peg" "[I") (nq_m (n := 1) rfl)
  have hf34 : (Cond.fieldLink RX2 34 "CoatsHall$Guests" (TX2 7).2.1 (TX2 7).2.2.1).before ([.ref ag, .int x1, .int x2] : List Value).toArray s = true := hts (.fieldLink RX2 34 "CoatsHall$Guests" "has" "[I") (nq_m (n := 2) rfl)
  refine lv_aload_n hx hb (nq_d dX2_handOver_0_g (n := 0) rfl) rfl (lv_at hl 0 rfl) ?_
  refine lv_iload_n hx hb (nq_d dX2_handOver_0_g (n := 1) rfl) rfl (lv_at hl 1 rfl) ?_
  refine gx_ri (wr := [(ag_peg, .inl (cyI, 16, .inl g_peg)), (ag_has, .inl (cyI, 16, .inl g_has))]) (va_runV (As := [.int x1]) (rest := []) ⟨hx, hb, hml, hown, hts⟩ (ct_Guests_knows l dC dI cyB cyI cyJ cyZ ag ag_sort ag_kind ag_tip ag_marks ag_brass ag_peg ag_has _ g_number x1 _) (cwV 1 hts gX2_handOver_X2_knows rfl rfl rfl cd_X2_knows ⟨Nat.le_of_ble_eq_true rfl, Nat.le_of_ble_eq_true rfl⟩) (gx_preV hK hP hD hNw [0] rfl (by decide +kernel) hw 0 (ci := 2) rfl rfl rfl) rfl rfl hl.1 rfl (lv_room (Nat.le_of_ble_eq_true rfl)) (nq_d dX2_handOver_0_g (n := 2) rfl) ⟨Nat.zero_le _, Nat.zero_le _⟩) hP hD hS hA [0] [1, 2] [2, 0, 1] rfl rfl (by decide) (by decide) (by decide) (fun _ => [(ag, .inr (2, [.int g_number, .ref ag_sort, .ref ag_kind, .ref ag_tip, .ref ag_marks, .ref ag_brass, .ref ag_peg, .ref ag_has])), (ag_peg, .inl (cyI, 16, .inl g_peg)), (ag_has, .inl (cyI, 16, .inl g_has))]) (fun _ => rfl) (fun r1 u H locs hw hP hD hS => ?_)
  try dsimp only at hw hP hD
  refine gx_if_eq (tgt := 16) hx hb (nq_d dX2_handOver_0_g (n := 3) rfl) (by decide) hw (fun hw => ?_) (fun hw => ?_)
  · exact rt_v (A1 := A) hQ hx hb hr hlocks hP hD hS (g_peg, g_has) [0, 1, 2] rfl (by decide +kernel) hw (nq_d dX2_handOver_0_g (n := 8) rfl)
  · refine lv_aload_n hx hb (nq_d dX2_handOver_0_g (n := 4) rfl) rfl (lv_at hl 0 rfl) ?_
    refine lv_iload_n hx hb (nq_d dX2_handOver_0_g (n := 5) rfl) rfl (lv_at hl 2 rfl) ?_
    refine gx_ri (wr := [(ag_peg, .inl (cyI, 16, .inl g_peg)), (ag_has, .inl (cyI, 16, .inl g_has))]) (va_runV (As := [.int x2]) (rest := []) ⟨hx, hb, hml, hown, hts⟩ (ct_Guests_knows l dC dI cyB cyI cyJ cyZ ag ag_sort ag_kind ag_tip ag_marks ag_brass ag_peg ag_has _ g_number x2 _) (cwV 1 hts gX2_handOver_X2_knows rfl rfl rfl cd_X2_knows ⟨Nat.le_of_ble_eq_true rfl, Nat.le_of_ble_eq_true rfl⟩) (gx_preV hK hP hD hNw [0] rfl (by decide +kernel) hw 0 (ci := 2) rfl rfl rfl) rfl rfl hl.1 rfl (lv_room (Nat.le_of_ble_eq_true rfl)) (nq_d dX2_handOver_0_g (n := 6) rfl) ⟨Nat.zero_le _, Nat.zero_le _⟩) hP hD hS hA [0] [1, 2] [2, 0, 1] rfl rfl (by decide) (by decide) (by decide) (fun _ => [(ag, .inr (2, [.int g_number, .ref ag_sort, .ref ag_kind, .ref ag_tip, .ref ag_marks, .ref ag_brass, .ref ag_peg, .ref ag_has])), (ag_peg, .inl (cyI, 16, .inl g_peg)), (ag_has, .inl (cyI, 16, .inl g_has))]) (fun _ => rfl) (fun r2 u H locs hw hP hD hS => ?_)
    try dsimp only at hw hP hD
    refine gx_if_ne (tgt := 17) hx hb (nq_d dX2_handOver_0_g (n := 7) rfl) (by decide) hw (fun hw => ?_) (fun hw => ?_)
    · refine lv_aload_n hx hb (nq_d dX2_handOver_0_g (n := 9) rfl) rfl (lv_at hl 0 rfl) ?_
      refine va_get (D := (dC, dI)) (ci := 2) (v := .ref ag_peg) (C := RX2) (T := TX2) (N := 8) hx hb hts hi_X2 hown hK hP 0 rfl rfl 6 (by decide) hf31 (fun _ h9 => h9) rfl (nq_d dX2_handOver_0_g (n := 10) rfl) ?_
      refine lv_iload_n hx hb (nq_d dX2_handOver_0_g (n := 11) rfl) rfl (lv_at hl 1 rfl) ?_
      refine lv_iconst (v := ((-1) : Int32)) hx hb (nq_d dX2_handOver_0_g (n := 12) rfl) (by decide) ?_
      refine gx_iast hx hb hK hP hD hS 1 1 rfl rfl (nq_d dX2_handOver_0_g (n := 13) rfl) (fun f3 => [(ag, .inr (2, [.int g_number, .ref ag_sort, .ref ag_kind, .ref ag_tip, .ref ag_marks, .ref ag_brass, .ref ag_peg, .ref ag_has])), (ag_peg, .inl (cyI, 16, .inl f3)), (ag_has, .inl (cyI, 16, .inl g_has))]) (fun _ => rfl) hw (fun f3 H locs hw hP hD hS => ?_)
      refine lv_aload_n hx hb (nq_d dX2_handOver_0_g (n := 14) rfl) rfl (lv_at hl 0 rfl) ?_
      refine va_get (D := (dC, dI)) (ci := 2) (v := .ref ag_has) (C := RX2) (T := TX2) (N := 8) hx hb hts hi_X2 hown hK hP 0 rfl rfl 7 (by decide) hf34 (fun _ h9 => h9) rfl (nq_d dX2_handOver_0_g (n := 15) rfl) ?_
      refine lv_iload_n hx hb (nq_d dX2_handOver_0_g (n := 16) rfl) rfl (lv_at hl 2 rfl) ?_
      refine lv_iload_n hx hb (nq_d dX2_handOver_0_g (n := 17) rfl) rfl (lv_at hl 1 rfl) ?_
      refine gx_iast hx hb hK hP hD hS 2 1 rfl rfl (nq_d dX2_handOver_0_g (n := 18) rfl) (fun f4 => [(ag, .inr (2, [.int g_number, .ref ag_sort, .ref ag_kind, .ref ag_tip, .ref ag_marks, .ref ag_brass, .ref ag_peg, .ref ag_has])), (ag_peg, .inl (cyI, 16, .inl f3)), (ag_has, .inl (cyI, 16, .inl f4))]) (fun _ => rfl) hw (fun f4 H locs hw hP hD hS => ?_)
      exact rt_v (A1 := A) hQ hx hb hr hlocks hP hD hS (f3, f4) [0, 1, 2] rfl (by decide +kernel) hw (nq_d dX2_handOver_0_g (n := 19) rfl)
    · exact rt_v (A1 := A) hQ hx hb hr hlocks hP hD hS (g_peg, g_has) [0, 1, 2] rfl (by decide +kernel) hw (nq_d dX2_handOver_0_g (n := 8) rfl)
abbrev rmX2_isAstray : Room := { frames := 1, cells := 0, slots := 0, locals := 21 }
theorem cd_X2_isAstray : yX2_isAstray.cls = RX2 ∧ yX2_isAstray.cls ≠ "java/lang/invoke/MethodHandle" ∧ yX2_isAstray.cls ≠ "java/lang/invoke/VarHandle" ∧ (parseMethodDescriptor yX2_isAstray.desc).map (fun d => d.parameters.length) = some 1 := by decide +kernel
set_option maxHeartbeats 4000000 in
set_option maxRecDepth 100000 in
theorem ct_Guests_isAstray (l : Launch) (dC : Nat → ClassId) (dI : Nat → Nat → Nat) (cyB cyI cyJ cyZ : ClassId) (ag ag_sort ag_kind ag_tip ag_marks ag_brass ag_peg ag_has : Nat) (sz : Nat) (g_number : Int32) (g_has : Nat → Int32) (x1 : Int32) (Q : Int → Prop) : Met l yX2_isAstray wsX2_isAstray rmX2_isAstray (va_Pc [.ref ag, .int x1] (cPre (dC, dI) vwCl (tyS cyB cyI cyJ cyZ) [(ag, .inr (2, [.int g_number, .ref ag_sort, .ref ag_kind, .ref ag_tip, .ref ag_marks, .ref ag_brass, .ref ag_peg, .ref ag_has])), (ag_has, .inl (cyI, 16, .inl g_has))] sz (nf_Guests_isAstray g_number.toInt (aI 16 g_has) x1.toInt Q))) (va_Qi (fun (r : Int32) (_ : Unit) => Q r.toInt ) (cPost (dC, dI) vwCl (fun _ : Unit => [(ag, .inr (2, [.int g_number, .ref ag_sort, .ref ag_kind, .ref ag_tip, .ref ag_marks, .ref ag_brass, .ref ag_peg, .ref ag_has])), (ag_has, .inl (cyI, 16, .inl g_has))]) (va_A [(ag, .inr (2, [.int g_number, .ref ag_sort, .ref ag_kind, .ref ag_tip, .ref ag_marks, .ref ag_brass, .ref ag_peg, .ref ag_has])), (ag_has, .inl (cyI, 16, .inl g_has))] sz)) (va_A [(ag, .inr (2, [.int g_number, .ref ag_sort, .ref ag_kind, .ref ag_tip, .ref ag_marks, .ref ag_brass, .ref ag_peg, .ref ag_has])), (ag_has, .inl (cyI, 16, .inl g_has))] sz)) 0 0 (va_A [(ag, .inr (2, [.int g_number, .ref ag_sort, .ref ag_kind, .ref ag_tip, .ref ag_marks, .ref ag_brass, .ref ag_peg, .ref ag_has])), (ag_has, .inl (cyI, 16, .inl g_has))] sz) := by
  refine Met.ofW (cc := cX2_isAstray) (maxL := 2) (ret := (some .boolean)) (by decide) rfl ?_
  intro p e s m args below meth c s₁ B hml hv
  obtain ⟨rfl, hsz, hP, hK, hD0, hNw, hw⟩ := hv
  have hx := B.exec
  have hb := B.bytes
  have hr := B.returns
  have hts := atoms_spec (ws := wsX2_isAstray) B.pre
  have hown : s.vm.findClass RX2 = some m.cls := findClass_of_methodNamed B.named
  have hlocks := B.notSynchronized
  subst hsz
  have hD := hD0.self (sz := s.heap.size)
  generalize hAe : va_A [(ag, .inr (2, [.int g_number, .ref ag_sort, .ref ag_kind, .ref ag_tip, .ref ag_marks, .ref ag_brass, .ref ag_peg, .ref ag_has])), (ag_has, .inl (cyI, 16, .inl g_has))] s.heap.size = A at hD ⊢
  have hA : ∀ q : Nat, s.heap.size ≤ q → A q := fun q h => by rw [← hAe]; exact Or.inr h
  have hS : va_S A s.heap s.heap [] := va_S.rf
  have hl := lv_entry ([.ref ag, .int x1]) (n := 2) (Nat.le_of_ble_eq_true rfl)
  rw [lg_entry_eq]
  generalize (lg_sl ([.ref ag, .int x1]) ++ List.replicate (2 - (lg_sl ([.ref ag, .int x1])).length) Slot.unset).toArray = ls at hl ⊢
  have hl : lv_has ls 2 [(0, .ref ag), (1, .int x1)] := hl
  refine gx_q (fun Q9 hQ => ?_)
  unfold nf_Guests_isAstray at hw
  have hi_X2 : ∀ w ∈ wsX20, w ∈ wsX2_isAstray := (sub_c (nq_m (n := 8) rfl) (sub_c (nq_m (n := 9) rfl) (sub_c (nq_m (n := 10) rfl) (sub_c (nq_m (n := 11) rfl) (sub_c (nq_m (n := 12) rfl) (sub_c (nq_m (n := 13) rfl) (sub_c (nq_m (n := 14) rfl) (sub_c (nq_m (n := 15) rfl) sub_n))))))))
  have hf34 : (Cond.fieldLink RX2 34 "CoatsHall$Guests" (TX2 7).2.1 (TX2 7).2.2.1).before ([.ref ag, .int x1] : List Value).toArray s = true := hts (.fieldLink RX2 34 "CoatsHall$Guests" "has" "[I") (nq_m (n := 1) rfl)
  refine lv_aload_n hx hb (nq_d dX2_isAstray_0_g (n := 0) rfl) rfl (lv_at hl 0 rfl) ?_
  refine lv_iload_n hx hb (nq_d dX2_isAstray_0_g (n := 1) rfl) rfl (lv_at hl 1 rfl) ?_
  refine gx_ri (wr := [(ag_has, .inl (cyI, 16, .inl g_has))]) (va_runV (As := [.int x1]) (rest := []) ⟨hx, hb, hml, hown, hts⟩ (ct_Guests_knows l dC dI cyB cyI cyJ cyZ ag ag_sort ag_kind ag_tip ag_marks ag_brass ag_peg ag_has _ g_number x1 _) (cwV 1 hts gX2_isAstray_X2_knows rfl rfl rfl cd_X2_knows ⟨Nat.le_of_ble_eq_true rfl, Nat.le_of_ble_eq_true rfl⟩) (gx_preV hK hP hD hNw [0] rfl (by decide +kernel) hw 0 (ci := 2) rfl rfl rfl) rfl rfl hl.1 rfl (lv_room (Nat.le_of_ble_eq_true rfl)) (nq_d dX2_isAstray_0_g (n := 2) rfl) ⟨Nat.zero_le _, Nat.zero_le _⟩) hP hD hS hA [0] [1] [1, 0] rfl rfl (by decide) (by decide) (by decide) (fun _ => [(ag, .inr (2, [.int g_number, .ref ag_sort, .ref ag_kind, .ref ag_tip, .ref ag_marks, .ref ag_brass, .ref ag_peg, .ref ag_has])), (ag_has, .inl (cyI, 16, .inl g_has))]) (fun _ => rfl) (fun r1 u H locs hw hP hD hS => ?_)
  try dsimp only at hw hP hD
  refine gx_if_eq (tgt := 32) hx hb (nq_d dX2_isAstray_0_g (n := 3) rfl) (by decide) hw (fun hw => ?_) (fun hw => ?_)
  · refine lv_iconst (v := (0 : Int32)) hx hb (nq_d dX2_isAstray_0_g (n := 18) rfl) (by decide) ?_
    exact rt_zl (A1 := A) hQ hx hb hr hlocks hP hD hS () [0, 1] rfl (by decide +kernel) rfl hw (nq_d dX2_isAstray_0_g (n := 19) rfl)
  · refine lv_aload_n hx hb (nq_d dX2_isAstray_0_g (n := 4) rfl) rfl (lv_at hl 0 rfl) ?_
    refine va_get (D := (dC, dI)) (ci := 2) (v := .ref ag_has) (C := RX2) (T := TX2) (N := 8) hx hb hts hi_X2 hown hK hP 0 rfl rfl 7 (by decide) hf34 (fun _ h9 => h9) rfl (nq_d dX2_isAstray_0_g (n := 5) rfl) ?_
    refine lv_iload_n hx hb (nq_d dX2_isAstray_0_g (n := 6) rfl) rfl (lv_at hl 1 rfl) ?_
    refine gx_iald hx hb hK hP 1 1 rfl rfl (nq_d dX2_isAstray_0_g (n := 7) rfl) hw (fun v2 hw => ?_)
    refine lv_iconst (v := ((-1) : Int32)) hx hb (nq_d dX2_isAstray_0_g (n := 8) rfl) (by decide) ?_
    refine gx_icmp_eq (tgt := 32) hx hb (nq_d dX2_isAstray_0_g (n := 9) rfl) (by decide) hw (fun hw => ?_) (fun hw => ?_)
    · refine lv_iconst (v := (0 : Int32)) hx hb (nq_d dX2_isAstray_0_g (n := 18) rfl) (by decide) ?_
      exact rt_zl (A1 := A) hQ hx hb hr hlocks hP hD hS () [0, 1] rfl (by decide +kernel) rfl hw (nq_d dX2_isAstray_0_g (n := 19) rfl)
    · refine lv_aload_n hx hb (nq_d dX2_isAstray_0_g (n := 10) rfl) rfl (lv_at hl 0 rfl) ?_
      refine va_get (D := (dC, dI)) (ci := 2) (v := .ref ag_has) (C := RX2) (T := TX2) (N := 8) hx hb hts hi_X2 hown hK hP 0 rfl rfl 7 (by decide) hf34 (fun _ h9 => h9) rfl (nq_d dX2_isAstray_0_g (n := 11) rfl) ?_
      refine lv_iload_n hx hb (nq_d dX2_isAstray_0_g (n := 12) rfl) rfl (lv_at hl 1 rfl) ?_
      refine gx_iald hx hb hK hP 1 1 rfl rfl (nq_d dX2_isAstray_0_g (n := 13) rfl) hw (fun v3 hw => ?_)
      refine lv_iload_n hx hb (nq_d dX2_isAstray_0_g (n := 14) rfl) rfl (lv_at hl 1 rfl) ?_
      refine gx_icmp_eq (tgt := 32) hx hb (nq_d dX2_isAstray_0_g (n := 15) rfl) (by decide) hw (fun hw => ?_) (fun hw => ?_)
      · refine lv_iconst (v := (0 : Int32)) hx hb (nq_d dX2_isAstray_0_g (n := 18) rfl) (by decide) ?_
        exact rt_zl (A1 := A) hQ hx hb hr hlocks hP hD hS () [0, 1] rfl (by decide +kernel) rfl hw (nq_d dX2_isAstray_0_g (n := 19) rfl)
      · refine lv_iconst (v := (1 : Int32)) hx hb (nq_d dX2_isAstray_0_g (n := 16) rfl) (by decide) ?_
        refine lv_goto (tgt := 33) hx hb (nq_d dX2_isAstray_0_g (n := 17) rfl) (by decide) ?_
        exact rt_zl (A1 := A) hQ hx hb hr hlocks hP hD hS () [0, 1] rfl (by decide +kernel) rfl hw (nq_d dX2_isAstray_0_g (n := 19) rfl)
abbrev rmX2_nextInChain : Room := { frames := 1, cells := 0, slots := 0, locals := 21 }
theorem cd_X2_nextInChain : yX2_nextInChain.cls = RX2 ∧ yX2_nextInChain.cls ≠ "java/lang/invoke/MethodHandle" ∧ yX2_nextInChain.cls ≠ "java/lang/invoke/VarHandle" ∧ (parseMethodDescriptor yX2_nextInChain.desc).map (fun d => d.parameters.length) = some 2 := by decide +kernel
set_option maxHeartbeats 4000000 in
set_option maxRecDepth 100000 in
theorem ct_Guests_nextInChain (l : Launch) (dC : Nat → ClassId) (dI : Nat → Nat → Nat) (cyB cyI cyJ cyZ : ClassId) (ag ag_sort ag_kind ag_tip ag_marks ag_brass ag_peg ag_has : Nat) (sz : Nat) (g_number : Int32) (g_has : Nat → Int32) (x1 : Int32) (x2 : Int32) (Q : Int → Prop) : Met l yX2_nextInChain wsX2_nextInChain rmX2_nextInChain (va_Pc [.ref ag, .int x1, .int x2] (cPre (dC, dI) vwCl (tyS cyB cyI cyJ cyZ) [(ag, .inr (2, [.int g_number, .ref ag_sort, .ref ag_kind, .ref ag_tip, .ref ag_marks, .ref ag_brass, .ref ag_peg, .ref ag_has])), (ag_has, .inl (cyI, 16, .inl g_has))] sz (nf_Guests_nextInChain g_number.toInt (aI 16 g_has) x1.toInt x2.toInt Q))) (va_Qi (fun (r : Int32) (_ : Unit) => Q r.toInt ) (cPost (dC, dI) vwCl (fun _ : Unit => [(ag, .inr (2, [.int g_number, .ref ag_sort, .ref ag_kind, .ref ag_tip, .ref ag_marks, .ref ag_brass, .ref ag_peg, .ref ag_has])), (ag_has, .inl (cyI, 16, .inl g_has))]) (va_A [(ag, .inr (2, [.int g_number, .ref ag_sort, .ref ag_kind, .ref ag_tip, .ref ag_marks, .ref ag_brass, .ref ag_peg, .ref ag_has])), (ag_has, .inl (cyI, 16, .inl g_has))] sz)) (va_A [(ag, .inr (2, [.int g_number, .ref ag_sort, .ref ag_kind, .ref ag_tip, .ref ag_marks, .ref ag_brass, .ref ag_peg, .ref ag_has])), (ag_has, .inl (cyI, 16, .inl g_has))] sz)) 0 0 (va_A [(ag, .inr (2, [.int g_number, .ref ag_sort, .ref ag_kind, .ref ag_tip, .ref ag_marks, .ref ag_brass, .ref ag_peg, .ref ag_has])), (ag_has, .inl (cyI, 16, .inl g_has))] sz) := by
  refine Met.ofW (cc := cX2_nextInChain) (maxL := 3) (ret := (some .int)) (by decide) rfl ?_
  intro p e s m args below meth c s₁ B hml hv
  obtain ⟨rfl, hsz, hP, hK, hD0, hNw, hw⟩ := hv
  have hx := B.exec
  have hb := B.bytes
  have hr := B.returns
  have hts := atoms_spec (ws := wsX2_nextInChain) B.pre
  have hown : s.vm.findClass RX2 = some m.cls := findClass_of_methodNamed B.named
  have hlocks := B.notSynchronized
  subst hsz
  have hD := hD0.self (sz := s.heap.size)
  generalize hAe : va_A [(ag, .inr (2, [.int g_number, .ref ag_sort, .ref ag_kind, .ref ag_tip, .ref ag_marks, .ref ag_brass, .ref ag_peg, .ref ag_has])), (ag_has, .inl (cyI, 16, .inl g_has))] s.heap.size = A at hD ⊢
  have hA : ∀ q : Nat, s.heap.size ≤ q → A q := fun q h => by rw [← hAe]; exact Or.inr h
  have hS : va_S A s.heap s.heap [] := va_S.rf
  have hl := lv_entry ([.ref ag, .int x1, .int x2]) (n := 3) (Nat.le_of_ble_eq_true rfl)
  rw [lg_entry_eq]
  generalize (lg_sl ([.ref ag, .int x1, .int x2]) ++ List.replicate (3 - (lg_sl ([.ref ag, .int x1, .int x2])).length) Slot.unset).toArray = ls at hl ⊢
  have hl : lv_has ls 3 [(0, .ref ag), (1, .int x1), (2, .int x2)] := hl
  refine gx_q (fun Q9 hQ => ?_)
  unfold nf_Guests_nextInChain at hw
  have hi_X2 : ∀ w ∈ wsX20, w ∈ wsX2_nextInChain := (sub_c (nq_m (n := 8) rfl) (sub_c (nq_m (n := 9) rfl) (sub_c (nq_m (n := 10) rfl) (sub_c (nq_m (n := 11) rfl) (sub_c (nq_m (n := 12) rfl) (sub_c (nq_m (n := 13) rfl) (sub_c (nq_m (n := 14) rfl) (sub_c (nq_m (n := 15) rfl) sub_n))))))))
  have hf34 : (Cond.fieldLink RX2 34 "CoatsHall$Guests" (TX2 7).2.1 (TX2 7).2.2.1).before ([.ref ag, .int x1, .int x2] : List Value).toArray s = true := hts (.fieldLink RX2 34 "CoatsHall$Guests" "has" "[I") (nq_m (n := 1) rfl)
  refine lv_aload_n hx hb (nq_d dX2_nextInChain_0_g (n := 0) rfl) rfl (lv_at hl 0 rfl) ?_
  refine lv_iload_n hx hb (nq_d dX2_nextInChain_0_g (n := 1) rfl) rfl (lv_at hl 2 rfl) ?_
  refine gx_ri (wr := [(ag_has, .inl (cyI, 16, .inl g_has))]) (va_runV (As := [.int x2]) (rest := []) ⟨hx, hb, hml, hown, hts⟩ (ct_Guests_knows l dC dI cyB cyI cyJ cyZ ag ag_sort ag_kind ag_tip ag_marks ag_brass ag_peg ag_has _ g_number x2 _) (cwV 1 hts gX2_nextInChain_X2_knows rfl rfl rfl cd_X2_knows ⟨Nat.le_of_ble_eq_true rfl, Nat.le_of_ble_eq_true rfl⟩) (gx_preV hK hP hD hNw [0] rfl (by decide +kernel) hw 0 (ci := 2) rfl rfl rfl) rfl rfl hl.1 rfl (lv_room (Nat.le_of_ble_eq_true rfl)) (nq_d dX2_nextInChain_0_g (n := 2) rfl) ⟨Nat.zero_le _, Nat.zero_le _⟩) hP hD hS hA [0] [1] [1, 0] rfl rfl (by decide) (by decide) (by decide) (fun _ => [(ag, .inr (2, [.int g_number, .ref ag_sort, .ref ag_kind, .ref ag_tip, .ref ag_marks, .ref ag_brass, .ref ag_peg, .ref ag_has])), (ag_has, .inl (cyI, 16, .inl g_has))]) (fun _ => rfl) (fun r1 u H locs hw hP hD hS => ?_)
  try dsimp only at hw hP hD
  refine gx_if_eq (tgt := 27) hx hb (nq_d dX2_nextInChain_0_g (n := 3) rfl) (by decide) hw (fun hw => ?_) (fun hw => ?_)
  · refine lv_iconst (v := ((-1) : Int32)) hx hb (nq_d dX2_nextInChain_0_g (n := 15) rfl) (by decide) ?_
    exact rt_i (A1 := A) hQ hx hb hr hlocks hP hD hS () [0, 1] rfl (by decide +kernel) hw (nq_d dX2_nextInChain_0_g (n := 16) rfl)
  · refine lv_aload_n hx hb (nq_d dX2_nextInChain_0_g (n := 4) rfl) rfl (lv_at hl 0 rfl) ?_
    refine va_get (D := (dC, dI)) (ci := 2) (v := .ref ag_has) (C := RX2) (T := TX2) (N := 8) hx hb hts hi_X2 hown hK hP 0 rfl rfl 7 (by decide) hf34 (fun _ h9 => h9) rfl (nq_d dX2_nextInChain_0_g (n := 5) rfl) ?_
    refine lv_iload_n hx hb (nq_d dX2_nextInChain_0_g (n := 6) rfl) rfl (lv_at hl 2 rfl) ?_
    refine gx_iald hx hb hK hP 1 1 rfl rfl (nq_d dX2_nextInChain_0_g (n := 7) rfl) hw (fun v2 hw => ?_)
    refine lv_iload_n hx hb (nq_d dX2_nextInChain_0_g (n := 8) rfl) rfl (lv_at hl 1 rfl) ?_
    refine gx_icmp_eq (tgt := 27) hx hb (nq_d dX2_nextInChain_0_g (n := 9) rfl) (by decide) hw (fun hw => ?_) (fun hw => ?_)
    · refine lv_iconst (v := ((-1) : Int32)) hx hb (nq_d dX2_nextInChain_0_g (n := 15) rfl) (by decide) ?_
      exact rt_i (A1 := A) hQ hx hb hr hlocks hP hD hS () [0, 1] rfl (by decide +kernel) hw (nq_d dX2_nextInChain_0_g (n := 16) rfl)
    · refine lv_aload_n hx hb (nq_d dX2_nextInChain_0_g (n := 10) rfl) rfl (lv_at hl 0 rfl) ?_
      refine va_get (D := (dC, dI)) (ci := 2) (v := .ref ag_has) (C := RX2) (T := TX2) (N := 8) hx hb hts hi_X2 hown hK hP 0 rfl rfl 7 (by decide) hf34 (fun _ h9 => h9) rfl (nq_d dX2_nextInChain_0_g (n := 11) rfl) ?_
      refine lv_iload_n hx hb (nq_d dX2_nextInChain_0_g (n := 12) rfl) rfl (lv_at hl 2 rfl) ?_
      refine gx_iald hx hb hK hP 1 1 rfl rfl (nq_d dX2_nextInChain_0_g (n := 13) rfl) hw (fun v3 hw => ?_)
      refine lv_goto (tgt := 28) hx hb (nq_d dX2_nextInChain_0_g (n := 14) rfl) (by decide) ?_
      exact rt_i (A1 := A) hQ hx hb hr hlocks hP hD hS () [0, 1] rfl (by decide +kernel) hw (nq_d dX2_nextInChain_0_g (n := 16) rfl)
abbrev rmX2_chainLength : Room := { frames := 2, cells := 0, slots := 0, locals := 43 }
theorem cd_X2_chainLength : yX2_chainLength.cls = RX2 ∧ yX2_chainLength.cls ≠ "java/lang/invoke/MethodHandle" ∧ yX2_chainLength.cls ≠ "java/lang/invoke/VarHandle" ∧ (parseMethodDescriptor yX2_chainLength.desc).map (fun d => d.parameters.length) = some 1 := by decide +kernel
set_option maxHeartbeats 4000000 in
set_option maxRecDepth 100000 in
theorem ct_Guests_chainLength (l : Launch) (dC : Nat → ClassId) (dI : Nat → Nat → Nat) (cyB cyI cyJ cyZ : ClassId) (ag ag_sort ag_kind ag_tip ag_marks ag_brass ag_peg ag_has : Nat) (sz : Nat) (g_number : Int32) (g_has : Nat → Int32) (x1 : Int32) (Q : Int → Prop) : Met l yX2_chainLength wsX2_chainLength rmX2_chainLength (va_Pc [.ref ag, .int x1] (cPre (dC, dI) vwCl (tyS cyB cyI cyJ cyZ) [(ag, .inr (2, [.int g_number, .ref ag_sort, .ref ag_kind, .ref ag_tip, .ref ag_marks, .ref ag_brass, .ref ag_peg, .ref ag_has])), (ag_has, .inl (cyI, 16, .inl g_has))] sz (nf_Guests_chainLength g_number.toInt (aI 16 g_has) x1.toInt Q))) (va_Qi (fun (r : Int32) (_ : Unit) => Q r.toInt ) (cPost (dC, dI) vwCl (fun _ : Unit => [(ag, .inr (2, [.int g_number, .ref ag_sort, .ref ag_kind, .ref ag_tip, .ref ag_marks, .ref ag_brass, .ref ag_peg, .ref ag_has])), (ag_has, .inl (cyI, 16, .inl g_has))]) (va_A [(ag, .inr (2, [.int g_number, .ref ag_sort, .ref ag_kind, .ref ag_tip, .ref ag_marks, .ref ag_brass, .ref ag_peg, .ref ag_has])), (ag_has, .inl (cyI, 16, .inl g_has))] sz)) (va_A [(ag, .inr (2, [.int g_number, .ref ag_sort, .ref ag_kind, .ref ag_tip, .ref ag_marks, .ref ag_brass, .ref ag_peg, .ref ag_has])), (ag_has, .inl (cyI, 16, .inl g_has))] sz)) 0 0 (va_A [(ag, .inr (2, [.int g_number, .ref ag_sort, .ref ag_kind, .ref ag_tip, .ref ag_marks, .ref ag_brass, .ref ag_peg, .ref ag_has])), (ag_has, .inl (cyI, 16, .inl g_has))] sz) := by
  refine Met.ofW (cc := cX2_chainLength) (maxL := 4) (ret := (some .int)) (by decide) rfl ?_
  intro p e s m args below meth c s₁ B hml hv
  obtain ⟨rfl, hsz, hP, hK, hD0, hNw, hw⟩ := hv
  have hx := B.exec
  have hb := B.bytes
  have hr := B.returns
  have hts := atoms_spec (ws := wsX2_chainLength) B.pre
  have hown : s.vm.findClass RX2 = some m.cls := findClass_of_methodNamed B.named
  have hlocks := B.notSynchronized
  subst hsz
  have hD := hD0.self (sz := s.heap.size)
  generalize hAe : va_A [(ag, .inr (2, [.int g_number, .ref ag_sort, .ref ag_kind, .ref ag_tip, .ref ag_marks, .ref ag_brass, .ref ag_peg, .ref ag_has])), (ag_has, .inl (cyI, 16, .inl g_has))] s.heap.size = A at hD ⊢
  have hA : ∀ q : Nat, s.heap.size ≤ q → A q := fun q h => by rw [← hAe]; exact Or.inr h
  have hS : va_S A s.heap s.heap [] := va_S.rf
  have hl := lv_entry ([.ref ag, .int x1]) (n := 4) (Nat.le_of_ble_eq_true rfl)
  rw [lg_entry_eq]
  generalize (lg_sl ([.ref ag, .int x1]) ++ List.replicate (4 - (lg_sl ([.ref ag, .int x1])).length) Slot.unset).toArray = ls at hl ⊢
  have hl : lv_has ls 4 [(0, .ref ag), (1, .int x1)] := hl
  refine gx_q (fun Q9 hQ => ?_)
  unfold nf_Guests_chainLength at hw
  refine lv_iload_n hx hb (nq_d dX2_chainLength_0_g (n := 0) rfl) rfl (lv_at hl 1 rfl) ?_
  refine lv_istore_n (lv' := [(2, .int x1), (0, .ref ag), (1, .int x1)]) hx hb (nq_d dX2_chainLength_0_g (n := 1) rfl) rfl hl (by decide) rfl (fun ls hl => ?_)
  refine lv_iconst (v := (0 : Int32)) hx hb (nq_d dX2_chainLength_0_g (n := 2) rfl) (by decide) ?_
  refine lv_istore_n (lv' := [(3, .int (0 : Int32)), (2, .int x1), (0, .ref ag), (1, .int x1)]) hx hb (nq_d dX2_chainLength_0_g (n := 3) rfl) rfl hl (by decide) rfl (fun ls hl => ?_)
  refine nlp2_el hw (fun X0_5 X1_5 => ∀ (l2_1 : Int32) (l3_2 : Int32), X0_5 = l2_1.toInt → X1_5 = l3_2.toInt → ∀ (H : Heap) (locs : List Loc) (ls : Array Slot), va_P (dC, dI) vwCl [(ag, .inr (2, [.int g_number, .ref ag_sort, .ref ag_kind, .ref ag_tip, .ref ag_marks, .ref ag_brass, .ref ag_peg, .ref ag_has])), (ag_has, .inl (cyI, 16, .inl g_has))] H → va_D A [(ag, .inr (2, [.int g_number, .ref ag_sort, .ref ag_kind, .ref ag_tip, .ref ag_marks, .ref ag_brass, .ref ag_peg, .ref ag_has])), (ag_has, .inl (cyI, 16, .inl g_has))] → va_S A s.heap H locs → lv_has ls 4 [(0, .ref ag), (1, .int x1), (2, .int l2_1), (3, .int l3_2)] → W p l e (headSpec wsX2_chainLength rmX2_chainLength).room s m ([.ref ag, .int x1] : List Value).toArray below meth c H locs 0 0 Q9 (F0 m 4 ls [])) (fun self3 hPself3 X0_5 X1_5 hw l2_1 l3_2 eX0_5 eX1_5 H locs ls hP hD hS hl => ?_) x1 (0 : Int32) rfl rfl _ _ _ hP hD hS (lv_sub hl [2, 3, 1, 0] rfl)
  subst eX0_5
  subst eX1_5
  refine lv_iload_n hx hb (nq_d dX2_chainLength_0_g (n := 4) rfl) rfl (lv_at hl 2 rfl) ?_
  refine lv_iconst (v := ((-1) : Int32)) hx hb (nq_d dX2_chainLength_0_g (n := 5) rfl) (by decide) ?_
  refine gx_icmp_eq (tgt := 28) hx hb (nq_d dX2_chainLength_0_g (n := 6) rfl) (by decide) hw (fun hw => ?_) (fun hw => ?_)
  · refine lv_iload_n hx hb (nq_d dX2_chainLength_0_g (n := 17) rfl) rfl (lv_at hl 3 rfl) ?_
    exact rt_i (A1 := A) hQ hx hb hr hlocks hP hD hS () [0, 1] rfl (by decide +kernel) hw (nq_d dX2_chainLength_0_g (n := 18) rfl)
  · refine lv_iload_n hx hb (nq_d dX2_chainLength_0_g (n := 7) rfl) rfl (lv_at hl 3 rfl) ?_
    refine lv_bipush (v := (16 : Int32)) hx hb (nq_d dX2_chainLength_0_g (n := 8) rfl) (by decide) ?_
    refine gx_icmp_ge (tgt := 28) hx hb (nq_d dX2_chainLength_0_g (n := 9) rfl) (by decide) hw (fun hw => ?_) (fun hw => ?_)
    · refine lv_iload_n hx hb (nq_d dX2_chainLength_0_g (n := 17) rfl) rfl (lv_at hl 3 rfl) ?_
      exact rt_i (A1 := A) hQ hx hb hr hlocks hP hD hS () [0, 1] rfl (by decide +kernel) hw (nq_d dX2_chainLength_0_g (n := 18) rfl)
    · refine lv_aload_n hx hb (nq_d dX2_chainLength_0_g (n := 10) rfl) rfl (lv_at hl 0 rfl) ?_
      refine lv_iload_n hx hb (nq_d dX2_chainLength_0_g (n := 11) rfl) rfl (lv_at hl 1 rfl) ?_
      refine lv_iload_n hx hb (nq_d dX2_chainLength_0_g (n := 12) rfl) rfl (lv_at hl 2 rfl) ?_
      refine gx_ri (wr := []) (va_runV (As := [.int x1, .int l2_1]) (rest := []) ⟨hx, hb, hml, hown, hts⟩ (ct_Guests_nextInChain l dC dI cyB cyI cyJ cyZ ag ag_sort ag_kind ag_tip ag_marks ag_brass ag_peg ag_has _ g_number g_has x1 l2_1 _) (cwV 2 hts gX2_chainLength_X2_nextInChain rfl rfl rfl cd_X2_nextInChain ⟨Nat.le_of_ble_eq_true rfl, Nat.le_of_ble_eq_true rfl⟩) (gx_preV hK hP hD hNw [0, 1] rfl (by decide +kernel) hw 0 (ci := 2) rfl rfl rfl) rfl rfl hl.1 rfl (lv_room (Nat.le_of_ble_eq_true rfl)) (nq_d dX2_chainLength_0_g (n := 13) rfl) ⟨Nat.zero_le _, Nat.zero_le _⟩) hP hD hS hA [0, 1] [] [0, 1] rfl rfl (by decide) (by decide) (by decide) (fun _ => [(ag, .inr (2, [.int g_number, .ref ag_sort, .ref ag_kind, .ref ag_tip, .ref ag_marks, .ref ag_brass, .ref ag_peg, .ref ag_has])), (ag_has, .inl (cyI, 16, .inl g_has))]) (fun _ => rfl) (fun r4 u H locs hw hP hD hS => ?_)
      try dsimp only at hw hP hD
      refine lv_istore_n (lv' := [(2, .int r4), (0, .ref ag), (1, .int x1), (3, .int l3_2)]) hx hb (nq_d dX2_chainLength_0_g (n := 14) rfl) rfl hl (by decide) rfl (fun ls hl => ?_)
      refine gx_iinc (k := 3) (z := (1 : Int32)) (lv' := fun v5 => [(3, .int v5), (2, .int r4), (0, .ref ag), (1, .int x1)]) hx hb (nq_d dX2_chainLength_0_g (n := 15) rfl) hl rfl (by decide) (by decide) (fun _ => rfl) hw (fun v5 ls hw hl => ?_)
      refine lv_goto (tgt := 4) hx hb (nq_d dX2_chainLength_0_g (n := 16) rfl) (by decide) ?_
      exact hPself3 _ _ hw r4 v5 rfl rfl _ _ _ hP hD hS (lv_sub hl [2, 3, 1, 0] rfl)
abbrev rmX2_chainMember : Room := { frames := 2, cells := 0, slots := 0, locals := 43 }
theorem cd_X2_chainMember : yX2_chainMember.cls = RX2 ∧ yX2_chainMember.cls ≠ "java/lang/invoke/MethodHandle" ∧ yX2_chainMember.cls ≠ "java/lang/invoke/VarHandle" ∧ (parseMethodDescriptor yX2_chainMember.desc).map (fun d => d.parameters.length) = some 2 := by decide +kernel
set_option maxHeartbeats 4000000 in
set_option maxRecDepth 100000 in
theorem ct_Guests_chainMember (l : Launch) (dC : Nat → ClassId) (dI : Nat → Nat → Nat) (cyB cyI cyJ cyZ : ClassId) (ag ag_sort ag_kind ag_tip ag_marks ag_brass ag_peg ag_has : Nat) (sz : Nat) (g_number : Int32) (g_has : Nat → Int32) (x1 : Int32) (x2 : Int32) (Q : Int → Prop) : Met l yX2_chainMember wsX2_chainMember rmX2_chainMember (va_Pc [.ref ag, .int x1, .int x2] (cPre (dC, dI) vwCl (tyS cyB cyI cyJ cyZ) [(ag, .inr (2, [.int g_number, .ref ag_sort, .ref ag_kind, .ref ag_tip, .ref ag_marks, .ref ag_brass, .ref ag_peg, .ref ag_has])), (ag_has, .inl (cyI, 16, .inl g_has))] sz (nf_Guests_chainMember g_number.toInt (aI 16 g_has) x1.toInt x2.toInt Q))) (va_Qi (fun (r : Int32) (_ : Unit) => Q r.toInt ) (cPost (dC, dI) vwCl (fun _ : Unit => [(ag, .inr (2, [.int g_number, .ref ag_sort, .ref ag_kind, .ref ag_tip, .ref ag_marks, .ref ag_brass, .ref ag_peg, .ref ag_has])), (ag_has, .inl (cyI, 16, .inl g_has))]) (va_A [(ag, .inr (2, [.int g_number, .ref ag_sort, .ref ag_kind, .ref ag_tip, .ref ag_marks, .ref ag_brass, .ref ag_peg, .ref ag_has])), (ag_has, .inl (cyI, 16, .inl g_has))] sz)) (va_A [(ag, .inr (2, [.int g_number, .ref ag_sort, .ref ag_kind, .ref ag_tip, .ref ag_marks, .ref ag_brass, .ref ag_peg, .ref ag_has])), (ag_has, .inl (cyI, 16, .inl g_has))] sz)) 0 0 (va_A [(ag, .inr (2, [.int g_number, .ref ag_sort, .ref ag_kind, .ref ag_tip, .ref ag_marks, .ref ag_brass, .ref ag_peg, .ref ag_has])), (ag_has, .inl (cyI, 16, .inl g_has))] sz) := by
  refine Met.ofW (cc := cX2_chainMember) (maxL := 5) (ret := (some .int)) (by decide) rfl ?_
  intro p e s m args below meth c s₁ B hml hv
  obtain ⟨rfl, hsz, hP, hK, hD0, hNw, hw⟩ := hv
  have hx := B.exec
  have hb := B.bytes
  have hr := B.returns
  have hts := atoms_spec (ws := wsX2_chainMember) B.pre
  have hown : s.vm.findClass RX2 = some m.cls := findClass_of_methodNamed B.named
  have hlocks := B.notSynchronized
  subst hsz
  have hD := hD0.self (sz := s.heap.size)
  generalize hAe : va_A [(ag, .inr (2, [.int g_number, .ref ag_sort, .ref ag_kind, .ref ag_tip, .ref ag_marks, .ref ag_brass, .ref ag_peg, .ref ag_has])), (ag_has, .inl (cyI, 16, .inl g_has))] s.heap.size = A at hD ⊢
  have hA : ∀ q : Nat, s.heap.size ≤ q → A q := fun q h => by rw [← hAe]; exact Or.inr h
  have hS : va_S A s.heap s.heap [] := va_S.rf
  have hl := lv_entry ([.ref ag, .int x1, .int x2]) (n := 5) (Nat.le_of_ble_eq_true rfl)
  rw [lg_entry_eq]
  generalize (lg_sl ([.ref ag, .int x1, .int x2]) ++ List.replicate (5 - (lg_sl ([.ref ag, .int x1, .int x2])).length) Slot.unset).toArray = ls at hl ⊢
  have hl : lv_has ls 5 [(0, .ref ag), (1, .int x1), (2, .int x2)] := hl
  refine gx_q (fun Q9 hQ => ?_)
  unfold nf_Guests_chainMember at hw
  refine lv_iload_n hx hb (nq_d dX2_chainMember_0_g (n := 0) rfl) rfl (lv_at hl 2 rfl) ?_
  refine gx_if_ge (tgt := 6) hx hb (nq_d dX2_chainMember_0_g (n := 1) rfl) (by decide) hw (fun hw => ?_) (fun hw => ?_)
  · refine lv_iload_n hx hb (nq_d dX2_chainMember_0_g (n := 4) rfl) rfl (lv_at hl 1 rfl) ?_
    refine lv_istore_n (lv' := [(3, .int x1), (0, .ref ag), (1, .int x1), (2, .int x2)]) hx hb (nq_d dX2_chainMember_0_g (n := 5) rfl) rfl hl (by decide) rfl (fun ls hl => ?_)
    refine lv_iconst (v := (0 : Int32)) hx hb (nq_d dX2_chainMember_0_g (n := 6) rfl) (by decide) ?_
    refine lv_istore (lv' := [(4, .int (0 : Int32)), (3, .int x1), (0, .ref ag), (1, .int x1), (2, .int x2)]) hx hb (nq_d dX2_chainMember_0_g (n := 7) rfl) hl (by decide) rfl (fun ls hl => ?_)
    refine nlp2_el hw (fun X0_5 X1_5 => ∀ (l3_1 : Int32) (l4_2 : Int32), X0_5 = l3_1.toInt → X1_5 = l4_2.toInt → ∀ (H : Heap) (locs : List Loc) (ls : Array Slot), va_P (dC, dI) vwCl [(ag, .inr (2, [.int g_number, .ref ag_sort, .ref ag_kind, .ref ag_tip, .ref ag_marks, .ref ag_brass, .ref ag_peg, .ref ag_has])), (ag_has, .inl (cyI, 16, .inl g_has))] H → va_D A [(ag, .inr (2, [.int g_number, .ref ag_sort, .ref ag_kind, .ref ag_tip, .ref ag_marks, .ref ag_brass, .ref ag_peg, .ref ag_has])), (ag_has, .inl (cyI, 16, .inl g_has))] → va_S A s.heap H locs → lv_has ls 5 [(0, .ref ag), (1, .int x1), (2, .int x2), (3, .int l3_1), (4, .int l4_2)] → W p l e (headSpec wsX2_chainMember rmX2_chainMember).room s m ([.ref ag, .int x1, .int x2] : List Value).toArray below meth c H locs 0 0 Q9 (F0 m 11 ls [])) (fun self3 hPself3 X0_5 X1_5 hw l3_1 l4_2 eX0_5 eX1_5 H locs ls hP hD hS hl => ?_) x1 (0 : Int32) rfl rfl _ _ _ hP hD hS (lv_sub hl [2, 3, 4, 1, 0] rfl)
    subst eX0_5
    subst eX1_5
    refine lv_iload hx hb (nq_d dX2_chainMember_0_g (n := 8) rfl) (lv_at hl 4 rfl) ?_
    refine lv_iload_n hx hb (nq_d dX2_chainMember_0_g (n := 9) rfl) rfl (lv_at hl 2 rfl) ?_
    refine gx_icmp_ge (tgt := 35) hx hb (nq_d dX2_chainMember_0_g (n := 10) rfl) (by decide) hw (fun hw => ?_) (fun hw => ?_)
    · refine lv_iload_n hx hb (nq_d dX2_chainMember_0_g (n := 21) rfl) rfl (lv_at hl 3 rfl) ?_
      exact rt_i (A1 := A) hQ hx hb hr hlocks hP hD hS () [0, 1] rfl (by decide +kernel) hw (nq_d dX2_chainMember_0_g (n := 22) rfl)
    · refine lv_iload_n hx hb (nq_d dX2_chainMember_0_g (n := 11) rfl) rfl (lv_at hl 3 rfl) ?_
      refine lv_iconst (v := ((-1) : Int32)) hx hb (nq_d dX2_chainMember_0_g (n := 12) rfl) (by decide) ?_
      refine gx_icmp_eq (tgt := 35) hx hb (nq_d dX2_chainMember_0_g (n := 13) rfl) (by decide) hw (fun hw => ?_) (fun hw => ?_)
      · refine lv_iload_n hx hb (nq_d dX2_chainMember_0_g (n := 21) rfl) rfl (lv_at hl 3 rfl) ?_
        exact rt_i (A1 := A) hQ hx hb hr hlocks hP hD hS () [0, 1] rfl (by decide +kernel) hw (nq_d dX2_chainMember_0_g (n := 22) rfl)
      · refine lv_aload_n hx hb (nq_d dX2_chainMember_0_g (n := 14) rfl) rfl (lv_at hl 0 rfl) ?_
        refine lv_iload_n hx hb (nq_d dX2_chainMember_0_g (n := 15) rfl) rfl (lv_at hl 1 rfl) ?_
        refine lv_iload_n hx hb (nq_d dX2_chainMember_0_g (n := 16) rfl) rfl (lv_at hl 3 rfl) ?_
        refine gx_ri (wr := []) (va_runV (As := [.int x1, .int l3_1]) (rest := []) ⟨hx, hb, hml, hown, hts⟩ (ct_Guests_nextInChain l dC dI cyB cyI cyJ cyZ ag ag_sort ag_kind ag_tip ag_marks ag_brass ag_peg ag_has _ g_number g_has x1 l3_1 _) (cwV 2 hts gX2_chainMember_X2_nextInChain rfl rfl rfl cd_X2_nextInChain ⟨Nat.le_of_ble_eq_true rfl, Nat.le_of_ble_eq_true rfl⟩) (gx_preV hK hP hD hNw [0, 1] rfl (by decide +kernel) hw 0 (ci := 2) rfl rfl rfl) rfl rfl hl.1 rfl (lv_room (Nat.le_of_ble_eq_true rfl)) (nq_d dX2_chainMember_0_g (n := 17) rfl) ⟨Nat.zero_le _, Nat.zero_le _⟩) hP hD hS hA [0, 1] [] [0, 1] rfl rfl (by decide) (by decide) (by decide) (fun _ => [(ag, .inr (2, [.int g_number, .ref ag_sort, .ref ag_kind, .ref ag_tip, .ref ag_marks, .ref ag_brass, .ref ag_peg, .ref ag_has])), (ag_has, .inl (cyI, 16, .inl g_has))]) (fun _ => rfl) (fun r4 u H locs hw hP hD hS => ?_)
        try dsimp only at hw hP hD
        refine lv_istore_n (lv' := [(3, .int r4), (0, .ref ag), (1, .int x1), (2, .int x2), (4, .int l4_2)]) hx hb (nq_d dX2_chainMember_0_g (n := 18) rfl) rfl hl (by decide) rfl (fun ls hl => ?_)
        refine gx_iinc (k := 4) (z := (1 : Int32)) (lv' := fun v5 => [(4, .int v5), (3, .int r4), (0, .ref ag), (1, .int x1), (2, .int x2)]) hx hb (nq_d dX2_chainMember_0_g (n := 19) rfl) hl rfl (by decide) (by decide) (fun _ => rfl) hw (fun v5 ls hw hl => ?_)
        refine lv_goto (tgt := 11) hx hb (nq_d dX2_chainMember_0_g (n := 20) rfl) (by decide) ?_
        exact hPself3 _ _ hw r4 v5 rfl rfl _ _ _ hP hD hS (lv_sub hl [2, 3, 4, 1, 0] rfl)
  · refine lv_iconst (v := ((-1) : Int32)) hx hb (nq_d dX2_chainMember_0_g (n := 2) rfl) (by decide) ?_
    exact rt_i (A1 := A) hQ hx hb hr hlocks hP hD hS () [0, 1] rfl (by decide +kernel) hw (nq_d dX2_chainMember_0_g (n := 3) rfl)
abbrev rmX2_comesRound : Room := { frames := 3, cells := 0, slots := 0, locals := 67 }
theorem cd_X2_comesRound : yX2_comesRound.cls = RX2 ∧ yX2_comesRound.cls ≠ "java/lang/invoke/MethodHandle" ∧ yX2_comesRound.cls ≠ "java/lang/invoke/VarHandle" ∧ (parseMethodDescriptor yX2_comesRound.desc).map (fun d => d.parameters.length) = some 1 := by decide +kernel
set_option maxHeartbeats 4000000 in
set_option maxRecDepth 100000 in
theorem ct_Guests_comesRound (l : Launch) (dC : Nat → ClassId) (dI : Nat → Nat → Nat) (cyB cyI cyJ cyZ : ClassId) (ag ag_sort ag_kind ag_tip ag_marks ag_brass ag_peg ag_has : Nat) (sz : Nat) (g_number : Int32) (g_has : Nat → Int32) (x1 : Int32) (Q : Int → Prop) : Met l yX2_comesRound wsX2_comesRound rmX2_comesRound (va_Pc [.ref ag, .int x1] (cPre (dC, dI) vwCl (tyS cyB cyI cyJ cyZ) [(ag, .inr (2, [.int g_number, .ref ag_sort, .ref ag_kind, .ref ag_tip, .ref ag_marks, .ref ag_brass, .ref ag_peg, .ref ag_has])), (ag_has, .inl (cyI, 16, .inl g_has))] sz (nf_Guests_comesRound g_number.toInt (aI 16 g_has) x1.toInt Q))) (va_Qi (fun (r : Int32) (_ : Unit) => Q r.toInt ) (cPost (dC, dI) vwCl (fun _ : Unit => [(ag, .inr (2, [.int g_number, .ref ag_sort, .ref ag_kind, .ref ag_tip, .ref ag_marks, .ref ag_brass, .ref ag_peg, .ref ag_has])), (ag_has, .inl (cyI, 16, .inl g_has))]) (va_A [(ag, .inr (2, [.int g_number, .ref ag_sort, .ref ag_kind, .ref ag_tip, .ref ag_marks, .ref ag_brass, .ref ag_peg, .ref ag_has])), (ag_has, .inl (cyI, 16, .inl g_has))] sz)) (va_A [(ag, .inr (2, [.int g_number, .ref ag_sort, .ref ag_kind, .ref ag_tip, .ref ag_marks, .ref ag_brass, .ref ag_peg, .ref ag_has])), (ag_has, .inl (cyI, 16, .inl g_has))] sz)) 0 0 (va_A [(ag, .inr (2, [.int g_number, .ref ag_sort, .ref ag_kind, .ref ag_tip, .ref ag_marks, .ref ag_brass, .ref ag_peg, .ref ag_has])), (ag_has, .inl (cyI, 16, .inl g_has))] sz) := by
  refine Met.ofW (cc := cX2_comesRound) (maxL := 3) (ret := (some .boolean)) (by decide) rfl ?_
  intro p e s m args below meth c s₁ B hml hv
  obtain ⟨rfl, hsz, hP, hK, hD0, hNw, hw⟩ := hv
  have hx := B.exec
  have hb := B.bytes
  have hr := B.returns
  have hts := atoms_spec (ws := wsX2_comesRound) B.pre
  have hown : s.vm.findClass RX2 = some m.cls := findClass_of_methodNamed B.named
  have hlocks := B.notSynchronized
  subst hsz
  have hD := hD0.self (sz := s.heap.size)
  generalize hAe : va_A [(ag, .inr (2, [.int g_number, .ref ag_sort, .ref ag_kind, .ref ag_tip, .ref ag_marks, .ref ag_brass, .ref ag_peg, .ref ag_has])), (ag_has, .inl (cyI, 16, .inl g_has))] s.heap.size = A at hD ⊢
  have hA : ∀ q : Nat, s.heap.size ≤ q → A q := fun q h => by rw [← hAe]; exact Or.inr h
  have hS : va_S A s.heap s.heap [] := va_S.rf
  have hl := lv_entry ([.ref ag, .int x1]) (n := 3) (Nat.le_of_ble_eq_true rfl)
  rw [lg_entry_eq]
  generalize (lg_sl ([.ref ag, .int x1]) ++ List.replicate (3 - (lg_sl ([.ref ag, .int x1])).length) Slot.unset).toArray = ls at hl ⊢
  have hl : lv_has ls 3 [(0, .ref ag), (1, .int x1)] := hl
  refine gx_q (fun Q9 hQ => ?_)
  unfold nf_Guests_comesRound at hw
  have hi_X2 : ∀ w ∈ wsX20, w ∈ wsX2_comesRound := (sub_c (nq_m (n := 20) rfl) (sub_c (nq_m (n := 21) rfl) (sub_c (nq_m (n := 22) rfl) (sub_c (nq_m (n := 23) rfl) (sub_c (nq_m (n := 24) rfl) (sub_c (nq_m (n := 25) rfl) (sub_c (nq_m (n := 26) rfl) (sub_c (nq_m (n := 27) rfl) sub_n))))))))
  have hf34 : (Cond.fieldLink RX2 34 "CoatsHall$Guests" (TX2 7).2.1 (TX2 7).2.2.1).before ([.ref ag, .int x1] : List Value).toArray s = true := hts (.fieldLink RX2 34 "CoatsHall$Guests" "has" "[I") (nq_m (n := 1) rfl)
  refine lv_aload_n hx hb (nq_d dX2_comesRound_0_g (n := 0) rfl) rfl (lv_at hl 0 rfl) ?_
  refine lv_iload_n hx hb (nq_d dX2_comesRound_0_g (n := 1) rfl) rfl (lv_at hl 1 rfl) ?_
  refine lv_aload_n hx hb (nq_d dX2_comesRound_0_g (n := 2) rfl) rfl (lv_at hl 0 rfl) ?_
  refine lv_iload_n hx hb (nq_d dX2_comesRound_0_g (n := 3) rfl) rfl (lv_at hl 1 rfl) ?_
  refine gx_ri (wr := []) (va_runV (As := [.int x1]) (rest := [.int x1, .ref ag]) ⟨hx, hb, hml, hown, hts⟩ (ct_Guests_chainLength l dC dI cyB cyI cyJ cyZ ag ag_sort ag_kind ag_tip ag_marks ag_brass ag_peg ag_has _ g_number g_has x1 _) (cwV 1 hts gX2_comesRound_X2_chainLength rfl rfl rfl cd_X2_chainLength ⟨Nat.le_of_ble_eq_true rfl, Nat.le_of_ble_eq_true rfl⟩) (gx_preV hK hP hD hNw [0, 1] rfl (by decide +kernel) hw 0 (ci := 2) rfl rfl rfl) rfl rfl hl.1 rfl (lv_room (Nat.le_of_ble_eq_true rfl)) (nq_d dX2_comesRound_0_g (n := 4) rfl) ⟨Nat.zero_le _, Nat.zero_le _⟩) hP hD hS hA [0, 1] [] [0, 1] rfl rfl (by decide) (by decide) (by decide) (fun _ => [(ag, .inr (2, [.int g_number, .ref ag_sort, .ref ag_kind, .ref ag_tip, .ref ag_marks, .ref ag_brass, .ref ag_peg, .ref ag_has])), (ag_has, .inl (cyI, 16, .inl g_has))]) (fun _ => rfl) (fun r1 u H locs hw hP hD hS => ?_)
  try dsimp only at hw hP hD
  refine lv_iconst (v := (1 : Int32)) hx hb (nq_d dX2_comesRound_0_g (n := 5) rfl) (by decide) ?_
  refine gx_isub hx hb (nq_d dX2_comesRound_0_g (n := 6) rfl) hw (fun v2 hw => ?_)
  refine gx_ri (wr := []) (va_runV (As := [.int x1, .int v2]) (rest := []) ⟨hx, hb, hml, hown, hts⟩ (ct_Guests_chainMember l dC dI cyB cyI cyJ cyZ ag ag_sort ag_kind ag_tip ag_marks ag_brass ag_peg ag_has _ g_number g_has x1 v2 _) (cwV 2 hts gX2_comesRound_X2_chainMember rfl rfl rfl cd_X2_chainMember ⟨Nat.le_of_ble_eq_true rfl, Nat.le_of_ble_eq_true rfl⟩) (gx_preV hK hP hD hNw [0, 1] rfl (by decide +kernel) hw 0 (ci := 2) rfl rfl rfl) rfl rfl hl.1 rfl (lv_room (Nat.le_of_ble_eq_true rfl)) (nq_d dX2_comesRound_0_g (n := 7) rfl) ⟨Nat.zero_le _, Nat.zero_le _⟩) hP hD hS hA [0, 1] [] [0, 1] rfl rfl (by decide) (by decide) (by decide) (fun _ => [(ag, .inr (2, [.int g_number, .ref ag_sort, .ref ag_kind, .ref ag_tip, .ref ag_marks, .ref ag_brass, .ref ag_peg, .ref ag_has])), (ag_has, .inl (cyI, 16, .inl g_has))]) (fun _ => rfl) (fun r3 u H locs hw hP hD hS => ?_)
  try dsimp only at hw hP hD
  refine lv_istore_n (lv' := [(2, .int r3), (0, .ref ag), (1, .int x1)]) hx hb (nq_d dX2_comesRound_0_g (n := 8) rfl) rfl hl (by decide) rfl (fun ls hl => ?_)
  refine lv_aload_n hx hb (nq_d dX2_comesRound_0_g (n := 9) rfl) rfl (lv_at hl 1 rfl) ?_
  refine lv_iload_n hx hb (nq_d dX2_comesRound_0_g (n := 10) rfl) rfl (lv_at hl 0 rfl) ?_
  refine gx_ri (wr := [(ag_has, .inl (cyI, 16, .inl g_has))]) (va_runV (As := [.int r3]) (rest := []) ⟨hx, hb, hml, hown, hts⟩ (ct_Guests_knows l dC dI cyB cyI cyJ cyZ ag ag_sort ag_kind ag_tip ag_marks ag_brass ag_peg ag_has _ g_number r3 _) (cwV 1 hts gX2_comesRound_X2_knows rfl rfl rfl cd_X2_knows ⟨Nat.le_of_ble_eq_true rfl, Nat.le_of_ble_eq_true rfl⟩) (gx_preV hK hP hD hNw [0] rfl (by decide +kernel) hw 0 (ci := 2) rfl rfl rfl) rfl rfl hl.1 rfl (lv_room (Nat.le_of_ble_eq_true rfl)) (nq_d dX2_comesRound_0_g (n := 11) rfl) ⟨Nat.zero_le _, Nat.zero_le _⟩) hP hD hS hA [0] [1] [1, 0] rfl rfl (by decide) (by decide) (by decide) (fun _ => [(ag, .inr (2, [.int g_number, .ref ag_sort, .ref ag_kind, .ref ag_tip, .ref ag_marks, .ref ag_brass, .ref ag_peg, .ref ag_has])), (ag_has, .inl (cyI, 16, .inl g_has))]) (fun _ => rfl) (fun r4 u H locs hw hP hD hS => ?_)
  try dsimp only at hw hP hD
  refine gx_if_eq (tgt := 35) hx hb (nq_d dX2_comesRound_0_g (n := 12) rfl) (by decide) hw (fun hw => ?_) (fun hw => ?_)
  · refine lv_iconst (v := (0 : Int32)) hx hb (nq_d dX2_comesRound_0_g (n := 21) rfl) (by decide) ?_
    exact rt_zl (A1 := A) hQ hx hb hr hlocks hP hD hS () [0, 1] rfl (by decide +kernel) rfl hw (nq_d dX2_comesRound_0_g (n := 22) rfl)
  · refine lv_aload_n hx hb (nq_d dX2_comesRound_0_g (n := 13) rfl) rfl (lv_at hl 1 rfl) ?_
    refine va_get (D := (dC, dI)) (ci := 2) (v := .ref ag_has) (C := RX2) (T := TX2) (N := 8) hx hb hts hi_X2 hown hK hP 0 rfl rfl 7 (by decide) hf34 (fun _ h9 => h9) rfl (nq_d dX2_comesRound_0_g (n := 14) rfl) ?_
    refine lv_iload_n hx hb (nq_d dX2_comesRound_0_g (n := 15) rfl) rfl (lv_at hl 0 rfl) ?_
    refine gx_iald hx hb hK hP 1 1 rfl rfl (nq_d dX2_comesRound_0_g (n := 16) rfl) hw (fun v5 hw => ?_)
    refine lv_iload_n hx hb (nq_d dX2_comesRound_0_g (n := 17) rfl) rfl (lv_at hl 2 rfl) ?_
    refine gx_icmp_ne (tgt := 35) hx hb (nq_d dX2_comesRound_0_g (n := 18) rfl) (by decide) hw (fun hw => ?_) (fun hw => ?_)
    · refine lv_iconst (v := (0 : Int32)) hx hb (nq_d dX2_comesRound_0_g (n := 21) rfl) (by decide) ?_
      exact rt_zl (A1 := A) hQ hx hb hr hlocks hP hD hS () [0, 1] rfl (by decide +kernel) rfl hw (nq_d dX2_comesRound_0_g (n := 22) rfl)
    · refine lv_iconst (v := (1 : Int32)) hx hb (nq_d dX2_comesRound_0_g (n := 19) rfl) (by decide) ?_
      refine lv_goto (tgt := 36) hx hb (nq_d dX2_comesRound_0_g (n := 20) rfl) (by decide) ?_
      exact rt_zl (A1 := A) hQ hx hb hr hlocks hP hD hS () [0, 1] rfl (by decide +kernel) rfl hw (nq_d dX2_comesRound_0_g (n := 22) rfl)
abbrev rmX2_isLeastOfRing : Room := { frames := 4, cells := 0, slots := 0, locals := 89 }
theorem cd_X2_isLeastOfRing : yX2_isLeastOfRing.cls = RX2 ∧ yX2_isLeastOfRing.cls ≠ "java/lang/invoke/MethodHandle" ∧ yX2_isLeastOfRing.cls ≠ "java/lang/invoke/VarHandle" ∧ (parseMethodDescriptor yX2_isLeastOfRing.desc).map (fun d => d.parameters.length) = some 1 := by decide +kernel
set_option maxHeartbeats 4000000 in
set_option maxRecDepth 100000 in
theorem ct_Guests_isLeastOfRing (l : Launch) (dC : Nat → ClassId) (dI : Nat → Nat → Nat) (cyB cyI cyJ cyZ : ClassId) (ag ag_sort ag_kind ag_tip ag_marks ag_brass ag_peg ag_has : Nat) (sz : Nat) (g_number : Int32) (g_has : Nat → Int32) (x1 : Int32) (Q : Int → Prop) : Met l yX2_isLeastOfRing wsX2_isLeastOfRing rmX2_isLeastOfRing (va_Pc [.ref ag, .int x1] (cPre (dC, dI) vwCl (tyS cyB cyI cyJ cyZ) [(ag, .inr (2, [.int g_number, .ref ag_sort, .ref ag_kind, .ref ag_tip, .ref ag_marks, .ref ag_brass, .ref ag_peg, .ref ag_has])), (ag_has, .inl (cyI, 16, .inl g_has))] sz (nf_Guests_isLeastOfRing g_number.toInt (aI 16 g_has) x1.toInt Q))) (va_Qi (fun (r : Int32) (_ : Unit) => Q r.toInt ) (cPost (dC, dI) vwCl (fun _ : Unit => [(ag, .inr (2, [.int g_number, .ref ag_sort, .ref ag_kind, .ref ag_tip, .ref ag_marks, .ref ag_brass, .ref ag_peg, .ref ag_has])), (ag_has, .inl (cyI, 16, .inl g_has))]) (va_A [(ag, .inr (2, [.int g_number, .ref ag_sort, .ref ag_kind, .ref ag_tip, .ref ag_marks, .ref ag_brass, .ref ag_peg, .ref ag_has])), (ag_has, .inl (cyI, 16, .inl g_has))] sz)) (va_A [(ag, .inr (2, [.int g_number, .ref ag_sort, .ref ag_kind, .ref ag_tip, .ref ag_marks, .ref ag_brass, .ref ag_peg, .ref ag_has])), (ag_has, .inl (cyI, 16, .inl g_has))] sz)) 0 0 (va_A [(ag, .inr (2, [.int g_number, .ref ag_sort, .ref ag_kind, .ref ag_tip, .ref ag_marks, .ref ag_brass, .ref ag_peg, .ref ag_has])), (ag_has, .inl (cyI, 16, .inl g_has))] sz) := by
  refine Met.ofW (cc := cX2_isLeastOfRing) (maxL := 4) (ret := (some .boolean)) (by decide) rfl ?_
  intro p e s m args below meth c s₁ B hml hv
  obtain ⟨rfl, hsz, hP, hK, hD0, hNw, hw⟩ := hv
  have hx := B.exec
  have hb := B.bytes
  have hr := B.returns
  have hts := atoms_spec (ws := wsX2_isLeastOfRing) B.pre
  have hown : s.vm.findClass RX2 = some m.cls := findClass_of_methodNamed B.named
  have hlocks := B.notSynchronized
  subst hsz
  have hD := hD0.self (sz := s.heap.size)
  generalize hAe : va_A [(ag, .inr (2, [.int g_number, .ref ag_sort, .ref ag_kind, .ref ag_tip, .ref ag_marks, .ref ag_brass, .ref ag_peg, .ref ag_has])), (ag_has, .inl (cyI, 16, .inl g_has))] s.heap.size = A at hD ⊢
  have hA : ∀ q : Nat, s.heap.size ≤ q → A q := fun q h => by rw [← hAe]; exact Or.inr h
  have hS : va_S A s.heap s.heap [] := va_S.rf
  have hl := lv_entry ([.ref ag, .int x1]) (n := 4) (Nat.le_of_ble_eq_true rfl)
  rw [lg_entry_eq]
  generalize (lg_sl ([.ref ag, .int x1]) ++ List.replicate (4 - (lg_sl ([.ref ag, .int x1])).length) Slot.unset).toArray = ls at hl ⊢
  have hl : lv_has ls 4 [(0, .ref ag), (1, .int x1)] := hl
  refine gx_q (fun Q9 hQ => ?_)
  unfold nf_Guests_isLeastOfRing at hw
  refine lv_aload_n hx hb (nq_d dX2_isLeastOfRing_0_g (n := 0) rfl) rfl (lv_at hl 0 rfl) ?_
  refine lv_iload_n hx hb (nq_d dX2_isLeastOfRing_0_g (n := 1) rfl) rfl (lv_at hl 1 rfl) ?_
  refine gx_ri (wr := []) (va_runV (As := [.int x1]) (rest := []) ⟨hx, hb, hml, hown, hts⟩ (ct_Guests_isAstray l dC dI cyB cyI cyJ cyZ ag ag_sort ag_kind ag_tip ag_marks ag_brass ag_peg ag_has _ g_number g_has x1 _) (cwV 1 hts gX2_isLeastOfRing_X2_isAstray rfl rfl rfl cd_X2_isAstray ⟨Nat.le_of_ble_eq_true rfl, Nat.le_of_ble_eq_true rfl⟩) (gx_preV hK hP hD hNw [0, 1] rfl (by decide +kernel) hw 0 (ci := 2) rfl rfl rfl) rfl rfl hl.1 rfl (lv_room (Nat.le_of_ble_eq_true rfl)) (nq_d dX2_isLeastOfRing_0_g (n := 2) rfl) ⟨Nat.zero_le _, Nat.zero_le _⟩) hP hD hS hA [0, 1] [] [0, 1] rfl rfl (by decide) (by decide) (by decide) (fun _ => [(ag, .inr (2, [.int g_number, .ref ag_sort, .ref ag_kind, .ref ag_tip, .ref ag_marks, .ref ag_brass, .ref ag_peg, .ref ag_has])), (ag_has, .inl (cyI, 16, .inl g_has))]) (fun _ => rfl) (fun r1 u H locs hw hP hD hS => ?_)
  try dsimp only at hw hP hD
  refine gx_if_eq (tgt := 16) hx hb (nq_d dX2_isLeastOfRing_0_g (n := 3) rfl) (by decide) hw (fun hw => ?_) (fun hw => ?_)
  · refine lv_iconst (v := (0 : Int32)) hx hb (nq_d dX2_isLeastOfRing_0_g (n := 8) rfl) (by decide) ?_
    exact rt_zl (A1 := A) hQ hx hb hr hlocks hP hD hS () [0, 1] rfl (by decide +kernel) rfl hw (nq_d dX2_isLeastOfRing_0_g (n := 9) rfl)
  · refine lv_aload_n hx hb (nq_d dX2_isLeastOfRing_0_g (n := 4) rfl) rfl (lv_at hl 0 rfl) ?_
    refine lv_iload_n hx hb (nq_d dX2_isLeastOfRing_0_g (n := 5) rfl) rfl (lv_at hl 1 rfl) ?_
    refine gx_ri (wr := []) (va_runV (As := [.int x1]) (rest := []) ⟨hx, hb, hml, hown, hts⟩ (ct_Guests_comesRound l dC dI cyB cyI cyJ cyZ ag ag_sort ag_kind ag_tip ag_marks ag_brass ag_peg ag_has _ g_number g_has x1 _) (cwV 1 hts gX2_isLeastOfRing_X2_comesRound rfl rfl rfl cd_X2_comesRound ⟨Nat.le_of_ble_eq_true rfl, Nat.le_of_ble_eq_true rfl⟩) (gx_preV hK hP hD hNw [0, 1] rfl (by decide +kernel) hw 0 (ci := 2) rfl rfl rfl) rfl rfl hl.1 rfl (lv_room (Nat.le_of_ble_eq_true rfl)) (nq_d dX2_isLeastOfRing_0_g (n := 6) rfl) ⟨Nat.zero_le _, Nat.zero_le _⟩) hP hD hS hA [0, 1] [] [0, 1] rfl rfl (by decide) (by decide) (by decide) (fun _ => [(ag, .inr (2, [.int g_number, .ref ag_sort, .ref ag_kind, .ref ag_tip, .ref ag_marks, .ref ag_brass, .ref ag_peg, .ref ag_has])), (ag_has, .inl (cyI, 16, .inl g_has))]) (fun _ => rfl) (fun r2 u H locs hw hP hD hS => ?_)
    try dsimp only at hw hP hD
    refine gx_if_ne (tgt := 18) hx hb (nq_d dX2_isLeastOfRing_0_g (n := 7) rfl) (by decide) hw (fun hw => ?_) (fun hw => ?_)
    · refine lv_iload_n hx hb (nq_d dX2_isLeastOfRing_0_g (n := 10) rfl) rfl (lv_at hl 1 rfl) ?_
      refine lv_istore_n (lv' := [(2, .int x1), (0, .ref ag), (1, .int x1)]) hx hb (nq_d dX2_isLeastOfRing_0_g (n := 11) rfl) rfl hl (by decide) rfl (fun ls hl => ?_)
      refine lv_iconst (v := (0 : Int32)) hx hb (nq_d dX2_isLeastOfRing_0_g (n := 12) rfl) (by decide) ?_
      refine lv_istore_n (lv' := [(3, .int (0 : Int32)), (2, .int x1), (0, .ref ag), (1, .int x1)]) hx hb (nq_d dX2_isLeastOfRing_0_g (n := 13) rfl) rfl hl (by decide) rfl (fun ls hl => ?_)
      refine nlp2_el hw (fun X0_8 X1_8 => ∀ (l2_3 : Int32) (l3_4 : Int32), X0_8 = l2_3.toInt → X1_8 = l3_4.toInt → ∀ (H : Heap) (locs : List Loc) (ls : Array Slot), va_P (dC, dI) vwCl [(ag, .inr (2, [.int g_number, .ref ag_sort, .ref ag_kind, .ref ag_tip, .ref ag_marks, .ref ag_brass, .ref ag_peg, .ref ag_has])), (ag_has, .inl (cyI, 16, .inl g_has))] H → va_D A [(ag, .inr (2, [.int g_number, .ref ag_sort, .ref ag_kind, .ref ag_tip, .ref ag_marks, .ref ag_brass, .ref ag_peg, .ref ag_has])), (ag_has, .inl (cyI, 16, .inl g_has))] → va_S A s.heap H locs → lv_has ls 4 [(0, .ref ag), (1, .int x1), (2, .int l2_3), (3, .int l3_4)] → W p l e (headSpec wsX2_isLeastOfRing rmX2_isLeastOfRing).room s m ([.ref ag, .int x1] : List Value).toArray below meth c H locs 0 0 Q9 (F0 m 22 ls [])) (fun self5 hPself5 X0_8 X1_8 hw l2_3 l3_4 eX0_8 eX1_8 H locs ls hP hD hS hl => ?_) x1 (0 : Int32) rfl rfl _ _ _ hP hD hS (lv_sub hl [2, 3, 1, 0] rfl)
      subst eX0_8
      subst eX1_8
      refine lv_iload_n hx hb (nq_d dX2_isLeastOfRing_0_g (n := 14) rfl) rfl (lv_at hl 3 rfl) ?_
      refine lv_bipush (v := (16 : Int32)) hx hb (nq_d dX2_isLeastOfRing_0_g (n := 15) rfl) (by decide) ?_
      refine jn0_el hw (fun j6 hj6 hw => ?_)
      have Jj6 : ∀  (H : Heap) (locs : List Loc) (ls : Array Slot), va_P (dC, dI) vwCl [(ag, .inr (2, [.int g_number, .ref ag_sort, .ref ag_kind, .ref ag_tip, .ref ag_marks, .ref ag_brass, .ref ag_peg, .ref ag_has])), (ag_has, .inl (cyI, 16, .inl g_has))] H → va_D A [(ag, .inr (2, [.int g_number, .ref ag_sort, .ref ag_kind, .ref ag_tip, .ref ag_marks, .ref ag_brass, .ref ag_peg, .ref ag_has])), (ag_has, .inl (cyI, 16, .inl g_has))] → va_S A s.heap H locs → lv_has ls 4 [(2, .int l2_3)] → j6  → W p l e (headSpec wsX2_isLeastOfRing rmX2_isLeastOfRing).room s m ([.ref ag, .int x1] : List Value).toArray below meth c H locs 0 0 Q9 (F0 m 46 ls []) := by
        intro  H locs ls hP hD hS hl hw
        have hw := hj6  hw
        refine lv_iload_n hx hb (nq_d dX2_isLeastOfRing_0_g (n := 27) rfl) rfl (lv_at hl 0 rfl) ?_
        refine lv_iconst (v := ((-1) : Int32)) hx hb (nq_d dX2_isLeastOfRing_0_g (n := 28) rfl) (by decide) ?_
        refine gx_icmp_ne (tgt := 55) hx hb (nq_d dX2_isLeastOfRing_0_g (n := 29) rfl) (by decide) hw (fun hw => ?_) (fun hw => ?_)
        · refine lv_iconst (v := (0 : Int32)) hx hb (nq_d dX2_isLeastOfRing_0_g (n := 32) rfl) (by decide) ?_
          exact rt_zl (A1 := A) hQ hx hb hr hlocks hP hD hS () [0, 1] rfl (by decide +kernel) rfl hw (nq_d dX2_isLeastOfRing_0_g (n := 33) rfl)
        · refine lv_iconst (v := (1 : Int32)) hx hb (nq_d dX2_isLeastOfRing_0_g (n := 30) rfl) (by decide) ?_
          refine lv_goto (tgt := 56) hx hb (nq_d dX2_isLeastOfRing_0_g (n := 31) rfl) (by decide) ?_
          exact rt_zl (A1 := A) hQ hx hb hr hlocks hP hD hS () [0, 1] rfl (by decide +kernel) rfl hw (nq_d dX2_isLeastOfRing_0_g (n := 33) rfl)
      refine gx_icmp_ge (tgt := 46) hx hb (nq_d dX2_isLeastOfRing_0_g (n := 16) rfl) (by decide) hw (fun hw => ?_) (fun hw => ?_)
      · exact Jj6  _ _ _ hP hD hS (lv_sub hl [2] rfl) hw
      · refine lv_iload_n hx hb (nq_d dX2_isLeastOfRing_0_g (n := 17) rfl) rfl (lv_at hl 2 rfl) ?_
        refine lv_iload_n hx hb (nq_d dX2_isLeastOfRing_0_g (n := 18) rfl) rfl (lv_at hl 1 rfl) ?_
        refine gx_icmp_lt (tgt := 46) hx hb (nq_d dX2_isLeastOfRing_0_g (n := 19) rfl) (by decide) hw (fun hw => ?_) (fun hw => ?_)
        · exact Jj6  _ _ _ hP hD hS (lv_sub hl [2] rfl) hw
        · refine lv_aload_n hx hb (nq_d dX2_isLeastOfRing_0_g (n := 20) rfl) rfl (lv_at hl 0 rfl) ?_
          refine lv_iload_n hx hb (nq_d dX2_isLeastOfRing_0_g (n := 21) rfl) rfl (lv_at hl 1 rfl) ?_
          refine lv_iload_n hx hb (nq_d dX2_isLeastOfRing_0_g (n := 22) rfl) rfl (lv_at hl 2 rfl) ?_
          refine gx_ri (wr := []) (va_runV (As := [.int x1, .int l2_3]) (rest := []) ⟨hx, hb, hml, hown, hts⟩ (ct_Guests_nextInChain l dC dI cyB cyI cyJ cyZ ag ag_sort ag_kind ag_tip ag_marks ag_brass ag_peg ag_has _ g_number g_has x1 l2_3 _) (cwV 2 hts gX2_isLeastOfRing_X2_nextInChain rfl rfl rfl cd_X2_nextInChain ⟨Nat.le_of_ble_eq_true rfl, Nat.le_of_ble_eq_true rfl⟩) (gx_preV hK hP hD hNw [0, 1] rfl (by decide +kernel) hw 0 (ci := 2) rfl rfl rfl) rfl rfl hl.1 rfl (lv_room (Nat.le_of_ble_eq_true rfl)) (nq_d dX2_isLeastOfRing_0_g (n := 23) rfl) ⟨Nat.zero_le _, Nat.zero_le _⟩) hP hD hS hA [0, 1] [] [0, 1] rfl rfl (by decide) (by decide) (by decide) (fun _ => [(ag, .inr (2, [.int g_number, .ref ag_sort, .ref ag_kind, .ref ag_tip, .ref ag_marks, .ref ag_brass, .ref ag_peg, .ref ag_has])), (ag_has, .inl (cyI, 16, .inl g_has))]) (fun _ => rfl) (fun r7 u H locs hw hP hD hS => ?_)
          try dsimp only at hw hP hD
          refine lv_istore_n (lv' := [(2, .int r7), (0, .ref ag), (1, .int x1), (3, .int l3_4)]) hx hb (nq_d dX2_isLeastOfRing_0_g (n := 24) rfl) rfl hl (by decide) rfl (fun ls hl => ?_)
          refine gx_iinc (k := 3) (z := (1 : Int32)) (lv' := fun v8 => [(3, .int v8), (2, .int r7), (0, .ref ag), (1, .int x1)]) hx hb (nq_d dX2_isLeastOfRing_0_g (n := 25) rfl) hl rfl (by decide) (by decide) (fun _ => rfl) hw (fun v8 ls hw hl => ?_)
          refine lv_goto (tgt := 22) hx hb (nq_d dX2_isLeastOfRing_0_g (n := 26) rfl) (by decide) ?_
          exact hPself5 _ _ hw r7 v8 rfl rfl _ _ _ hP hD hS (lv_sub hl [2, 3, 1, 0] rfl)
    · refine lv_iconst (v := (0 : Int32)) hx hb (nq_d dX2_isLeastOfRing_0_g (n := 8) rfl) (by decide) ?_
      exact rt_zl (A1 := A) hQ hx hb hr hlocks hP hD hS () [0, 1] rfl (by decide +kernel) rfl hw (nq_d dX2_isLeastOfRing_0_g (n := 9) rfl)
abbrev rmX3_tellWeights : Room := { frames := 0, cells := 0, slots := 0, locals := 0 }
theorem cd_X3_tellWeights : yX3_tellWeights.cls = RX3 ∧ yX3_tellWeights.cls ≠ "java/lang/invoke/MethodHandle" ∧ yX3_tellWeights.cls ≠ "java/lang/invoke/VarHandle" ∧ (parseMethodDescriptor yX3_tellWeights.desc).map (fun d => d.parameters.length) = some 3 := by decide +kernel
set_option maxHeartbeats 4000000 in
set_option maxRecDepth 100000 in
theorem ct_Hall_tellWeights (l : Launch) (dC : Nat → ClassId) (dI : Nat → Nat → Nat) (cyB cyI cyJ cyZ : ClassId) (ah ah_kind ah_walk ah_share ah_weight : Nat) (sz : Nat) (h_pegs : Int32) (h_ticks : Int32) (h_loss : Int32) (h_weight : Nat → Int32) (x1 : Int32) (x2 : Int32) (x3 : Int32) (Q : (Int → Int) → Prop) : Met l yX3_tellWeights wsX3_tellWeights rmX3_tellWeights (va_Pc [.ref ah, .int x1, .int x2, .int x3] (cPre (dC, dI) vwCl (tyS cyB cyI cyJ cyZ) [(ah, .inr (3, [.ref ah_kind, .ref ah_walk, .ref ah_share, .ref ah_weight, .int h_pegs, .int h_ticks, .int h_loss])), (ah_weight, .inl (cyI, 3, .inl h_weight))] sz (nf_Hall_tellWeights (aI 3 h_weight) x1.toInt x2.toInt x3.toInt Q))) (va_Qv (fun (u : (Nat → Int32)) => Q (aI 3 u)) (cPost (dC, dI) vwCl (fun u : (Nat → Int32) => [(ah, .inr (3, [.ref ah_kind, .ref ah_walk, .ref ah_share, .ref ah_weight, .int h_pegs, .int h_ticks, .int h_loss])), (ah_weight, .inl (cyI, 3, .inl (u)))]) (va_A [(ah, .inr (3, [.ref ah_kind, .ref ah_walk, .ref ah_share, .ref ah_weight, .int h_pegs, .int h_ticks, .int h_loss])), (ah_weight, .inl (cyI, 3, .inl h_weight))] sz)) (va_A [(ah, .inr (3, [.ref ah_kind, .ref ah_walk, .ref ah_share, .ref ah_weight, .int h_pegs, .int h_ticks, .int h_loss])), (ah_weight, .inl (cyI, 3, .inl h_weight))] sz)) 0 0 (va_A [(ah, .inr (3, [.ref ah_kind, .ref ah_walk, .ref ah_share, .ref ah_weight, .int h_pegs, .int h_ticks, .int h_loss])), (ah_weight, .inl (cyI, 3, .inl h_weight))] sz) := by
  refine Met.ofW (cc := cX3_tellWeights) (maxL := 4) (ret := none) (by decide) rfl ?_
  intro p e s m args below meth c s₁ B hml hv
  obtain ⟨rfl, hsz, hP, hK, hD0, hNw, hw⟩ := hv
  have hx := B.exec
  have hb := B.bytes
  have hr := B.returns
  have hts := atoms_spec (ws := wsX3_tellWeights) B.pre
  have hown : s.vm.findClass RX3 = some m.cls := findClass_of_methodNamed B.named
  have hlocks := B.notSynchronized
  subst hsz
  have hD := hD0.self (sz := s.heap.size)
  generalize hAe : va_A [(ah, .inr (3, [.ref ah_kind, .ref ah_walk, .ref ah_share, .ref ah_weight, .int h_pegs, .int h_ticks, .int h_loss])), (ah_weight, .inl (cyI, 3, .inl h_weight))] s.heap.size = A at hD ⊢
  have hA : ∀ q : Nat, s.heap.size ≤ q → A q := fun q h => by rw [← hAe]; exact Or.inr h
  have hS : va_S A s.heap s.heap [] := va_S.rf
  have hl := lv_entry ([.ref ah, .int x1, .int x2, .int x3]) (n := 4) (Nat.le_of_ble_eq_true rfl)
  rw [lg_entry_eq]
  generalize (lg_sl ([.ref ah, .int x1, .int x2, .int x3]) ++ List.replicate (4 - (lg_sl ([.ref ah, .int x1, .int x2, .int x3])).length) Slot.unset).toArray = ls at hl ⊢
  have hl : lv_has ls 4 [(0, .ref ah), (1, .int x1), (2, .int x2), (3, .int x3)] := hl
  refine gx_q (fun Q9 hQ => ?_)
  unfold nf_Hall_tellWeights at hw
  have hi_X3 : ∀ w ∈ wsX30, w ∈ wsX3_tellWeights := (sub_c (nq_m (n := 2) rfl) (sub_c (nq_m (n := 3) rfl) (sub_c (nq_m (n := 4) rfl) (sub_c (nq_m (n := 5) rfl) (sub_c (nq_m (n := 6) rfl) (sub_c (nq_m (n := 7) rfl) (sub_c (nq_m (n := 8) rfl) sub_n)))))))
  have hf21 : (Cond.fieldLink RX3 21 "CoatsHall$Hall" (TX3 3).2.1 (TX3 3).2.2.1).before ([.ref ah, .int x1, .int x2, .int x3] : List Value).toArray s = true := hts (.fieldLink RX3 21 "CoatsHall$Hall" "weight" "[I") (nq_m (n := 1) rfl)
  refine lv_aload_n hx hb (nq_d dX3_tellWeights_0_g (n := 0) rfl) rfl (lv_at hl 0 rfl) ?_
  refine va_get (D := (dC, dI)) (ci := 3) (v := .ref ah_weight) (C := RX3) (T := TX3) (N := 7) hx hb hts hi_X3 hown hK hP 0 rfl rfl 3 (by decide) hf21 (fun _ h9 => h9) rfl (nq_d dX3_tellWeights_0_g (n := 1) rfl) ?_
  refine lv_iconst (v := (0 : Int32)) hx hb (nq_d dX3_tellWeights_0_g (n := 2) rfl) (by decide) ?_
  refine lv_iload_n hx hb (nq_d dX3_tellWeights_0_g (n := 3) rfl) rfl (lv_at hl 1 rfl) ?_
  refine gx_iast hx hb hK hP hD hS 1 1 rfl rfl (nq_d dX3_tellWeights_0_g (n := 4) rfl) (fun f1 => [(ah, .inr (3, [.ref ah_kind, .ref ah_walk, .ref ah_share, .ref ah_weight, .int h_pegs, .int h_ticks, .int h_loss])), (ah_weight, .inl (cyI, 3, .inl f1))]) (fun _ => rfl) hw (fun f1 H locs hw hP hD hS => ?_)
  refine lv_aload_n hx hb (nq_d dX3_tellWeights_0_g (n := 5) rfl) rfl (lv_at hl 0 rfl) ?_
  refine va_get (D := (dC, dI)) (ci := 3) (v := .ref ah_weight) (C := RX3) (T := TX3) (N := 7) hx hb hts hi_X3 hown hK hP 0 rfl rfl 3 (by decide) hf21 (fun _ h9 => h9) rfl (nq_d dX3_tellWeights_0_g (n := 6) rfl) ?_
  refine lv_iconst (v := (1 : Int32)) hx hb (nq_d dX3_tellWeights_0_g (n := 7) rfl) (by decide) ?_
  refine lv_iload_n hx hb (nq_d dX3_tellWeights_0_g (n := 8) rfl) rfl (lv_at hl 2 rfl) ?_
  refine gx_iast hx hb hK hP hD hS 1 1 rfl rfl (nq_d dX3_tellWeights_0_g (n := 9) rfl) (fun f2 => [(ah, .inr (3, [.ref ah_kind, .ref ah_walk, .ref ah_share, .ref ah_weight, .int h_pegs, .int h_ticks, .int h_loss])), (ah_weight, .inl (cyI, 3, .inl f2))]) (fun _ => rfl) hw (fun f2 H locs hw hP hD hS => ?_)
  refine lv_aload_n hx hb (nq_d dX3_tellWeights_0_g (n := 10) rfl) rfl (lv_at hl 0 rfl) ?_
  refine va_get (D := (dC, dI)) (ci := 3) (v := .ref ah_weight) (C := RX3) (T := TX3) (N := 7) hx hb hts hi_X3 hown hK hP 0 rfl rfl 3 (by decide) hf21 (fun _ h9 => h9) rfl (nq_d dX3_tellWeights_0_g (n := 11) rfl) ?_
  refine lv_iconst (v := (2 : Int32)) hx hb (nq_d dX3_tellWeights_0_g (n := 12) rfl) (by decide) ?_
  refine lv_iload_n hx hb (nq_d dX3_tellWeights_0_g (n := 13) rfl) rfl (lv_at hl 3 rfl) ?_
  refine gx_iast hx hb hK hP hD hS 1 1 rfl rfl (nq_d dX3_tellWeights_0_g (n := 14) rfl) (fun f3 => [(ah, .inr (3, [.ref ah_kind, .ref ah_walk, .ref ah_share, .ref ah_weight, .int h_pegs, .int h_ticks, .int h_loss])), (ah_weight, .inl (cyI, 3, .inl f3))]) (fun _ => rfl) hw (fun f3 H locs hw hP hD hS => ?_)
  exact rt_v (A1 := A) hQ hx hb hr hlocks hP hD hS f3 [0, 1] rfl (by decide +kernel) hw (nq_d dX3_tellWeights_0_g (n := 15) rfl)
abbrev rmX3_tellShares : Room := { frames := 1, cells := 0, slots := 0, locals := 22 }
theorem cd_X3_tellShares : yX3_tellShares.cls = RX3 ∧ yX3_tellShares.cls ≠ "java/lang/invoke/MethodHandle" ∧ yX3_tellShares.cls ≠ "java/lang/invoke/VarHandle" ∧ (parseMethodDescriptor yX3_tellShares.desc).map (fun d => d.parameters.length) = some 4 := by decide +kernel
set_option maxHeartbeats 4000000 in
set_option maxRecDepth 100000 in
theorem ct_Hall_tellShares (l : Launch) (dC : Nat → ClassId) (dI : Nat → Nat → Nat) (cyB cyI cyJ cyZ : ClassId) (ah ah_kind ah_walk ah_share ah_weight : Nat) (sz : Nat) (h_pegs : Int32) (h_ticks : Int32) (h_loss : Int32) (h_share : Nat → Int32) (x1 : Int32) (x2 : Int32) (x3 : Int32) (x4 : Int32) (Q : (Int → Int) → Prop) : Met l yX3_tellShares wsX3_tellShares rmX3_tellShares (va_Pc [.ref ah, .int x1, .int x2, .int x3, .int x4] (cPre (dC, dI) vwCl (tyS cyB cyI cyJ cyZ) [(ah, .inr (3, [.ref ah_kind, .ref ah_walk, .ref ah_share, .ref ah_weight, .int h_pegs, .int h_ticks, .int h_loss])), (ah_share, .inl (cyI, 12, .inl h_share))] sz (nf_Hall_tellShares (aI 12 h_share) x1.toInt x2.toInt x3.toInt x4.toInt Q))) (va_Qv (fun (u : (Nat → Int32)) => Q (aI 12 u)) (cPost (dC, dI) vwCl (fun u : (Nat → Int32) => [(ah, .inr (3, [.ref ah_kind, .ref ah_walk, .ref ah_share, .ref ah_weight, .int h_pegs, .int h_ticks, .int h_loss])), (ah_share, .inl (cyI, 12, .inl (u)))]) (va_A [(ah, .inr (3, [.ref ah_kind, .ref ah_walk, .ref ah_share, .ref ah_weight, .int h_pegs, .int h_ticks, .int h_loss])), (ah_share, .inl (cyI, 12, .inl h_share))] sz)) (va_A [(ah, .inr (3, [.ref ah_kind, .ref ah_walk, .ref ah_share, .ref ah_weight, .int h_pegs, .int h_ticks, .int h_loss])), (ah_share, .inl (cyI, 12, .inl h_share))] sz)) 0 0 (va_A [(ah, .inr (3, [.ref ah_kind, .ref ah_walk, .ref ah_share, .ref ah_weight, .int h_pegs, .int h_ticks, .int h_loss])), (ah_share, .inl (cyI, 12, .inl h_share))] sz) := by
  refine Met.ofW (cc := cX3_tellShares) (maxL := 5) (ret := none) (by decide) rfl ?_
  intro p e s m args below meth c s₁ B hml hv
  obtain ⟨rfl, hsz, hP, hK, hD0, hNw, hw⟩ := hv
  have hx := B.exec
  have hb := B.bytes
  have hr := B.returns
  have hts := atoms_spec (ws := wsX3_tellShares) B.pre
  have hown : s.vm.findClass RX3 = some m.cls := findClass_of_methodNamed B.named
  have hlocks := B.notSynchronized
  subst hsz
  have hD := hD0.self (sz := s.heap.size)
  generalize hAe : va_A [(ah, .inr (3, [.ref ah_kind, .ref ah_walk, .ref ah_share, .ref ah_weight, .int h_pegs, .int h_ticks, .int h_loss])), (ah_share, .inl (cyI, 12, .inl h_share))] s.heap.size = A at hD ⊢
  have hA : ∀ q : Nat, s.heap.size ≤ q → A q := fun q h => by rw [← hAe]; exact Or.inr h
  have hS : va_S A s.heap s.heap [] := va_S.rf
  have hl := lv_entry ([.ref ah, .int x1, .int x2, .int x3, .int x4]) (n := 5) (Nat.le_of_ble_eq_true rfl)
  rw [lg_entry_eq]
  generalize (lg_sl ([.ref ah, .int x1, .int x2, .int x3, .int x4]) ++ List.replicate (5 - (lg_sl ([.ref ah, .int x1, .int x2, .int x3, .int x4])).length) Slot.unset).toArray = ls at hl ⊢
  have hl : lv_has ls 5 [(0, .ref ah), (1, .int x1), (2, .int x2), (3, .int x3), (4, .int x4)] := hl
  refine gx_q (fun Q9 hQ => ?_)
  unfold nf_Hall_tellShares at hw
  have hi_X3 : ∀ w ∈ wsX30, w ∈ wsX3_tellShares := (sub_c (nq_m (n := 5) rfl) (sub_c (nq_m (n := 6) rfl) (sub_c (nq_m (n := 7) rfl) (sub_c (nq_m (n := 8) rfl) (sub_c (nq_m (n := 9) rfl) (sub_c (nq_m (n := 10) rfl) (sub_c (nq_m (n := 11) rfl) sub_n)))))))
  have hf18 : (Cond.fieldLink RX3 18 "CoatsHall$Hall" (TX3 2).2.1 (TX3 2).2.2.1).before ([.ref ah, .int x1, .int x2, .int x3, .int x4] : List Value).toArray s = true := hts (.fieldLink RX3 18 "CoatsHall$Hall" "share" "[I") (nq_m (n := 1) rfl)
  refine lv_iload_n hx hb (nq_d dX3_tellShares_0_g (n := 0) rfl) rfl (lv_at hl 1 rfl) ?_
  refine lv_iconst (v := (0 : Int32)) hx hb (nq_d dX3_tellShares_0_g (n := 1) rfl) (by decide) ?_
  refine lv_iconst (v := (3 : Int32)) hx hb (nq_d dX3_tellShares_0_g (n := 2) rfl) (by decide) ?_
  refine gx_ri (wr := [(ah, .inr (3, [.ref ah_kind, .ref ah_walk, .ref ah_share, .ref ah_weight, .int h_pegs, .int h_ticks, .int h_loss])), (ah_share, .inl (cyI, 12, .inl h_share))]) (va_runSN (As := [.int x1, .int (0 : Int32), .int (3 : Int32)]) (rest := []) ⟨hx, hb, hml, hown, hts⟩ (ct_H_within l dC dI cyB cyI cyJ cyZ  _ x1 (0 : Int32) (3 : Int32) _) ⟨va_cnB 3 hts gX3_tellShares_X10_within_n42 rfl rfl rfl (nw_11 hNw) (hts (.initialized RX10) (nq_m (n := 3) rfl)) cd_X10_within.2 ⟨Nat.le_of_ble_eq_true rfl, Nat.le_of_ble_eq_true rfl⟩, hts (.static yX10_within) (nq_m (n := 2) rfl), trivial⟩ (gx_preS hK hP hD hNw [] rfl (by decide) hw) rfl rfl hl.1 rfl (lv_room (Nat.le_of_ble_eq_true rfl)) (nq_d dX3_tellShares_0_g (n := 3) rfl) ⟨Nat.zero_le _, Nat.zero_le _⟩) hP hD hS hA [] [0, 1] [0, 1] rfl rfl (by decide) (by decide) (by decide) (fun _ => [(ah, .inr (3, [.ref ah_kind, .ref ah_walk, .ref ah_share, .ref ah_weight, .int h_pegs, .int h_ticks, .int h_loss])), (ah_share, .inl (cyI, 12, .inl h_share))]) (fun _ => rfl) (fun r1 u H locs hw hP hD hS => ?_)
  try dsimp only at hw hP hD
  refine gx_if_ne (tgt := 10) hx hb (nq_d dX3_tellShares_0_g (n := 4) rfl) (by decide) hw (fun hw => ?_) (fun hw => ?_)
  · refine lv_aload_n hx hb (nq_d dX3_tellShares_0_g (n := 6) rfl) rfl (lv_at hl 0 rfl) ?_
    refine va_get (D := (dC, dI)) (ci := 3) (v := .ref ah_share) (C := RX3) (T := TX3) (N := 7) hx hb hts hi_X3 hown hK hP 0 rfl rfl 2 (by decide) hf18 (fun _ h9 => h9) rfl (nq_d dX3_tellShares_0_g (n := 7) rfl) ?_
    refine lv_iload_n hx hb (nq_d dX3_tellShares_0_g (n := 8) rfl) rfl (lv_at hl 1 rfl) ?_
    refine lv_iconst (v := (3 : Int32)) hx hb (nq_d dX3_tellShares_0_g (n := 9) rfl) (by decide) ?_
    refine gx_imul hx hb (nq_d dX3_tellShares_0_g (n := 10) rfl) hw (fun v2 hw => ?_)
    refine lv_iload_n hx hb (nq_d dX3_tellShares_0_g (n := 11) rfl) rfl (lv_at hl 2 rfl) ?_
    refine gx_iast hx hb hK hP hD hS 1 1 rfl rfl (nq_d dX3_tellShares_0_g (n := 12) rfl) (fun f3 => [(ah, .inr (3, [.ref ah_kind, .ref ah_walk, .ref ah_share, .ref ah_weight, .int h_pegs, .int h_ticks, .int h_loss])), (ah_share, .inl (cyI, 12, .inl f3))]) (fun _ => rfl) hw (fun f3 H locs hw hP hD hS => ?_)
    refine lv_aload_n hx hb (nq_d dX3_tellShares_0_g (n := 13) rfl) rfl (lv_at hl 0 rfl) ?_
    refine va_get (D := (dC, dI)) (ci := 3) (v := .ref ah_share) (C := RX3) (T := TX3) (N := 7) hx hb hts hi_X3 hown hK hP 0 rfl rfl 2 (by decide) hf18 (fun _ h9 => h9) rfl (nq_d dX3_tellShares_0_g (n := 14) rfl) ?_
    refine lv_iload_n hx hb (nq_d dX3_tellShares_0_g (n := 15) rfl) rfl (lv_at hl 1 rfl) ?_
    refine lv_iconst (v := (3 : Int32)) hx hb (nq_d dX3_tellShares_0_g (n := 16) rfl) (by decide) ?_
    refine gx_imul hx hb (nq_d dX3_tellShares_0_g (n := 17) rfl) hw (fun v4 hw => ?_)
    refine lv_iconst (v := (1 : Int32)) hx hb (nq_d dX3_tellShares_0_g (n := 18) rfl) (by decide) ?_
    refine gx_iadd hx hb (nq_d dX3_tellShares_0_g (n := 19) rfl) hw (fun v5 hw => ?_)
    refine lv_iload_n hx hb (nq_d dX3_tellShares_0_g (n := 20) rfl) rfl (lv_at hl 3 rfl) ?_
    refine gx_iast hx hb hK hP hD hS 1 1 rfl rfl (nq_d dX3_tellShares_0_g (n := 21) rfl) (fun f6 => [(ah, .inr (3, [.ref ah_kind, .ref ah_walk, .ref ah_share, .ref ah_weight, .int h_pegs, .int h_ticks, .int h_loss])), (ah_share, .inl (cyI, 12, .inl f6))]) (fun _ => rfl) hw (fun f6 H locs hw hP hD hS => ?_)
    refine lv_aload_n hx hb (nq_d dX3_tellShares_0_g (n := 22) rfl) rfl (lv_at hl 0 rfl) ?_
    refine va_get (D := (dC, dI)) (ci := 3) (v := .ref ah_share) (C := RX3) (T := TX3) (N := 7) hx hb hts hi_X3 hown hK hP 0 rfl rfl 2 (by decide) hf18 (fun _ h9 => h9) rfl (nq_d dX3_tellShares_0_g (n := 23) rfl) ?_
    refine lv_iload_n hx hb (nq_d dX3_tellShares_0_g (n := 24) rfl) rfl (lv_at hl 1 rfl) ?_
    refine lv_iconst (v := (3 : Int32)) hx hb (nq_d dX3_tellShares_0_g (n := 25) rfl) (by decide) ?_
    refine gx_imul hx hb (nq_d dX3_tellShares_0_g (n := 26) rfl) hw (fun v7 hw => ?_)
    refine lv_iconst (v := (2 : Int32)) hx hb (nq_d dX3_tellShares_0_g (n := 27) rfl) (by decide) ?_
    refine gx_iadd hx hb (nq_d dX3_tellShares_0_g (n := 28) rfl) hw (fun v8 hw => ?_)
    refine lv_iload hx hb (nq_d dX3_tellShares_0_g (n := 29) rfl) (lv_at hl 4 rfl) ?_
    refine gx_iast hx hb hK hP hD hS 1 1 rfl rfl (nq_d dX3_tellShares_0_g (n := 30) rfl) (fun f9 => [(ah, .inr (3, [.ref ah_kind, .ref ah_walk, .ref ah_share, .ref ah_weight, .int h_pegs, .int h_ticks, .int h_loss])), (ah_share, .inl (cyI, 12, .inl f9))]) (fun _ => rfl) hw (fun f9 H locs hw hP hD hS => ?_)
    exact rt_v (A1 := A) hQ hx hb hr hlocks hP hD hS f9 [0, 1] rfl (by decide +kernel) hw (nq_d dX3_tellShares_0_g (n := 31) rfl)
  · exact rt_v (A1 := A) hQ hx hb hr hlocks hP hD hS h_share [0, 1] rfl (by decide +kernel) hw (nq_d dX3_tellShares_0_g (n := 5) rfl)
abbrev rmX3_clear : Room := { frames := 2, cells := 0, slots := 0, locals := 46 }
theorem cd_X3_clear : yX3_clear.cls = RX3 ∧ yX3_clear.cls ≠ "java/lang/invoke/MethodHandle" ∧ yX3_clear.cls ≠ "java/lang/invoke/VarHandle" ∧ (parseMethodDescriptor yX3_clear.desc).map (fun d => d.parameters.length) = some 0 := by decide +kernel
set_option maxHeartbeats 4000000 in
set_option maxRecDepth 100000 in
theorem ct_Hall_clear (l : Launch) (dC : Nat → ClassId) (dI : Nat → Nat → Nat) (cyB cyI cyJ cyZ : ClassId) (ah ah_kind ah_walk ah_share ah_weight : Nat) (sz : Nat) (h_pegs : Int32) (h_ticks : Int32) (h_loss : Int32) (h_share : Nat → Int32) (h_weight : Nat → Int32) (Q : Int → Int → Int → (Int → Int) → (Int → Int) → Prop) : Met l yX3_clear wsX3_clear rmX3_clear (va_Pc [.ref ah] (cPre (dC, dI) vwCl (tyS cyB cyI cyJ cyZ) [(ah, .inr (3, [.ref ah_kind, .ref ah_walk, .ref ah_share, .ref ah_weight, .int h_pegs, .int h_ticks, .int h_loss])), (ah_share, .inl (cyI, 12, .inl h_share)), (ah_weight, .inl (cyI, 3, .inl h_weight))] sz (nf_Hall_clear h_pegs.toInt h_ticks.toInt h_loss.toInt (aI 12 h_share) (aI 3 h_weight)  Q))) (va_Qv (fun (u : Int32 × Int32 × Int32 × (Nat → Int32) × (Nat → Int32)) => Q (u.1).toInt (u.2.1).toInt (u.2.2.1).toInt (aI 12 (u.2.2.2.1)) (aI 3 (u.2.2.2.2))) (cPost (dC, dI) vwCl (fun u : Int32 × Int32 × Int32 × (Nat → Int32) × (Nat → Int32) => [(ah, .inr (3, [.ref ah_kind, .ref ah_walk, .ref ah_share, .ref ah_weight, .int u.1, .int u.2.1, .int u.2.2.1])), (ah_share, .inl (cyI, 12, .inl (u.2.2.2.1))), (ah_weight, .inl (cyI, 3, .inl (u.2.2.2.2)))]) (va_A [(ah, .inr (3, [.ref ah_kind, .ref ah_walk, .ref ah_share, .ref ah_weight, .int h_pegs, .int h_ticks, .int h_loss])), (ah_share, .inl (cyI, 12, .inl h_share)), (ah_weight, .inl (cyI, 3, .inl h_weight))] sz)) (va_A [(ah, .inr (3, [.ref ah_kind, .ref ah_walk, .ref ah_share, .ref ah_weight, .int h_pegs, .int h_ticks, .int h_loss])), (ah_share, .inl (cyI, 12, .inl h_share)), (ah_weight, .inl (cyI, 3, .inl h_weight))] sz)) 0 0 (va_A [(ah, .inr (3, [.ref ah_kind, .ref ah_walk, .ref ah_share, .ref ah_weight, .int h_pegs, .int h_ticks, .int h_loss])), (ah_share, .inl (cyI, 12, .inl h_share)), (ah_weight, .inl (cyI, 3, .inl h_weight))] sz) := by
  refine Met.ofW (cc := cX3_clear) (maxL := 2) (ret := none) (by decide) rfl ?_
  intro p e s m args below meth c s₁ B hml hv
  obtain ⟨rfl, hsz, hP, hK, hD0, hNw, hw⟩ := hv
  have hx := B.exec
  have hb := B.bytes
  have hr := B.returns
  have hts := atoms_spec (ws := wsX3_clear) B.pre
  have hown : s.vm.findClass RX3 = some m.cls := findClass_of_methodNamed B.named
  have hlocks := B.notSynchronized
  subst hsz
  have hD := hD0.self (sz := s.heap.size)
  generalize hAe : va_A [(ah, .inr (3, [.ref ah_kind, .ref ah_walk, .ref ah_share, .ref ah_weight, .int h_pegs, .int h_ticks, .int h_loss])), (ah_share, .inl (cyI, 12, .inl h_share)), (ah_weight, .inl (cyI, 3, .inl h_weight))] s.heap.size = A at hD ⊢
  have hA : ∀ q : Nat, s.heap.size ≤ q → A q := fun q h => by rw [← hAe]; exact Or.inr h
  have hS : va_S A s.heap s.heap [] := va_S.rf
  have hl := lv_entry ([.ref ah]) (n := 2) (Nat.le_of_ble_eq_true rfl)
  rw [lg_entry_eq]
  generalize (lg_sl ([.ref ah]) ++ List.replicate (2 - (lg_sl ([.ref ah])).length) Slot.unset).toArray = ls at hl ⊢
  have hl : lv_has ls 2 [(0, .ref ah)] := hl
  refine gx_q (fun Q9 hQ => ?_)
  unfold nf_Hall_clear at hw
  have hi_X3 : ∀ w ∈ wsX30, w ∈ wsX3_clear := (sub_c (nq_m (n := 18) rfl) (sub_c (nq_m (n := 19) rfl) (sub_c (nq_m (n := 20) rfl) (sub_c (nq_m (n := 21) rfl) (sub_c (nq_m (n := 22) rfl) (sub_c (nq_m (n := 23) rfl) (sub_c (nq_m (n := 24) rfl) sub_n)))))))
  have hf24 : (Cond.fieldLink RX3 24 "CoatsHall$Hall" (TX3 4).2.1 (TX3 4).2.2.1).before ([.ref ah] : List Value).toArray s = true := hts (.fieldLink RX3 24 "CoatsHall$Hall" "pegs" "I") (nq_m (n := 1) rfl)
  have hf28 : (Cond.fieldLink RX3 28 "CoatsHall$Hall" (TX3 5).2.1 (TX3 5).2.2.1).before ([.ref ah] : List Value).toArray s = true := hts (.fieldLink RX3 28 "CoatsHall$Hall" "ticks" "I") (nq_m (n := 2) rfl)
  have hf31 : (Cond.fieldLink RX3 31 "CoatsHall$Hall" (TX3 6).2.1 (TX3 6).2.2.1).before ([.ref ah] : List Value).toArray s = true := hts (.fieldLink RX3 31 "CoatsHall$Hall" "loss" "I") (nq_m (n := 3) rfl)
  refine lv_aload_n hx hb (nq_d dX3_clear_0_g (n := 0) rfl) rfl (lv_at hl 0 rfl) ?_
  refine lv_iconst (v := (0 : Int32)) hx hb (nq_d dX3_clear_0_g (n := 1) rfl) (by decide) ?_
  refine gx_put (D := (dC, dI)) (ci := 3) (v := .int (0 : Int32)) (ty := .int) (C := RX3) (T := TX3) (N := 7) hx hb hts hi_X3 tyX3 tyX3_ok nmX3 hown hK hP hD hS 0 rfl rfl 4 (by decide) hf24 (fun _ h9 => h9) rfl (by decide +kernel) rfl rfl (Nat.le_of_ble_eq_true rfl) (nq_d dX3_clear_0_g (n := 2) rfl) [(ah, .inr (3, [.ref ah_kind, .ref ah_walk, .ref ah_share, .ref ah_weight, .int (0 : Int32), .int h_ticks, .int h_loss])), (ah_share, .inl (cyI, 12, .inl h_share)), (ah_weight, .inl (cyI, 3, .inl h_weight))] rfl (fun H locs hP hD hS => ?_)
  refine lv_aload_n hx hb (nq_d dX3_clear_0_g (n := 3) rfl) rfl (lv_at hl 0 rfl) ?_
  refine lv_iconst (v := (2 : Int32)) hx hb (nq_d dX3_clear_0_g (n := 4) rfl) (by decide) ?_
  refine gx_put (D := (dC, dI)) (ci := 3) (v := .int (2 : Int32)) (ty := .int) (C := RX3) (T := TX3) (N := 7) hx hb hts hi_X3 tyX3 tyX3_ok nmX3 hown hK hP hD hS 0 rfl rfl 5 (by decide) hf28 (fun _ h9 => h9) rfl (by decide +kernel) rfl rfl (Nat.le_of_ble_eq_true rfl) (nq_d dX3_clear_0_g (n := 5) rfl) [(ah, .inr (3, [.ref ah_kind, .ref ah_walk, .ref ah_share, .ref ah_weight, .int (0 : Int32), .int (2 : Int32), .int h_loss])), (ah_share, .inl (cyI, 12, .inl h_share)), (ah_weight, .inl (cyI, 3, .inl h_weight))] rfl (fun H locs hP hD hS => ?_)
  refine lv_aload_n hx hb (nq_d dX3_clear_0_g (n := 6) rfl) rfl (lv_at hl 0 rfl) ?_
  refine lv_iconst (v := (1 : Int32)) hx hb (nq_d dX3_clear_0_g (n := 7) rfl) (by decide) ?_
  refine gx_put (D := (dC, dI)) (ci := 3) (v := .int (1 : Int32)) (ty := .int) (C := RX3) (T := TX3) (N := 7) hx hb hts hi_X3 tyX3 tyX3_ok nmX3 hown hK hP hD hS 0 rfl rfl 6 (by decide) hf31 (fun _ h9 => h9) rfl (by decide +kernel) rfl rfl (Nat.le_of_ble_eq_true rfl) (nq_d dX3_clear_0_g (n := 8) rfl) [(ah, .inr (3, [.ref ah_kind, .ref ah_walk, .ref ah_share, .ref ah_weight, .int (0 : Int32), .int (2 : Int32), .int (1 : Int32)])), (ah_share, .inl (cyI, 12, .inl h_share)), (ah_weight, .inl (cyI, 3, .inl h_weight))] rfl (fun H locs hP hD hS => ?_)
  refine lv_aload_n hx hb (nq_d dX3_clear_0_g (n := 9) rfl) rfl (lv_at hl 0 rfl) ?_
  refine lv_iconst (v := (1 : Int32)) hx hb (nq_d dX3_clear_0_g (n := 10) rfl) (by decide) ?_
  refine lv_iconst (v := (2 : Int32)) hx hb (nq_d dX3_clear_0_g (n := 11) rfl) (by decide) ?_
  refine lv_iconst (v := (5 : Int32)) hx hb (nq_d dX3_clear_0_g (n := 12) rfl) (by decide) ?_
  refine gx_rv (wr := [(ah_share, .inl (cyI, 12, .inl h_share))]) (va_runV (As := [.int (1 : Int32), .int (2 : Int32), .int (5 : Int32)]) (rest := []) ⟨hx, hb, hml, hown, hts⟩ (ct_Hall_tellWeights l dC dI cyB cyI cyJ cyZ ah ah_kind ah_walk ah_share ah_weight _ (0 : Int32) (2 : Int32) (1 : Int32) h_weight (1 : Int32) (2 : Int32) (5 : Int32) _) (cwV 3 hts gX3_clear_X3_tellWeights rfl rfl rfl cd_X3_tellWeights ⟨Nat.le_of_ble_eq_true rfl, Nat.le_of_ble_eq_true rfl⟩) (gx_preV hK hP hD hNw [0, 2] rfl (by decide +kernel) hw 0 (ci := 3) rfl rfl rfl) rfl rfl hl.1 rfl (lv_room (Nat.le_of_ble_eq_true rfl)) (nq_d dX3_clear_0_g (n := 13) rfl) ⟨Nat.zero_le _, Nat.zero_le _⟩) hP hD hS hA [0, 2] [1] [1, 0, 2] rfl rfl (by decide) (by decide) (by decide) (fun u => [(ah, .inr (3, [.ref ah_kind, .ref ah_walk, .ref ah_share, .ref ah_weight, .int (0 : Int32), .int (2 : Int32), .int (1 : Int32)])), (ah_share, .inl (cyI, 12, .inl h_share)), (ah_weight, .inl (cyI, 3, .inl u))]) (fun _ => rfl) (fun u H locs hw hP hD hS => ?_)
  obtain ⟨f1, rfl⟩ : ∃ z, z = u := ⟨_, rfl⟩
  try dsimp only at hw hP hD
  refine lv_iconst (v := (0 : Int32)) hx hb (nq_d dX3_clear_0_g (n := 14) rfl) (by decide) ?_
  refine lv_istore_n (lv' := [(1, .int (0 : Int32)), (0, .ref ah)]) hx hb (nq_d dX3_clear_0_g (n := 15) rfl) rfl hl (by decide) rfl (fun ls hl => ?_)
  refine nlp2_el hw (fun X0_6 X1_6 => ∀ (l1_2 : Int32) (z3 : (Nat → Int32)), X0_6 = l1_2.toInt → X1_6 = (aI 12 z3) → ∀ (H : Heap) (locs : List Loc) (ls : Array Slot), va_P (dC, dI) vwCl [(ah, .inr (3, [.ref ah_kind, .ref ah_walk, .ref ah_share, .ref ah_weight, .int (0 : Int32), .int (2 : Int32), .int (1 : Int32)])), (ah_share, .inl (cyI, 12, .inl z3)), (ah_weight, .inl (cyI, 3, .inl f1))] H → va_D A [(ah, .inr (3, [.ref ah_kind, .ref ah_walk, .ref ah_share, .ref ah_weight, .int (0 : Int32), .int (2 : Int32), .int (1 : Int32)])), (ah_share, .inl (cyI, 12, .inl z3)), (ah_weight, .inl (cyI, 3, .inl f1))] → va_S A s.heap H locs → lv_has ls 2 [(0, .ref ah), (1, .int l1_2)] → W p l e (headSpec wsX3_clear rmX3_clear).room s m ([.ref ah] : List Value).toArray below meth c H locs 0 0 Q9 (F0 m 24 ls [])) (fun self4 hPself4 X0_6 X1_6 hw l1_2 z3 eX0_6 eX1_6 H locs ls hP hD hS hl => ?_) (0 : Int32) h_share rfl rfl _ _ _ hP hD hS (lv_sub hl [1, 0] rfl)
  subst eX0_6
  subst eX1_6
  refine lv_iload_n hx hb (nq_d dX3_clear_0_g (n := 16) rfl) rfl (lv_at hl 1 rfl) ?_
  refine lv_iconst (v := (4 : Int32)) hx hb (nq_d dX3_clear_0_g (n := 17) rfl) (by decide) ?_
  refine gx_icmp_ge (tgt := 46) hx hb (nq_d dX3_clear_0_g (n := 18) rfl) (by decide) hw (fun hw => ?_) (fun hw => ?_)
  · exact rt_v (A1 := A) hQ hx hb hr hlocks hP hD hS ((0 : Int32), (2 : Int32), (1 : Int32), z3, f1) [0, 1, 2] rfl (by decide +kernel) hw (nq_d dX3_clear_0_g (n := 27) rfl)
  · refine lv_aload_n hx hb (nq_d dX3_clear_0_g (n := 19) rfl) rfl (lv_at hl 0 rfl) ?_
    refine lv_iload_n hx hb (nq_d dX3_clear_0_g (n := 20) rfl) rfl (lv_at hl 1 rfl) ?_
    refine lv_bipush (v := (10 : Int32)) hx hb (nq_d dX3_clear_0_g (n := 21) rfl) (by decide) ?_
    refine lv_bipush (v := (20 : Int32)) hx hb (nq_d dX3_clear_0_g (n := 22) rfl) (by decide) ?_
    refine lv_bipush (v := (70 : Int32)) hx hb (nq_d dX3_clear_0_g (n := 23) rfl) (by decide) ?_
    refine gx_rv (wr := [(ah_weight, .inl (cyI, 3, .inl f1))]) (va_runV (As := [.int l1_2, .int (10 : Int32), .int (20 : Int32), .int (70 : Int32)]) (rest := []) ⟨hx, hb, hml, hown, hts⟩ (ct_Hall_tellShares l dC dI cyB cyI cyJ cyZ ah ah_kind ah_walk ah_share ah_weight _ (0 : Int32) (2 : Int32) (1 : Int32) z3 l1_2 (10 : Int32) (20 : Int32) (70 : Int32) _) (cwV 4 hts gX3_clear_X3_tellShares rfl rfl rfl cd_X3_tellShares ⟨Nat.le_of_ble_eq_true rfl, Nat.le_of_ble_eq_true rfl⟩) (gx_preV hK hP hD hNw [0, 1] rfl (by decide +kernel) hw 0 (ci := 3) rfl rfl rfl) rfl rfl hl.1 rfl (lv_room (Nat.le_of_ble_eq_true rfl)) (nq_d dX3_clear_0_g (n := 24) rfl) ⟨Nat.zero_le _, Nat.zero_le _⟩) hP hD hS hA [0, 1] [2] [1, 2, 0] rfl rfl (by decide) (by decide) (by decide) (fun u => [(ah, .inr (3, [.ref ah_kind, .ref ah_walk, .ref ah_share, .ref ah_weight, .int (0 : Int32), .int (2 : Int32), .int (1 : Int32)])), (ah_share, .inl (cyI, 12, .inl u)), (ah_weight, .inl (cyI, 3, .inl f1))]) (fun _ => rfl) (fun u H locs hw hP hD hS => ?_)
    obtain ⟨f5, rfl⟩ : ∃ z, z = u := ⟨_, rfl⟩
    try dsimp only at hw hP hD
    refine gx_iinc (k := 1) (z := (1 : Int32)) (lv' := fun v6 => [(1, .int v6), (0, .ref ah)]) hx hb (nq_d dX3_clear_0_g (n := 25) rfl) hl rfl (by decide) (by decide) (fun _ => rfl) hw (fun v6 ls hw hl => ?_)
    refine lv_goto (tgt := 24) hx hb (nq_d dX3_clear_0_g (n := 26) rfl) (by decide) ?_
    exact hPself4 _ _ hw v6 f5 rfl rfl _ _ _ hP hD hS (lv_sub hl [1, 0] rfl)
abbrev rmX3_addRow : Room := { frames := 0, cells := 0, slots := 0, locals := 0 }
theorem cd_X3_addRow : yX3_addRow.cls = RX3 ∧ yX3_addRow.cls ≠ "java/lang/invoke/MethodHandle" ∧ yX3_addRow.cls ≠ "java/lang/invoke/VarHandle" ∧ (parseMethodDescriptor yX3_addRow.desc).map (fun d => d.parameters.length) = some 3 := by decide +kernel
set_option maxHeartbeats 4000000 in
set_option maxRecDepth 100000 in
theorem ct_Hall_addRow (l : Launch) (dC : Nat → ClassId) (dI : Nat → Nat → Nat) (cyB cyI cyJ cyZ : ClassId) (ah ah_kind ah_walk ah_share ah_weight : Nat) (sz : Nat) (h_pegs : Int32) (h_ticks : Int32) (h_loss : Int32) (h_kind : Nat → Int32) (h_walk : Nat → Int32) (x1 : Int32) (x2 : Int32) (x3 : Int32) (Q : Int → (Int → Int) → (Int → Int) → Prop) : Met l yX3_addRow wsX3_addRow rmX3_addRow (va_Pc [.ref ah, .int x1, .int x2, .int x3] (cPre (dC, dI) vwCl (tyS cyB cyI cyJ cyZ) [(ah, .inr (3, [.ref ah_kind, .ref ah_walk, .ref ah_share, .ref ah_weight, .int h_pegs, .int h_ticks, .int h_loss])), (ah_kind, .inl (cyI, 24, .inl h_kind)), (ah_walk, .inl (cyI, 24, .inl h_walk))] sz (nf_Hall_addRow h_pegs.toInt (aI 24 h_kind) (aI 24 h_walk) x1.toInt x2.toInt x3.toInt Q))) (va_Qv (fun (u : Int32 × (Nat → Int32) × (Nat → Int32)) => Q (u.1).toInt (aI 24 (u.2.1)) (aI 24 (u.2.2))) (cPost (dC, dI) vwCl (fun u : Int32 × (Nat → Int32) × (Nat → Int32) => [(ah, .inr (3, [.ref ah_kind, .ref ah_walk, .ref ah_share, .ref ah_weight, .int u.1, .int h_ticks, .int h_loss])), (ah_kind, .inl (cyI, 24, .inl (u.2.1))), (ah_walk, .inl (cyI, 24, .inl (u.2.2)))]) (va_A [(ah, .inr (3, [.ref ah_kind, .ref ah_walk, .ref ah_share, .ref ah_weight, .int h_pegs, .int h_ticks, .int h_loss])), (ah_kind, .inl (cyI, 24, .inl h_kind)), (ah_walk, .inl (cyI, 24, .inl h_walk))] sz)) (va_A [(ah, .inr (3, [.ref ah_kind, .ref ah_walk, .ref ah_share, .ref ah_weight, .int h_pegs, .int h_ticks, .int h_loss])), (ah_kind, .inl (cyI, 24, .inl h_kind)), (ah_walk, .inl (cyI, 24, .inl h_walk))] sz)) 0 0 (va_A [(ah, .inr (3, [.ref ah_kind, .ref ah_walk, .ref ah_share, .ref ah_weight, .int h_pegs, .int h_ticks, .int h_loss])), (ah_kind, .inl (cyI, 24, .inl h_kind)), (ah_walk, .inl (cyI, 24, .inl h_walk))] sz) := by
  refine Met.ofW (cc := cX3_addRow) (maxL := 5) (ret := none) (by decide) rfl ?_
  intro p e s m args below meth c s₁ B hml hv
  obtain ⟨rfl, hsz, hP, hK, hD0, hNw, hw⟩ := hv
  have hx := B.exec
  have hb := B.bytes
  have hr := B.returns
  have hts := atoms_spec (ws := wsX3_addRow) B.pre
  have hown : s.vm.findClass RX3 = some m.cls := findClass_of_methodNamed B.named
  have hlocks := B.notSynchronized
  subst hsz
  have hD := hD0.self (sz := s.heap.size)
  generalize hAe : va_A [(ah, .inr (3, [.ref ah_kind, .ref ah_walk, .ref ah_share, .ref ah_weight, .int h_pegs, .int h_ticks, .int h_loss])), (ah_kind, .inl (cyI, 24, .inl h_kind)), (ah_walk, .inl (cyI, 24, .inl h_walk))] s.heap.size = A at hD ⊢
  have hA : ∀ q : Nat, s.heap.size ≤ q → A q := fun q h => by rw [← hAe]; exact Or.inr h
  have hS : va_S A s.heap s.heap [] := va_S.rf
  have hl := lv_entry ([.ref ah, .int x1, .int x2, .int x3]) (n := 5) (Nat.le_of_ble_eq_true rfl)
  rw [lg_entry_eq]
  generalize (lg_sl ([.ref ah, .int x1, .int x2, .int x3]) ++ List.replicate (5 - (lg_sl ([.ref ah, .int x1, .int x2, .int x3])).length) Slot.unset).toArray = ls at hl ⊢
  have hl : lv_has ls 5 [(0, .ref ah), (1, .int x1), (2, .int x2), (3, .int x3)] := hl
  refine gx_q (fun Q9 hQ => ?_)
  unfold nf_Hall_addRow at hw
  have hi_X3 : ∀ w ∈ wsX30, w ∈ wsX3_addRow := (sub_c (nq_m (n := 4) rfl) (sub_c (nq_m (n := 5) rfl) (sub_c (nq_m (n := 6) rfl) (sub_c (nq_m (n := 7) rfl) (sub_c (nq_m (n := 8) rfl) (sub_c (nq_m (n := 9) rfl) (sub_c (nq_m (n := 10) rfl) sub_n)))))))
  have hf24 : (Cond.fieldLink RX3 24 "CoatsHall$Hall" (TX3 4).2.1 (TX3 4).2.2.1).before ([.ref ah, .int x1, .int x2, .int x3] : List Value).toArray s = true := hts (.fieldLink RX3 24 "CoatsHall$Hall" "pegs" "I") (nq_m (n := 1) rfl)
  have hf9 : (Cond.fieldLink RX3 9 "CoatsHall$Hall" (TX3 0).2.1 (TX3 0).2.2.1).before ([.ref ah, .int x1, .int x2, .int x3] : List Value).toArray s = true := hts (.fieldLink RX3 9 "CoatsHall$Hall" "kind" "[I") (nq_m (n := 2) rfl)
  have hf15 : (Cond.fieldLink RX3 15 "CoatsHall$Hall" (TX3 1).2.1 (TX3 1).2.2.1).before ([.ref ah, .int x1, .int x2, .int x3] : List Value).toArray s = true := hts (.fieldLink RX3 15 "CoatsHall$Hall" "walk" "[I") (nq_m (n := 3) rfl)
  refine lv_iconst (v := (0 : Int32)) hx hb (nq_d dX3_addRow_0_g (n := 0) rfl) (by decide) ?_
  refine lv_istore (lv' := [(4, .int (0 : Int32)), (0, .ref ah), (1, .int x1), (2, .int x2), (3, .int x3)]) hx hb (nq_d dX3_addRow_0_g (n := 1) rfl) hl (by decide) rfl (fun ls hl => ?_)
  refine nlp4_el hw (fun X0_10 X1_10 X2_10 X3_10 => ∀ (l4_1 : Int32) (z2 : Int32) (z3 : (Nat → Int32)) (z4 : (Nat → Int32)), X0_10 = l4_1.toInt → X1_10 = z2.toInt → X2_10 = (aI 24 z3) → X3_10 = (aI 24 z4) → ∀ (H : Heap) (locs : List Loc) (ls : Array Slot), va_P (dC, dI) vwCl [(ah, .inr (3, [.ref ah_kind, .ref ah_walk, .ref ah_share, .ref ah_weight, .int z2, .int h_ticks, .int h_loss])), (ah_kind, .inl (cyI, 24, .inl z3)), (ah_walk, .inl (cyI, 24, .inl z4))] H → va_D A [(ah, .inr (3, [.ref ah_kind, .ref ah_walk, .ref ah_share, .ref ah_weight, .int z2, .int h_ticks, .int h_loss])), (ah_kind, .inl (cyI, 24, .inl z3)), (ah_walk, .inl (cyI, 24, .inl z4))] → va_S A s.heap H locs → lv_has ls 5 [(0, .ref ah), (1, .int x1), (2, .int x2), (3, .int x3), (4, .int l4_1)] → W p l e (headSpec wsX3_addRow rmX3_addRow).room s m ([.ref ah, .int x1, .int x2, .int x3] : List Value).toArray below meth c H locs 0 0 Q9 (F0 m 3 ls [])) (fun self5 hPself5 X0_10 X1_10 X2_10 X3_10 hw l4_1 z2 z3 z4 eX0_10 eX1_10 eX2_10 eX3_10 H locs ls hP hD hS hl => ?_) (0 : Int32) h_pegs h_kind h_walk rfl rfl rfl rfl _ _ _ hP hD hS (lv_sub hl [1, 2, 3, 4, 0] rfl)
  subst eX0_10
  subst eX1_10
  subst eX2_10
  subst eX3_10
  refine lv_iload hx hb (nq_d dX3_addRow_0_g (n := 2) rfl) (lv_at hl 4 rfl) ?_
  refine lv_iload_n hx hb (nq_d dX3_addRow_0_g (n := 3) rfl) rfl (lv_at hl 1 rfl) ?_
  refine gx_icmp_ge (tgt := 57) hx hb (nq_d dX3_addRow_0_g (n := 4) rfl) (by decide) hw (fun hw => ?_) (fun hw => ?_)
  · exact rt_v (A1 := A) hQ hx hb hr hlocks hP hD hS (z2, z3, z4) [0, 1, 2] rfl (by decide +kernel) hw (nq_d dX3_addRow_0_g (n := 31) rfl)
  · refine lv_aload_n hx hb (nq_d dX3_addRow_0_g (n := 5) rfl) rfl (lv_at hl 0 rfl) ?_
    refine va_get (D := (dC, dI)) (ci := 3) (v := .int z2) (C := RX3) (T := TX3) (N := 7) hx hb hts hi_X3 hown hK hP 0 rfl rfl 4 (by decide) hf24 (fun _ h9 => h9) rfl (nq_d dX3_addRow_0_g (n := 6) rfl) ?_
    refine lv_bipush (v := (24 : Int32)) hx hb (nq_d dX3_addRow_0_g (n := 7) rfl) (by decide) ?_
    refine gx_icmp_ge (tgt := 57) hx hb (nq_d dX3_addRow_0_g (n := 8) rfl) (by decide) hw (fun hw => ?_) (fun hw => ?_)
    · exact rt_v (A1 := A) hQ hx hb hr hlocks hP hD hS (z2, z3, z4) [0, 1, 2] rfl (by decide +kernel) hw (nq_d dX3_addRow_0_g (n := 31) rfl)
    · refine lv_aload_n hx hb (nq_d dX3_addRow_0_g (n := 9) rfl) rfl (lv_at hl 0 rfl) ?_
      refine va_get (D := (dC, dI)) (ci := 3) (v := .ref ah_kind) (C := RX3) (T := TX3) (N := 7) hx hb hts hi_X3 hown hK hP 0 rfl rfl 0 (by decide) hf9 (fun _ h9 => h9) rfl (nq_d dX3_addRow_0_g (n := 10) rfl) ?_
      refine lv_aload_n hx hb (nq_d dX3_addRow_0_g (n := 11) rfl) rfl (lv_at hl 0 rfl) ?_
      refine va_get (D := (dC, dI)) (ci := 3) (v := .int z2) (C := RX3) (T := TX3) (N := 7) hx hb hts hi_X3 hown hK hP 0 rfl rfl 4 (by decide) hf24 (fun _ h9 => h9) rfl (nq_d dX3_addRow_0_g (n := 12) rfl) ?_
      refine lv_iload_n hx hb (nq_d dX3_addRow_0_g (n := 13) rfl) rfl (lv_at hl 2 rfl) ?_
      refine gx_iast hx hb hK hP hD hS 1 1 rfl rfl (nq_d dX3_addRow_0_g (n := 14) rfl) (fun f6 => [(ah, .inr (3, [.ref ah_kind, .ref ah_walk, .ref ah_share, .ref ah_weight, .int z2, .int h_ticks, .int h_loss])), (ah_kind, .inl (cyI, 24, .inl f6)), (ah_walk, .inl (cyI, 24, .inl z4))]) (fun _ => rfl) hw (fun f6 H locs hw hP hD hS => ?_)
      refine lv_aload_n hx hb (nq_d dX3_addRow_0_g (n := 15) rfl) rfl (lv_at hl 0 rfl) ?_
      refine va_get (D := (dC, dI)) (ci := 3) (v := .ref ah_walk) (C := RX3) (T := TX3) (N := 7) hx hb hts hi_X3 hown hK hP 0 rfl rfl 1 (by decide) hf15 (fun _ h9 => h9) rfl (nq_d dX3_addRow_0_g (n := 16) rfl) ?_
      refine lv_aload_n hx hb (nq_d dX3_addRow_0_g (n := 17) rfl) rfl (lv_at hl 0 rfl) ?_
      refine va_get (D := (dC, dI)) (ci := 3) (v := .int z2) (C := RX3) (T := TX3) (N := 7) hx hb hts hi_X3 hown hK hP 0 rfl rfl 4 (by decide) hf24 (fun _ h9 => h9) rfl (nq_d dX3_addRow_0_g (n := 18) rfl) ?_
      refine lv_iload_n hx hb (nq_d dX3_addRow_0_g (n := 19) rfl) rfl (lv_at hl 3 rfl) ?_
      refine lv_iload hx hb (nq_d dX3_addRow_0_g (n := 20) rfl) (lv_at hl 4 rfl) ?_
      refine gx_iadd hx hb (nq_d dX3_addRow_0_g (n := 21) rfl) hw (fun v7 hw => ?_)
      refine gx_iast hx hb hK hP hD hS 2 1 rfl rfl (nq_d dX3_addRow_0_g (n := 22) rfl) (fun f8 => [(ah, .inr (3, [.ref ah_kind, .ref ah_walk, .ref ah_share, .ref ah_weight, .int z2, .int h_ticks, .int h_loss])), (ah_kind, .inl (cyI, 24, .inl f6)), (ah_walk, .inl (cyI, 24, .inl f8))]) (fun _ => rfl) hw (fun f8 H locs hw hP hD hS => ?_)
      refine lv_aload_n hx hb (nq_d dX3_addRow_0_g (n := 23) rfl) rfl (lv_at hl 0 rfl) ?_
      refine lv_dup hx hb (nq_d dX3_addRow_0_g (n := 24) rfl) rfl ?_
      refine va_get (D := (dC, dI)) (ci := 3) (v := .int z2) (C := RX3) (T := TX3) (N := 7) hx hb hts hi_X3 hown hK hP 0 rfl rfl 4 (by decide) hf24 (fun _ h9 => h9) rfl (nq_d dX3_addRow_0_g (n := 25) rfl) ?_
      refine lv_iconst (v := (1 : Int32)) hx hb (nq_d dX3_addRow_0_g (n := 26) rfl) (by decide) ?_
      refine gx_iadd hx hb (nq_d dX3_addRow_0_g (n := 27) rfl) hw (fun v9 hw => ?_)
      refine gx_put (D := (dC, dI)) (ci := 3) (v := .int v9) (ty := .int) (C := RX3) (T := TX3) (N := 7) hx hb hts hi_X3 tyX3 tyX3_ok nmX3 hown hK hP hD hS 0 rfl rfl 4 (by decide) hf24 (fun _ h9 => h9) rfl (by decide +kernel) rfl rfl (Nat.le_of_ble_eq_true rfl) (nq_d dX3_addRow_0_g (n := 28) rfl) [(ah, .inr (3, [.ref ah_kind, .ref ah_walk, .ref ah_share, .ref ah_weight, .int v9, .int h_ticks, .int h_loss])), (ah_kind, .inl (cyI, 24, .inl f6)), (ah_walk, .inl (cyI, 24, .inl f8))] rfl (fun H locs hP hD hS => ?_)
      refine gx_iinc (k := 4) (z := (1 : Int32)) (lv' := fun v10 => [(4, .int v10), (0, .ref ah), (1, .int x1), (2, .int x2), (3, .int x3)]) hx hb (nq_d dX3_addRow_0_g (n := 29) rfl) hl rfl (by decide) (by decide) (fun _ => rfl) hw (fun v10 ls hw hl => ?_)
      refine lv_goto (tgt := 3) hx hb (nq_d dX3_addRow_0_g (n := 30) rfl) (by decide) ?_
      exact hPself5 _ _ _ _ hw v10 v9 f6 f8 rfl rfl rfl rfl _ _ _ hP hD hS (lv_sub hl [1, 2, 3, 4, 0] rfl)
abbrev rmX3_hasPeg : Room := { frames := 0, cells := 0, slots := 0, locals := 0 }
theorem cd_X3_hasPeg : yX3_hasPeg.cls = RX3 ∧ yX3_hasPeg.cls ≠ "java/lang/invoke/MethodHandle" ∧ yX3_hasPeg.cls ≠ "java/lang/invoke/VarHandle" ∧ (parseMethodDescriptor yX3_hasPeg.desc).map (fun d => d.parameters.length) = some 1 := by decide +kernel
set_option maxHeartbeats 4000000 in
set_option maxRecDepth 100000 in
theorem ct_Hall_hasPeg (l : Launch) (dC : Nat → ClassId) (dI : Nat → Nat → Nat) (cyB cyI cyJ cyZ : ClassId) (ah ah_kind ah_walk ah_share ah_weight : Nat) (sz : Nat) (h_pegs : Int32) (h_ticks : Int32) (h_loss : Int32) (x1 : Int32) (Q : Int → Prop) : Met l yX3_hasPeg wsX3_hasPeg rmX3_hasPeg (va_Pc [.ref ah, .int x1] (cPre (dC, dI) vwCl (tyS cyB cyI cyJ cyZ) [(ah, .inr (3, [.ref ah_kind, .ref ah_walk, .ref ah_share, .ref ah_weight, .int h_pegs, .int h_ticks, .int h_loss]))] sz (nf_Hall_hasPeg h_pegs.toInt x1.toInt Q))) (va_Qi (fun (r : Int32) (_ : Unit) => Q r.toInt ) (cPost (dC, dI) vwCl (fun _ : Unit => [(ah, .inr (3, [.ref ah_kind, .ref ah_walk, .ref ah_share, .ref ah_weight, .int h_pegs, .int h_ticks, .int h_loss]))]) (va_A [(ah, .inr (3, [.ref ah_kind, .ref ah_walk, .ref ah_share, .ref ah_weight, .int h_pegs, .int h_ticks, .int h_loss]))] sz)) (va_A [(ah, .inr (3, [.ref ah_kind, .ref ah_walk, .ref ah_share, .ref ah_weight, .int h_pegs, .int h_ticks, .int h_loss]))] sz)) 0 0 (va_A [(ah, .inr (3, [.ref ah_kind, .ref ah_walk, .ref ah_share, .ref ah_weight, .int h_pegs, .int h_ticks, .int h_loss]))] sz) := by
  refine Met.ofW (cc := cX3_hasPeg) (maxL := 2) (ret := (some .boolean)) (by decide) rfl ?_
  intro p e s m args below meth c s₁ B hml hv
  obtain ⟨rfl, hsz, hP, hK, hD0, hNw, hw⟩ := hv
  have hx := B.exec
  have hb := B.bytes
  have hr := B.returns
  have hts := atoms_spec (ws := wsX3_hasPeg) B.pre
  have hown : s.vm.findClass RX3 = some m.cls := findClass_of_methodNamed B.named
  have hlocks := B.notSynchronized
  subst hsz
  have hD := hD0.self (sz := s.heap.size)
  generalize hAe : va_A [(ah, .inr (3, [.ref ah_kind, .ref ah_walk, .ref ah_share, .ref ah_weight, .int h_pegs, .int h_ticks, .int h_loss]))] s.heap.size = A at hD ⊢
  have hA : ∀ q : Nat, s.heap.size ≤ q → A q := fun q h => by rw [← hAe]; exact Or.inr h
  have hS : va_S A s.heap s.heap [] := va_S.rf
  have hl := lv_entry ([.ref ah, .int x1]) (n := 2) (Nat.le_of_ble_eq_true rfl)
  rw [lg_entry_eq]
  generalize (lg_sl ([.ref ah, .int x1]) ++ List.replicate (2 - (lg_sl ([.ref ah, .int x1])).length) Slot.unset).toArray = ls at hl ⊢
  have hl : lv_has ls 2 [(0, .ref ah), (1, .int x1)] := hl
  refine gx_q (fun Q9 hQ => ?_)
  unfold nf_Hall_hasPeg at hw
  have hi_X3 : ∀ w ∈ wsX30, w ∈ wsX3_hasPeg := (sub_c (nq_m (n := 2) rfl) (sub_c (nq_m (n := 3) rfl) (sub_c (nq_m (n := 4) rfl) (sub_c (nq_m (n := 5) rfl) (sub_c (nq_m (n := 6) rfl) (sub_c (nq_m (n := 7) rfl) (sub_c (nq_m (n := 8) rfl) sub_n)))))))
  have hf24 : (Cond.fieldLink RX3 24 "CoatsHall$Hall" (TX3 4).2.1 (TX3 4).2.2.1).before ([.ref ah, .int x1] : List Value).toArray s = true := hts (.fieldLink RX3 24 "CoatsHall$Hall" "pegs" "I") (nq_m (n := 1) rfl)
  refine lv_iload_n hx hb (nq_d dX3_hasPeg_0_g (n := 0) rfl) rfl (lv_at hl 1 rfl) ?_
  refine gx_if_lt (tgt := 22) hx hb (nq_d dX3_hasPeg_0_g (n := 1) rfl) (by decide) hw (fun hw => ?_) (fun hw => ?_)
  · refine lv_iconst (v := (0 : Int32)) hx hb (nq_d dX3_hasPeg_0_g (n := 11) rfl) (by decide) ?_
    exact rt_zl (A1 := A) hQ hx hb hr hlocks hP hD hS () [0] rfl (by decide +kernel) rfl hw (nq_d dX3_hasPeg_0_g (n := 12) rfl)
  · refine lv_iload_n hx hb (nq_d dX3_hasPeg_0_g (n := 2) rfl) rfl (lv_at hl 1 rfl) ?_
    refine lv_aload_n hx hb (nq_d dX3_hasPeg_0_g (n := 3) rfl) rfl (lv_at hl 0 rfl) ?_
    refine va_get (D := (dC, dI)) (ci := 3) (v := .int h_pegs) (C := RX3) (T := TX3) (N := 7) hx hb hts hi_X3 hown hK hP 0 rfl rfl 4 (by decide) hf24 (fun _ h9 => h9) rfl (nq_d dX3_hasPeg_0_g (n := 4) rfl) ?_
    refine gx_icmp_ge (tgt := 22) hx hb (nq_d dX3_hasPeg_0_g (n := 5) rfl) (by decide) hw (fun hw => ?_) (fun hw => ?_)
    · refine lv_iconst (v := (0 : Int32)) hx hb (nq_d dX3_hasPeg_0_g (n := 11) rfl) (by decide) ?_
      exact rt_zl (A1 := A) hQ hx hb hr hlocks hP hD hS () [0] rfl (by decide +kernel) rfl hw (nq_d dX3_hasPeg_0_g (n := 12) rfl)
    · refine lv_iload_n hx hb (nq_d dX3_hasPeg_0_g (n := 6) rfl) rfl (lv_at hl 1 rfl) ?_
      refine lv_bipush (v := (24 : Int32)) hx hb (nq_d dX3_hasPeg_0_g (n := 7) rfl) (by decide) ?_
      refine gx_icmp_ge (tgt := 22) hx hb (nq_d dX3_hasPeg_0_g (n := 8) rfl) (by decide) hw (fun hw => ?_) (fun hw => ?_)
      · refine lv_iconst (v := (0 : Int32)) hx hb (nq_d dX3_hasPeg_0_g (n := 11) rfl) (by decide) ?_
        exact rt_zl (A1 := A) hQ hx hb hr hlocks hP hD hS () [0] rfl (by decide +kernel) rfl hw (nq_d dX3_hasPeg_0_g (n := 12) rfl)
      · refine lv_iconst (v := (1 : Int32)) hx hb (nq_d dX3_hasPeg_0_g (n := 9) rfl) (by decide) ?_
        refine lv_goto (tgt := 23) hx hb (nq_d dX3_hasPeg_0_g (n := 10) rfl) (by decide) ?_
        exact rt_zl (A1 := A) hQ hx hb hr hlocks hP hD hS () [0] rfl (by decide +kernel) rfl hw (nq_d dX3_hasPeg_0_g (n := 12) rfl)
abbrev rmX3_isOfKind : Room := { frames := 1, cells := 0, slots := 0, locals := 21 }
theorem cd_X3_isOfKind : yX3_isOfKind.cls = RX3 ∧ yX3_isOfKind.cls ≠ "java/lang/invoke/MethodHandle" ∧ yX3_isOfKind.cls ≠ "java/lang/invoke/VarHandle" ∧ (parseMethodDescriptor yX3_isOfKind.desc).map (fun d => d.parameters.length) = some 2 := by decide +kernel
set_option maxHeartbeats 4000000 in
set_option maxRecDepth 100000 in
theorem ct_Hall_isOfKind (l : Launch) (dC : Nat → ClassId) (dI : Nat → Nat → Nat) (cyB cyI cyJ cyZ : ClassId) (ah ah_kind ah_walk ah_share ah_weight : Nat) (sz : Nat) (h_pegs : Int32) (h_ticks : Int32) (h_loss : Int32) (h_kind : Nat → Int32) (x1 : Int32) (x2 : Int32) (Q : Int → Prop) : Met l yX3_isOfKind wsX3_isOfKind rmX3_isOfKind (va_Pc [.ref ah, .int x1, .int x2] (cPre (dC, dI) vwCl (tyS cyB cyI cyJ cyZ) [(ah, .inr (3, [.ref ah_kind, .ref ah_walk, .ref ah_share, .ref ah_weight, .int h_pegs, .int h_ticks, .int h_loss])), (ah_kind, .inl (cyI, 24, .inl h_kind))] sz (nf_Hall_isOfKind h_pegs.toInt (aI 24 h_kind) x1.toInt x2.toInt Q))) (va_Qi (fun (r : Int32) (_ : Unit) => Q r.toInt ) (cPost (dC, dI) vwCl (fun _ : Unit => [(ah, .inr (3, [.ref ah_kind, .ref ah_walk, .ref ah_share, .ref ah_weight, .int h_pegs, .int h_ticks, .int h_loss])), (ah_kind, .inl (cyI, 24, .inl h_kind))]) (va_A [(ah, .inr (3, [.ref ah_kind, .ref ah_walk, .ref ah_share, .ref ah_weight, .int h_pegs, .int h_ticks, .int h_loss])), (ah_kind, .inl (cyI, 24, .inl h_kind))] sz)) (va_A [(ah, .inr (3, [.ref ah_kind, .ref ah_walk, .ref ah_share, .ref ah_weight, .int h_pegs, .int h_ticks, .int h_loss])), (ah_kind, .inl (cyI, 24, .inl h_kind))] sz)) 0 0 (va_A [(ah, .inr (3, [.ref ah_kind, .ref ah_walk, .ref ah_share, .ref ah_weight, .int h_pegs, .int h_ticks, .int h_loss])), (ah_kind, .inl (cyI, 24, .inl h_kind))] sz) := by
  refine Met.ofW (cc := cX3_isOfKind) (maxL := 3) (ret := (some .boolean)) (by decide) rfl ?_
  intro p e s m args below meth c s₁ B hml hv
  obtain ⟨rfl, hsz, hP, hK, hD0, hNw, hw⟩ := hv
  have hx := B.exec
  have hb := B.bytes
  have hr := B.returns
  have hts := atoms_spec (ws := wsX3_isOfKind) B.pre
  have hown : s.vm.findClass RX3 = some m.cls := findClass_of_methodNamed B.named
  have hlocks := B.notSynchronized
  subst hsz
  have hD := hD0.self (sz := s.heap.size)
  generalize hAe : va_A [(ah, .inr (3, [.ref ah_kind, .ref ah_walk, .ref ah_share, .ref ah_weight, .int h_pegs, .int h_ticks, .int h_loss])), (ah_kind, .inl (cyI, 24, .inl h_kind))] s.heap.size = A at hD ⊢
  have hA : ∀ q : Nat, s.heap.size ≤ q → A q := fun q h => by rw [← hAe]; exact Or.inr h
  have hS : va_S A s.heap s.heap [] := va_S.rf
  have hl := lv_entry ([.ref ah, .int x1, .int x2]) (n := 3) (Nat.le_of_ble_eq_true rfl)
  rw [lg_entry_eq]
  generalize (lg_sl ([.ref ah, .int x1, .int x2]) ++ List.replicate (3 - (lg_sl ([.ref ah, .int x1, .int x2])).length) Slot.unset).toArray = ls at hl ⊢
  have hl : lv_has ls 3 [(0, .ref ah), (1, .int x1), (2, .int x2)] := hl
  refine gx_q (fun Q9 hQ => ?_)
  unfold nf_Hall_isOfKind at hw
  have hi_X3 : ∀ w ∈ wsX30, w ∈ wsX3_isOfKind := (sub_c (nq_m (n := 8) rfl) (sub_c (nq_m (n := 9) rfl) (sub_c (nq_m (n := 10) rfl) (sub_c (nq_m (n := 11) rfl) (sub_c (nq_m (n := 12) rfl) (sub_c (nq_m (n := 13) rfl) (sub_c (nq_m (n := 14) rfl) sub_n)))))))
  have hf9 : (Cond.fieldLink RX3 9 "CoatsHall$Hall" (TX3 0).2.1 (TX3 0).2.2.1).before ([.ref ah, .int x1, .int x2] : List Value).toArray s = true := hts (.fieldLink RX3 9 "CoatsHall$Hall" "kind" "[I") (nq_m (n := 1) rfl)
  refine lv_aload_n hx hb (nq_d dX3_isOfKind_0_g (n := 0) rfl) rfl (lv_at hl 0 rfl) ?_
  refine lv_iload_n hx hb (nq_d dX3_isOfKind_0_g (n := 1) rfl) rfl (lv_at hl 1 rfl) ?_
  refine gx_ri (wr := [(ah_kind, .inl (cyI, 24, .inl h_kind))]) (va_runV (As := [.int x1]) (rest := []) ⟨hx, hb, hml, hown, hts⟩ (ct_Hall_hasPeg l dC dI cyB cyI cyJ cyZ ah ah_kind ah_walk ah_share ah_weight _ h_pegs h_ticks h_loss x1 _) (cwV 1 hts gX3_isOfKind_X3_hasPeg rfl rfl rfl cd_X3_hasPeg ⟨Nat.le_of_ble_eq_true rfl, Nat.le_of_ble_eq_true rfl⟩) (gx_preV hK hP hD hNw [0] rfl (by decide +kernel) hw 0 (ci := 3) rfl rfl rfl) rfl rfl hl.1 rfl (lv_room (Nat.le_of_ble_eq_true rfl)) (nq_d dX3_isOfKind_0_g (n := 2) rfl) ⟨Nat.zero_le _, Nat.zero_le _⟩) hP hD hS hA [0] [1] [1, 0] rfl rfl (by decide) (by decide) (by decide) (fun _ => [(ah, .inr (3, [.ref ah_kind, .ref ah_walk, .ref ah_share, .ref ah_weight, .int h_pegs, .int h_ticks, .int h_loss])), (ah_kind, .inl (cyI, 24, .inl h_kind))]) (fun _ => rfl) (fun r1 u H locs hw hP hD hS => ?_)
  try dsimp only at hw hP hD
  refine gx_if_eq (tgt := 22) hx hb (nq_d dX3_isOfKind_0_g (n := 3) rfl) (by decide) hw (fun hw => ?_) (fun hw => ?_)
  · refine lv_iconst (v := (0 : Int32)) hx hb (nq_d dX3_isOfKind_0_g (n := 12) rfl) (by decide) ?_
    exact rt_zl (A1 := A) hQ hx hb hr hlocks hP hD hS () [0, 1] rfl (by decide +kernel) rfl hw (nq_d dX3_isOfKind_0_g (n := 13) rfl)
  · refine lv_aload_n hx hb (nq_d dX3_isOfKind_0_g (n := 4) rfl) rfl (lv_at hl 0 rfl) ?_
    refine va_get (D := (dC, dI)) (ci := 3) (v := .ref ah_kind) (C := RX3) (T := TX3) (N := 7) hx hb hts hi_X3 hown hK hP 0 rfl rfl 0 (by decide) hf9 (fun _ h9 => h9) rfl (nq_d dX3_isOfKind_0_g (n := 5) rfl) ?_
    refine lv_iload_n hx hb (nq_d dX3_isOfKind_0_g (n := 6) rfl) rfl (lv_at hl 1 rfl) ?_
    refine gx_iald hx hb hK hP 1 1 rfl rfl (nq_d dX3_isOfKind_0_g (n := 7) rfl) hw (fun v2 hw => ?_)
    refine lv_iload_n hx hb (nq_d dX3_isOfKind_0_g (n := 8) rfl) rfl (lv_at hl 2 rfl) ?_
    refine gx_icmp_ne (tgt := 22) hx hb (nq_d dX3_isOfKind_0_g (n := 9) rfl) (by decide) hw (fun hw => ?_) (fun hw => ?_)
    · refine lv_iconst (v := (0 : Int32)) hx hb (nq_d dX3_isOfKind_0_g (n := 12) rfl) (by decide) ?_
      exact rt_zl (A1 := A) hQ hx hb hr hlocks hP hD hS () [0, 1] rfl (by decide +kernel) rfl hw (nq_d dX3_isOfKind_0_g (n := 13) rfl)
    · refine lv_iconst (v := (1 : Int32)) hx hb (nq_d dX3_isOfKind_0_g (n := 10) rfl) (by decide) ?_
      refine lv_goto (tgt := 23) hx hb (nq_d dX3_isOfKind_0_g (n := 11) rfl) (by decide) ?_
      exact rt_zl (A1 := A) hQ hx hb hr hlocks hP hD hS () [0, 1] rfl (by decide +kernel) rfl hw (nq_d dX3_isOfKind_0_g (n := 13) rfl)
abbrev rmX3_walkOf : Room := { frames := 1, cells := 0, slots := 0, locals := 21 }
theorem cd_X3_walkOf : yX3_walkOf.cls = RX3 ∧ yX3_walkOf.cls ≠ "java/lang/invoke/MethodHandle" ∧ yX3_walkOf.cls ≠ "java/lang/invoke/VarHandle" ∧ (parseMethodDescriptor yX3_walkOf.desc).map (fun d => d.parameters.length) = some 1 := by decide +kernel
set_option maxHeartbeats 4000000 in
set_option maxRecDepth 100000 in
theorem ct_Hall_walkOf (l : Launch) (dC : Nat → ClassId) (dI : Nat → Nat → Nat) (cyB cyI cyJ cyZ : ClassId) (ah ah_kind ah_walk ah_share ah_weight : Nat) (sz : Nat) (h_pegs : Int32) (h_ticks : Int32) (h_loss : Int32) (h_walk : Nat → Int32) (x1 : Int32) (Q : Int → Prop) : Met l yX3_walkOf wsX3_walkOf rmX3_walkOf (va_Pc [.ref ah, .int x1] (cPre (dC, dI) vwCl (tyS cyB cyI cyJ cyZ) [(ah, .inr (3, [.ref ah_kind, .ref ah_walk, .ref ah_share, .ref ah_weight, .int h_pegs, .int h_ticks, .int h_loss])), (ah_walk, .inl (cyI, 24, .inl h_walk))] sz (nf_Hall_walkOf h_pegs.toInt (aI 24 h_walk) x1.toInt Q))) (va_Qi (fun (r : Int32) (_ : Unit) => Q r.toInt ) (cPost (dC, dI) vwCl (fun _ : Unit => [(ah, .inr (3, [.ref ah_kind, .ref ah_walk, .ref ah_share, .ref ah_weight, .int h_pegs, .int h_ticks, .int h_loss])), (ah_walk, .inl (cyI, 24, .inl h_walk))]) (va_A [(ah, .inr (3, [.ref ah_kind, .ref ah_walk, .ref ah_share, .ref ah_weight, .int h_pegs, .int h_ticks, .int h_loss])), (ah_walk, .inl (cyI, 24, .inl h_walk))] sz)) (va_A [(ah, .inr (3, [.ref ah_kind, .ref ah_walk, .ref ah_share, .ref ah_weight, .int h_pegs, .int h_ticks, .int h_loss])), (ah_walk, .inl (cyI, 24, .inl h_walk))] sz)) 0 0 (va_A [(ah, .inr (3, [.ref ah_kind, .ref ah_walk, .ref ah_share, .ref ah_weight, .int h_pegs, .int h_ticks, .int h_loss])), (ah_walk, .inl (cyI, 24, .inl h_walk))] sz) := by
  refine Met.ofW (cc := cX3_walkOf) (maxL := 2) (ret := (some .int)) (by decide) rfl ?_
  intro p e s m args below meth c s₁ B hml hv
  obtain ⟨rfl, hsz, hP, hK, hD0, hNw, hw⟩ := hv
  have hx := B.exec
  have hb := B.bytes
  have hr := B.returns
  have hts := atoms_spec (ws := wsX3_walkOf) B.pre
  have hown : s.vm.findClass RX3 = some m.cls := findClass_of_methodNamed B.named
  have hlocks := B.notSynchronized
  subst hsz
  have hD := hD0.self (sz := s.heap.size)
  generalize hAe : va_A [(ah, .inr (3, [.ref ah_kind, .ref ah_walk, .ref ah_share, .ref ah_weight, .int h_pegs, .int h_ticks, .int h_loss])), (ah_walk, .inl (cyI, 24, .inl h_walk))] s.heap.size = A at hD ⊢
  have hA : ∀ q : Nat, s.heap.size ≤ q → A q := fun q h => by rw [← hAe]; exact Or.inr h
  have hS : va_S A s.heap s.heap [] := va_S.rf
  have hl := lv_entry ([.ref ah, .int x1]) (n := 2) (Nat.le_of_ble_eq_true rfl)
  rw [lg_entry_eq]
  generalize (lg_sl ([.ref ah, .int x1]) ++ List.replicate (2 - (lg_sl ([.ref ah, .int x1])).length) Slot.unset).toArray = ls at hl ⊢
  have hl : lv_has ls 2 [(0, .ref ah), (1, .int x1)] := hl
  refine gx_q (fun Q9 hQ => ?_)
  unfold nf_Hall_walkOf at hw
  have hi_X3 : ∀ w ∈ wsX30, w ∈ wsX3_walkOf := (sub_c (nq_m (n := 8) rfl) (sub_c (nq_m (n := 9) rfl) (sub_c (nq_m (n := 10) rfl) (sub_c (nq_m (n := 11) rfl) (sub_c (nq_m (n := 12) rfl) (sub_c (nq_m (n := 13) rfl) (sub_c (nq_m (n := 14) rfl) sub_n)))))))
  have hf15 : (Cond.fieldLink RX3 15 "CoatsHall$Hall" (TX3 1).2.1 (TX3 1).2.2.1).before ([.ref ah, .int x1] : List Value).toArray s = true := hts (.fieldLink RX3 15 "CoatsHall$Hall" "walk" "[I") (nq_m (n := 1) rfl)
  refine lv_aload_n hx hb (nq_d dX3_walkOf_0_g (n := 0) rfl) rfl (lv_at hl 0 rfl) ?_
  refine lv_iload_n hx hb (nq_d dX3_walkOf_0_g (n := 1) rfl) rfl (lv_at hl 1 rfl) ?_
  refine gx_ri (wr := [(ah_walk, .inl (cyI, 24, .inl h_walk))]) (va_runV (As := [.int x1]) (rest := []) ⟨hx, hb, hml, hown, hts⟩ (ct_Hall_hasPeg l dC dI cyB cyI cyJ cyZ ah ah_kind ah_walk ah_share ah_weight _ h_pegs h_ticks h_loss x1 _) (cwV 1 hts gX3_walkOf_X3_hasPeg rfl rfl rfl cd_X3_hasPeg ⟨Nat.le_of_ble_eq_true rfl, Nat.le_of_ble_eq_true rfl⟩) (gx_preV hK hP hD hNw [0] rfl (by decide +kernel) hw 0 (ci := 3) rfl rfl rfl) rfl rfl hl.1 rfl (lv_room (Nat.le_of_ble_eq_true rfl)) (nq_d dX3_walkOf_0_g (n := 2) rfl) ⟨Nat.zero_le _, Nat.zero_le _⟩) hP hD hS hA [0] [1] [1, 0] rfl rfl (by decide) (by decide) (by decide) (fun _ => [(ah, .inr (3, [.ref ah_kind, .ref ah_walk, .ref ah_share, .ref ah_weight, .int h_pegs, .int h_ticks, .int h_loss])), (ah_walk, .inl (cyI, 24, .inl h_walk))]) (fun _ => rfl) (fun r1 u H locs hw hP hD hS => ?_)
  try dsimp only at hw hP hD
  refine gx_if_eq (tgt := 17) hx hb (nq_d dX3_walkOf_0_g (n := 3) rfl) (by decide) hw (fun hw => ?_) (fun hw => ?_)
  · refine lv_iconst (v := (0 : Int32)) hx hb (nq_d dX3_walkOf_0_g (n := 9) rfl) (by decide) ?_
    exact rt_i (A1 := A) hQ hx hb hr hlocks hP hD hS () [0, 1] rfl (by decide +kernel) hw (nq_d dX3_walkOf_0_g (n := 10) rfl)
  · refine lv_aload_n hx hb (nq_d dX3_walkOf_0_g (n := 4) rfl) rfl (lv_at hl 0 rfl) ?_
    refine va_get (D := (dC, dI)) (ci := 3) (v := .ref ah_walk) (C := RX3) (T := TX3) (N := 7) hx hb hts hi_X3 hown hK hP 0 rfl rfl 1 (by decide) hf15 (fun _ h9 => h9) rfl (nq_d dX3_walkOf_0_g (n := 5) rfl) ?_
    refine lv_iload_n hx hb (nq_d dX3_walkOf_0_g (n := 6) rfl) rfl (lv_at hl 1 rfl) ?_
    refine gx_iald hx hb hK hP 1 1 rfl rfl (nq_d dX3_walkOf_0_g (n := 7) rfl) hw (fun v2 hw => ?_)
    refine lv_goto (tgt := 18) hx hb (nq_d dX3_walkOf_0_g (n := 8) rfl) (by decide) ?_
    exact rt_i (A1 := A) hQ hx hb hr hlocks hP hD hS () [0, 1] rfl (by decide +kernel) hw (nq_d dX3_walkOf_0_g (n := 10) rfl)
abbrev rmX3_shareOf : Room := { frames := 1, cells := 0, slots := 0, locals := 22 }
theorem cd_X3_shareOf : yX3_shareOf.cls = RX3 ∧ yX3_shareOf.cls ≠ "java/lang/invoke/MethodHandle" ∧ yX3_shareOf.cls ≠ "java/lang/invoke/VarHandle" ∧ (parseMethodDescriptor yX3_shareOf.desc).map (fun d => d.parameters.length) = some 2 := by decide +kernel
set_option maxHeartbeats 4000000 in
set_option maxRecDepth 100000 in
theorem ct_Hall_shareOf (l : Launch) (dC : Nat → ClassId) (dI : Nat → Nat → Nat) (cyB cyI cyJ cyZ : ClassId) (ah ah_kind ah_walk ah_share ah_weight : Nat) (sz : Nat) (h_pegs : Int32) (h_ticks : Int32) (h_loss : Int32) (h_share : Nat → Int32) (x1 : Int32) (x2 : Int32) (Q : Int → Prop) : Met l yX3_shareOf wsX3_shareOf rmX3_shareOf (va_Pc [.ref ah, .int x1, .int x2] (cPre (dC, dI) vwCl (tyS cyB cyI cyJ cyZ) [(ah, .inr (3, [.ref ah_kind, .ref ah_walk, .ref ah_share, .ref ah_weight, .int h_pegs, .int h_ticks, .int h_loss])), (ah_share, .inl (cyI, 12, .inl h_share))] sz (nf_Hall_shareOf (aI 12 h_share) x1.toInt x2.toInt Q))) (va_Qi (fun (r : Int32) (_ : Unit) => Q r.toInt ) (cPost (dC, dI) vwCl (fun _ : Unit => [(ah, .inr (3, [.ref ah_kind, .ref ah_walk, .ref ah_share, .ref ah_weight, .int h_pegs, .int h_ticks, .int h_loss])), (ah_share, .inl (cyI, 12, .inl h_share))]) (va_A [(ah, .inr (3, [.ref ah_kind, .ref ah_walk, .ref ah_share, .ref ah_weight, .int h_pegs, .int h_ticks, .int h_loss])), (ah_share, .inl (cyI, 12, .inl h_share))] sz)) (va_A [(ah, .inr (3, [.ref ah_kind, .ref ah_walk, .ref ah_share, .ref ah_weight, .int h_pegs, .int h_ticks, .int h_loss])), (ah_share, .inl (cyI, 12, .inl h_share))] sz)) 0 0 (va_A [(ah, .inr (3, [.ref ah_kind, .ref ah_walk, .ref ah_share, .ref ah_weight, .int h_pegs, .int h_ticks, .int h_loss])), (ah_share, .inl (cyI, 12, .inl h_share))] sz) := by
  refine Met.ofW (cc := cX3_shareOf) (maxL := 3) (ret := (some .int)) (by decide) rfl ?_
  intro p e s m args below meth c s₁ B hml hv
  obtain ⟨rfl, hsz, hP, hK, hD0, hNw, hw⟩ := hv
  have hx := B.exec
  have hb := B.bytes
  have hr := B.returns
  have hts := atoms_spec (ws := wsX3_shareOf) B.pre
  have hown : s.vm.findClass RX3 = some m.cls := findClass_of_methodNamed B.named
  have hlocks := B.notSynchronized
  subst hsz
  have hD := hD0.self (sz := s.heap.size)
  generalize hAe : va_A [(ah, .inr (3, [.ref ah_kind, .ref ah_walk, .ref ah_share, .ref ah_weight, .int h_pegs, .int h_ticks, .int h_loss])), (ah_share, .inl (cyI, 12, .inl h_share))] s.heap.size = A at hD ⊢
  have hA : ∀ q : Nat, s.heap.size ≤ q → A q := fun q h => by rw [← hAe]; exact Or.inr h
  have hS : va_S A s.heap s.heap [] := va_S.rf
  have hl := lv_entry ([.ref ah, .int x1, .int x2]) (n := 3) (Nat.le_of_ble_eq_true rfl)
  rw [lg_entry_eq]
  generalize (lg_sl ([.ref ah, .int x1, .int x2]) ++ List.replicate (3 - (lg_sl ([.ref ah, .int x1, .int x2])).length) Slot.unset).toArray = ls at hl ⊢
  have hl : lv_has ls 3 [(0, .ref ah), (1, .int x1), (2, .int x2)] := hl
  refine gx_q (fun Q9 hQ => ?_)
  unfold nf_Hall_shareOf at hw
  have hi_X3 : ∀ w ∈ wsX30, w ∈ wsX3_shareOf := (sub_c (nq_m (n := 5) rfl) (sub_c (nq_m (n := 6) rfl) (sub_c (nq_m (n := 7) rfl) (sub_c (nq_m (n := 8) rfl) (sub_c (nq_m (n := 9) rfl) (sub_c (nq_m (n := 10) rfl) (sub_c (nq_m (n := 11) rfl) sub_n)))))))
  have hf18 : (Cond.fieldLink RX3 18 "CoatsHall$Hall" (TX3 2).2.1 (TX3 2).2.2.1).before ([.ref ah, .int x1, .int x2] : List Value).toArray s = true := hts (.fieldLink RX3 18 "CoatsHall$Hall" "share" "[I") (nq_m (n := 1) rfl)
  refine lv_iload_n hx hb (nq_d dX3_shareOf_0_g (n := 0) rfl) rfl (lv_at hl 1 rfl) ?_
  refine lv_iconst (v := (0 : Int32)) hx hb (nq_d dX3_shareOf_0_g (n := 1) rfl) (by decide) ?_
  refine lv_iconst (v := (3 : Int32)) hx hb (nq_d dX3_shareOf_0_g (n := 2) rfl) (by decide) ?_
  refine gx_ri (wr := [(ah, .inr (3, [.ref ah_kind, .ref ah_walk, .ref ah_share, .ref ah_weight, .int h_pegs, .int h_ticks, .int h_loss])), (ah_share, .inl (cyI, 12, .inl h_share))]) (va_runSN (As := [.int x1, .int (0 : Int32), .int (3 : Int32)]) (rest := []) ⟨hx, hb, hml, hown, hts⟩ (ct_H_within l dC dI cyB cyI cyJ cyZ  _ x1 (0 : Int32) (3 : Int32) _) ⟨va_cnB 3 hts gX3_shareOf_X10_within_n42 rfl rfl rfl (nw_11 hNw) (hts (.initialized RX10) (nq_m (n := 3) rfl)) cd_X10_within.2 ⟨Nat.le_of_ble_eq_true rfl, Nat.le_of_ble_eq_true rfl⟩, hts (.static yX10_within) (nq_m (n := 2) rfl), trivial⟩ (gx_preS hK hP hD hNw [] rfl (by decide) hw) rfl rfl hl.1 rfl (lv_room (Nat.le_of_ble_eq_true rfl)) (nq_d dX3_shareOf_0_g (n := 3) rfl) ⟨Nat.zero_le _, Nat.zero_le _⟩) hP hD hS hA [] [0, 1] [0, 1] rfl rfl (by decide) (by decide) (by decide) (fun _ => [(ah, .inr (3, [.ref ah_kind, .ref ah_walk, .ref ah_share, .ref ah_weight, .int h_pegs, .int h_ticks, .int h_loss])), (ah_share, .inl (cyI, 12, .inl h_share))]) (fun _ => rfl) (fun r1 u H locs hw hP hD hS => ?_)
  try dsimp only at hw hP hD
  refine gx_if_eq (tgt := 18) hx hb (nq_d dX3_shareOf_0_g (n := 4) rfl) (by decide) hw (fun hw => ?_) (fun hw => ?_)
  · refine lv_iconst (v := (0 : Int32)) hx hb (nq_d dX3_shareOf_0_g (n := 10) rfl) (by decide) ?_
    exact rt_i (A1 := A) hQ hx hb hr hlocks hP hD hS () [0, 1] rfl (by decide +kernel) hw (nq_d dX3_shareOf_0_g (n := 11) rfl)
  · refine lv_iload_n hx hb (nq_d dX3_shareOf_0_g (n := 5) rfl) rfl (lv_at hl 2 rfl) ?_
    refine lv_iconst (v := (0 : Int32)) hx hb (nq_d dX3_shareOf_0_g (n := 6) rfl) (by decide) ?_
    refine lv_iconst (v := (2 : Int32)) hx hb (nq_d dX3_shareOf_0_g (n := 7) rfl) (by decide) ?_
    refine gx_ri (wr := [(ah, .inr (3, [.ref ah_kind, .ref ah_walk, .ref ah_share, .ref ah_weight, .int h_pegs, .int h_ticks, .int h_loss])), (ah_share, .inl (cyI, 12, .inl h_share))]) (va_runSN (As := [.int x2, .int (0 : Int32), .int (2 : Int32)]) (rest := []) ⟨hx, hb, hml, hown, hts⟩ (ct_H_within l dC dI cyB cyI cyJ cyZ  _ x2 (0 : Int32) (2 : Int32) _) ⟨va_cnB 3 hts gX3_shareOf_X10_within_n42 rfl rfl rfl (nw_11 hNw) (hts (.initialized RX10) (nq_m (n := 3) rfl)) cd_X10_within.2 ⟨Nat.le_of_ble_eq_true rfl, Nat.le_of_ble_eq_true rfl⟩, hts (.static yX10_within) (nq_m (n := 2) rfl), trivial⟩ (gx_preS hK hP hD hNw [] rfl (by decide) hw) rfl rfl hl.1 rfl (lv_room (Nat.le_of_ble_eq_true rfl)) (nq_d dX3_shareOf_0_g (n := 8) rfl) ⟨Nat.zero_le _, Nat.zero_le _⟩) hP hD hS hA [] [0, 1] [0, 1] rfl rfl (by decide) (by decide) (by decide) (fun _ => [(ah, .inr (3, [.ref ah_kind, .ref ah_walk, .ref ah_share, .ref ah_weight, .int h_pegs, .int h_ticks, .int h_loss])), (ah_share, .inl (cyI, 12, .inl h_share))]) (fun _ => rfl) (fun r2 u H locs hw hP hD hS => ?_)
    try dsimp only at hw hP hD
    refine gx_if_ne (tgt := 20) hx hb (nq_d dX3_shareOf_0_g (n := 9) rfl) (by decide) hw (fun hw => ?_) (fun hw => ?_)
    · refine lv_aload_n hx hb (nq_d dX3_shareOf_0_g (n := 12) rfl) rfl (lv_at hl 0 rfl) ?_
      refine va_get (D := (dC, dI)) (ci := 3) (v := .ref ah_share) (C := RX3) (T := TX3) (N := 7) hx hb hts hi_X3 hown hK hP 0 rfl rfl 2 (by decide) hf18 (fun _ h9 => h9) rfl (nq_d dX3_shareOf_0_g (n := 13) rfl) ?_
      refine lv_iload_n hx hb (nq_d dX3_shareOf_0_g (n := 14) rfl) rfl (lv_at hl 1 rfl) ?_
      refine lv_iconst (v := (3 : Int32)) hx hb (nq_d dX3_shareOf_0_g (n := 15) rfl) (by decide) ?_
      refine gx_imul hx hb (nq_d dX3_shareOf_0_g (n := 16) rfl) hw (fun v3 hw => ?_)
      refine lv_iload_n hx hb (nq_d dX3_shareOf_0_g (n := 17) rfl) rfl (lv_at hl 2 rfl) ?_
      refine gx_iadd hx hb (nq_d dX3_shareOf_0_g (n := 18) rfl) hw (fun v4 hw => ?_)
      refine gx_iald hx hb hK hP 1 1 rfl rfl (nq_d dX3_shareOf_0_g (n := 19) rfl) hw (fun v5 hw => ?_)
      exact rt_i (A1 := A) hQ hx hb hr hlocks hP hD hS () [0, 1] rfl (by decide +kernel) hw (nq_d dX3_shareOf_0_g (n := 20) rfl)
    · refine lv_iconst (v := (0 : Int32)) hx hb (nq_d dX3_shareOf_0_g (n := 10) rfl) (by decide) ?_
      exact rt_i (A1 := A) hQ hx hb hr hlocks hP hD hS () [0, 1] rfl (by decide +kernel) hw (nq_d dX3_shareOf_0_g (n := 11) rfl)
abbrev rmX3_weightOf : Room := { frames := 1, cells := 0, slots := 0, locals := 22 }
theorem cd_X3_weightOf : yX3_weightOf.cls = RX3 ∧ yX3_weightOf.cls ≠ "java/lang/invoke/MethodHandle" ∧ yX3_weightOf.cls ≠ "java/lang/invoke/VarHandle" ∧ (parseMethodDescriptor yX3_weightOf.desc).map (fun d => d.parameters.length) = some 1 := by decide +kernel
set_option maxHeartbeats 4000000 in
set_option maxRecDepth 100000 in
theorem ct_Hall_weightOf (l : Launch) (dC : Nat → ClassId) (dI : Nat → Nat → Nat) (cyB cyI cyJ cyZ : ClassId) (ah ah_kind ah_walk ah_share ah_weight : Nat) (sz : Nat) (h_pegs : Int32) (h_ticks : Int32) (h_loss : Int32) (h_weight : Nat → Int32) (x1 : Int32) (Q : Int → Prop) : Met l yX3_weightOf wsX3_weightOf rmX3_weightOf (va_Pc [.ref ah, .int x1] (cPre (dC, dI) vwCl (tyS cyB cyI cyJ cyZ) [(ah, .inr (3, [.ref ah_kind, .ref ah_walk, .ref ah_share, .ref ah_weight, .int h_pegs, .int h_ticks, .int h_loss])), (ah_weight, .inl (cyI, 3, .inl h_weight))] sz (nf_Hall_weightOf (aI 3 h_weight) x1.toInt Q))) (va_Qi (fun (r : Int32) (_ : Unit) => Q r.toInt ) (cPost (dC, dI) vwCl (fun _ : Unit => [(ah, .inr (3, [.ref ah_kind, .ref ah_walk, .ref ah_share, .ref ah_weight, .int h_pegs, .int h_ticks, .int h_loss])), (ah_weight, .inl (cyI, 3, .inl h_weight))]) (va_A [(ah, .inr (3, [.ref ah_kind, .ref ah_walk, .ref ah_share, .ref ah_weight, .int h_pegs, .int h_ticks, .int h_loss])), (ah_weight, .inl (cyI, 3, .inl h_weight))] sz)) (va_A [(ah, .inr (3, [.ref ah_kind, .ref ah_walk, .ref ah_share, .ref ah_weight, .int h_pegs, .int h_ticks, .int h_loss])), (ah_weight, .inl (cyI, 3, .inl h_weight))] sz)) 0 0 (va_A [(ah, .inr (3, [.ref ah_kind, .ref ah_walk, .ref ah_share, .ref ah_weight, .int h_pegs, .int h_ticks, .int h_loss])), (ah_weight, .inl (cyI, 3, .inl h_weight))] sz) := by
  refine Met.ofW (cc := cX3_weightOf) (maxL := 2) (ret := (some .int)) (by decide) rfl ?_
  intro p e s m args below meth c s₁ B hml hv
  obtain ⟨rfl, hsz, hP, hK, hD0, hNw, hw⟩ := hv
  have hx := B.exec
  have hb := B.bytes
  have hr := B.returns
  have hts := atoms_spec (ws := wsX3_weightOf) B.pre
  have hown : s.vm.findClass RX3 = some m.cls := findClass_of_methodNamed B.named
  have hlocks := B.notSynchronized
  subst hsz
  have hD := hD0.self (sz := s.heap.size)
  generalize hAe : va_A [(ah, .inr (3, [.ref ah_kind, .ref ah_walk, .ref ah_share, .ref ah_weight, .int h_pegs, .int h_ticks, .int h_loss])), (ah_weight, .inl (cyI, 3, .inl h_weight))] s.heap.size = A at hD ⊢
  have hA : ∀ q : Nat, s.heap.size ≤ q → A q := fun q h => by rw [← hAe]; exact Or.inr h
  have hS : va_S A s.heap s.heap [] := va_S.rf
  have hl := lv_entry ([.ref ah, .int x1]) (n := 2) (Nat.le_of_ble_eq_true rfl)
  rw [lg_entry_eq]
  generalize (lg_sl ([.ref ah, .int x1]) ++ List.replicate (2 - (lg_sl ([.ref ah, .int x1])).length) Slot.unset).toArray = ls at hl ⊢
  have hl : lv_has ls 2 [(0, .ref ah), (1, .int x1)] := hl
  refine gx_q (fun Q9 hQ => ?_)
  unfold nf_Hall_weightOf at hw
  have hi_X3 : ∀ w ∈ wsX30, w ∈ wsX3_weightOf := (sub_c (nq_m (n := 5) rfl) (sub_c (nq_m (n := 6) rfl) (sub_c (nq_m (n := 7) rfl) (sub_c (nq_m (n := 8) rfl) (sub_c (nq_m (n := 9) rfl) (sub_c (nq_m (n := 10) rfl) (sub_c (nq_m (n := 11) rfl) sub_n)))))))
  have hf21 : (Cond.fieldLink RX3 21 "CoatsHall$Hall" (TX3 3).2.1 (TX3 3).2.2.1).before ([.ref ah, .int x1] : List Value).toArray s = true := hts (.fieldLink RX3 21 "CoatsHall$Hall" "weight" "[I") (nq_m (n := 1) rfl)
  refine lv_iload_n hx hb (nq_d dX3_weightOf_0_g (n := 0) rfl) rfl (lv_at hl 1 rfl) ?_
  refine lv_iconst (v := (0 : Int32)) hx hb (nq_d dX3_weightOf_0_g (n := 1) rfl) (by decide) ?_
  refine lv_iconst (v := (2 : Int32)) hx hb (nq_d dX3_weightOf_0_g (n := 2) rfl) (by decide) ?_
  refine gx_ri (wr := [(ah, .inr (3, [.ref ah_kind, .ref ah_walk, .ref ah_share, .ref ah_weight, .int h_pegs, .int h_ticks, .int h_loss])), (ah_weight, .inl (cyI, 3, .inl h_weight))]) (va_runSN (As := [.int x1, .int (0 : Int32), .int (2 : Int32)]) (rest := []) ⟨hx, hb, hml, hown, hts⟩ (ct_H_within l dC dI cyB cyI cyJ cyZ  _ x1 (0 : Int32) (2 : Int32) _) ⟨va_cnB 3 hts gX3_weightOf_X10_within_n42 rfl rfl rfl (nw_11 hNw) (hts (.initialized RX10) (nq_m (n := 3) rfl)) cd_X10_within.2 ⟨Nat.le_of_ble_eq_true rfl, Nat.le_of_ble_eq_true rfl⟩, hts (.static yX10_within) (nq_m (n := 2) rfl), trivial⟩ (gx_preS hK hP hD hNw [] rfl (by decide) hw) rfl rfl hl.1 rfl (lv_room (Nat.le_of_ble_eq_true rfl)) (nq_d dX3_weightOf_0_g (n := 3) rfl) ⟨Nat.zero_le _, Nat.zero_le _⟩) hP hD hS hA [] [0, 1] [0, 1] rfl rfl (by decide) (by decide) (by decide) (fun _ => [(ah, .inr (3, [.ref ah_kind, .ref ah_walk, .ref ah_share, .ref ah_weight, .int h_pegs, .int h_ticks, .int h_loss])), (ah_weight, .inl (cyI, 3, .inl h_weight))]) (fun _ => rfl) (fun r1 u H locs hw hP hD hS => ?_)
  try dsimp only at hw hP hD
  refine gx_if_eq (tgt := 18) hx hb (nq_d dX3_weightOf_0_g (n := 4) rfl) (by decide) hw (fun hw => ?_) (fun hw => ?_)
  · refine lv_iconst (v := (0 : Int32)) hx hb (nq_d dX3_weightOf_0_g (n := 10) rfl) (by decide) ?_
    exact rt_i (A1 := A) hQ hx hb hr hlocks hP hD hS () [0, 1] rfl (by decide +kernel) hw (nq_d dX3_weightOf_0_g (n := 11) rfl)
  · refine lv_aload_n hx hb (nq_d dX3_weightOf_0_g (n := 5) rfl) rfl (lv_at hl 0 rfl) ?_
    refine va_get (D := (dC, dI)) (ci := 3) (v := .ref ah_weight) (C := RX3) (T := TX3) (N := 7) hx hb hts hi_X3 hown hK hP 0 rfl rfl 3 (by decide) hf21 (fun _ h9 => h9) rfl (nq_d dX3_weightOf_0_g (n := 6) rfl) ?_
    refine lv_iload_n hx hb (nq_d dX3_weightOf_0_g (n := 7) rfl) rfl (lv_at hl 1 rfl) ?_
    refine gx_iald hx hb hK hP 1 1 rfl rfl (nq_d dX3_weightOf_0_g (n := 8) rfl) hw (fun v2 hw => ?_)
    refine lv_goto (tgt := 19) hx hb (nq_d dX3_weightOf_0_g (n := 9) rfl) (by decide) ?_
    exact rt_i (A1 := A) hQ hx hb hr hlocks hP hD hS () [0, 1] rfl (by decide +kernel) hw (nq_d dX3_weightOf_0_g (n := 11) rfl)
abbrev rmX6_copyFrom : Room := { frames := 1, cells := 0, slots := 0, locals := 24 }
theorem cd_X6_copyFrom : yX6_copyFrom.cls = RX6 ∧ yX6_copyFrom.cls ≠ "java/lang/invoke/MethodHandle" ∧ yX6_copyFrom.cls ≠ "java/lang/invoke/VarHandle" ∧ (parseMethodDescriptor yX6_copyFrom.desc).map (fun d => d.parameters.length) = some 1 := by decide +kernel
set_option maxHeartbeats 4000000 in
set_option maxRecDepth 100000 in
theorem ct_Nights_copyFrom (l : Launch) (dC : Nat → ClassId) (dI : Nat → Nat → Nat) (cyB cyI cyJ cyZ : ClassId) (an an_left ayn ayn_left : Nat) (sz : Nat) (n_number : Int32) (yn_number : Int32) (n_left : Nat → Int32) (yn_left : Nat → Int32) (Q : Int → (Int → Int) → Prop) : Met l yX6_copyFrom wsX6_copyFrom rmX6_copyFrom (va_Pc [.ref an, .ref ayn] (cPre (dC, dI) vwCl (tyS cyB cyI cyJ cyZ) [(an, .inr (6, [.int n_number, .ref an_left])), (an_left, .inl (cyI, 24, .inl n_left)), (ayn, .inr (6, [.int yn_number, .ref ayn_left])), (ayn_left, .inl (cyI, 24, .inl yn_left))] sz (nf_Nights_copyFrom n_number.toInt (aI 24 n_left) yn_number.toInt (aI 24 yn_left)  Q))) (va_Qv (fun (u : Int32 × (Nat → Int32)) => Q (u.1).toInt (aI 24 (u.2))) (cPost (dC, dI) vwCl (fun u : Int32 × (Nat → Int32) => [(an, .inr (6, [.int u.1, .ref an_left])), (an_left, .inl (cyI, 24, .inl (u.2))), (ayn, .inr (6, [.int yn_number, .ref ayn_left])), (ayn_left, .inl (cyI, 24, .inl yn_left))]) (va_A [(an, .inr (6, [.int n_number, .ref an_left])), (an_left, .inl (cyI, 24, .inl n_left)), (ayn, .inr (6, [.int yn_number, .ref ayn_left])), (ayn_left, .inl (cyI, 24, .inl yn_left))] sz)) (va_A [(an, .inr (6, [.int n_number, .ref an_left])), (an_left, .inl (cyI, 24, .inl n_left)), (ayn, .inr (6, [.int yn_number, .ref ayn_left])), (ayn_left, .inl (cyI, 24, .inl yn_left))] sz)) 0 0 (va_A [(an, .inr (6, [.int n_number, .ref an_left])), (an_left, .inl (cyI, 24, .inl n_left)), (ayn, .inr (6, [.int yn_number, .ref ayn_left])), (ayn_left, .inl (cyI, 24, .inl yn_left))] sz) := by
  refine Met.ofW (cc := cX6_copyFrom) (maxL := 2) (ret := none) (by decide) rfl ?_
  intro p e s m args below meth c s₁ B hml hv
  obtain ⟨rfl, hsz, hP, hK, hD0, hNw, hw⟩ := hv
  have hx := B.exec
  have hb := B.bytes
  have hr := B.returns
  have hts := atoms_spec (ws := wsX6_copyFrom) B.pre
  have hown : s.vm.findClass RX6 = some m.cls := findClass_of_methodNamed B.named
  have hlocks := B.notSynchronized
  subst hsz
  have hD := hD0.self (sz := s.heap.size)
  generalize hAe : va_A [(an, .inr (6, [.int n_number, .ref an_left])), (an_left, .inl (cyI, 24, .inl n_left)), (ayn, .inr (6, [.int yn_number, .ref ayn_left])), (ayn_left, .inl (cyI, 24, .inl yn_left))] s.heap.size = A at hD ⊢
  have hA : ∀ q : Nat, s.heap.size ≤ q → A q := fun q h => by rw [← hAe]; exact Or.inr h
  have hS : va_S A s.heap s.heap [] := va_S.rf
  have hl := lv_entry ([.ref an, .ref ayn]) (n := 2) (Nat.le_of_ble_eq_true rfl)
  rw [lg_entry_eq]
  generalize (lg_sl ([.ref an, .ref ayn]) ++ List.replicate (2 - (lg_sl ([.ref an, .ref ayn])).length) Slot.unset).toArray = ls at hl ⊢
  have hl : lv_has ls 2 [(0, .ref an), (1, .ref ayn)] := hl
  refine gx_q (fun Q9 hQ => ?_)
  unfold nf_Nights_copyFrom at hw
  have hi_X6 : ∀ w ∈ wsX60, w ∈ wsX6_copyFrom := (sub_c (nq_m (n := 7) rfl) (sub_c (nq_m (n := 8) rfl) sub_n))
  have hf9 : (Cond.fieldLink RX6 9 "CoatsHall$Nights" (TX6 0).2.1 (TX6 0).2.2.1).before ([.ref an, .ref ayn] : List Value).toArray s = true := hts (.fieldLink RX6 9 "CoatsHall$Nights" "number" "I") (nq_m (n := 1) rfl)
  have hf15 : (Cond.fieldLink RX6 15 "CoatsHall$Nights" (TX6 1).2.1 (TX6 1).2.2.1).before ([.ref an, .ref ayn] : List Value).toArray s = true := hts (.fieldLink RX6 15 "CoatsHall$Nights" "left" "[I") (nq_m (n := 2) rfl)
  refine lv_aload_n hx hb (nq_d dX6_copyFrom_0_g (n := 0) rfl) rfl (lv_at hl 0 rfl) ?_
  refine lv_aload_n hx hb (nq_d dX6_copyFrom_0_g (n := 1) rfl) rfl (lv_at hl 1 rfl) ?_
  refine va_get (D := (dC, dI)) (ci := 6) (v := .int yn_number) (C := RX6) (T := TX6) (N := 2) hx hb hts hi_X6 hown hK hP 2 rfl rfl 0 (by decide) hf9 (fun _ h9 => h9) rfl (nq_d dX6_copyFrom_0_g (n := 2) rfl) ?_
  refine gx_put (D := (dC, dI)) (ci := 6) (v := .int yn_number) (ty := .int) (C := RX6) (T := TX6) (N := 2) hx hb hts hi_X6 tyX6 tyX6_ok nmX6 hown hK hP hD hS 0 rfl rfl 0 (by decide) hf9 (fun _ h9 => h9) rfl (by decide +kernel) rfl rfl (Nat.le_of_ble_eq_true rfl) (nq_d dX6_copyFrom_0_g (n := 3) rfl) [(an, .inr (6, [.int yn_number, .ref an_left])), (an_left, .inl (cyI, 24, .inl n_left)), (ayn, .inr (6, [.int yn_number, .ref ayn_left])), (ayn_left, .inl (cyI, 24, .inl yn_left))] rfl (fun H locs hP hD hS => ?_)
  refine lv_aload_n hx hb (nq_d dX6_copyFrom_0_g (n := 4) rfl) rfl (lv_at hl 1 rfl) ?_
  refine va_get (D := (dC, dI)) (ci := 6) (v := .ref ayn_left) (C := RX6) (T := TX6) (N := 2) hx hb hts hi_X6 hown hK hP 2 rfl rfl 1 (by decide) hf15 (fun _ h9 => h9) rfl (nq_d dX6_copyFrom_0_g (n := 5) rfl) ?_
  refine lv_iconst (v := (0 : Int32)) hx hb (nq_d dX6_copyFrom_0_g (n := 6) rfl) (by decide) ?_
  refine lv_aload_n hx hb (nq_d dX6_copyFrom_0_g (n := 7) rfl) rfl (lv_at hl 0 rfl) ?_
  refine va_get (D := (dC, dI)) (ci := 6) (v := .ref an_left) (C := RX6) (T := TX6) (N := 2) hx hb hts hi_X6 hown hK hP 0 rfl rfl 1 (by decide) hf15 (fun _ h9 => h9) rfl (nq_d dX6_copyFrom_0_g (n := 8) rfl) ?_
  refine lv_iconst (v := (0 : Int32)) hx hb (nq_d dX6_copyFrom_0_g (n := 9) rfl) (by decide) ?_
  refine lv_aload_n hx hb (nq_d dX6_copyFrom_0_g (n := 10) rfl) rfl (lv_at hl 0 rfl) ?_
  refine va_get (D := (dC, dI)) (ci := 6) (v := .ref an_left) (C := RX6) (T := TX6) (N := 2) hx hb hts hi_X6 hown hK hP 0 rfl rfl 1 (by decide) hf15 (fun _ h9 => h9) rfl (nq_d dX6_copyFrom_0_g (n := 11) rfl) ?_
  refine va_alen (v := (24 : Int32)) hx hb hK hP 1 1 rfl (ty := .int) rfl (show Int32.ofNat 24 = (24 : Int32) by decide) (nq_d dX6_copyFrom_0_g (n := 12) rfl) ?_
  refine gx_copy hx hb (hml.trans hl.1.symm) hown (hts (.methodLink RX6 19 arraycopyName) (nq_m (n := 3) rfl)) (hts (.native arraycopyName) (nq_m (n := 4) rfl)) (hts (.static arraycopyName) (nq_m (n := 5) rfl)) (hts (.initialized "java/lang/System") (nq_m (n := 6) rfl)) hK hP hD hS 3 1 1 rfl rfl rfl rfl (by decide) (by decide) (Nat.le_of_ble_eq_true rfl) (Nat.le_of_ble_eq_true rfl) (nq_d dX6_copyFrom_0_g (n := 13) rfl) (fun f1 => [(an, .inr (6, [.int yn_number, .ref an_left])), (an_left, .inl (cyI, 24, .inl f1)), (ayn, .inr (6, [.int yn_number, .ref ayn_left])), (ayn_left, .inl (cyI, 24, .inl yn_left))]) (fun _ => rfl) hw (fun f1 H locs hw hP hD hS => ?_)
  exact rt_v (A1 := A) hQ hx hb hr hlocks hP hD hS (yn_number, f1) [0, 1, 2, 3] rfl (by decide +kernel) hw (nq_d dX6_copyFrom_0_g (n := 14) rfl)
abbrev rmX4_copyFrom : Room := { frames := 2, cells := 0, slots := 0, locals := 45 }
theorem cd_X4_copyFrom : yX4_copyFrom.cls = RX4 ∧ yX4_copyFrom.cls ≠ "java/lang/invoke/MethodHandle" ∧ yX4_copyFrom.cls ≠ "java/lang/invoke/VarHandle" ∧ (parseMethodDescriptor yX4_copyFrom.desc).map (fun d => d.parameters.length) = some 1 := by decide +kernel
set_option maxHeartbeats 4000000 in
set_option maxRecDepth 100000 in
theorem ct_Image_copyFrom (l : Launch) (dC : Nat → ClassId) (dI : Nat → Nat → Nat) (cyB cyI cyJ cyZ : ClassId) (aw ag ag_sort ag_kind ag_tip ag_marks ag_brass ag_peg ag_has ae ae_facts ac ac_guest ac_yes ac_no an an_left ayw ayg ayg_sort ayg_kind ayg_tip ayg_marks ayg_brass ayg_peg ayg_has aye aye_facts ayc ayc_guest ayc_yes ayc_no ayn ayn_left : Nat) (sz : Nat) (w_kept : Int32) (g_number : Int32) (e_number : Int32) (c_number : Int32) (n_number : Int32) (yw_kept : Int32) (yg_number : Int32) (ye_number : Int32) (yc_number : Int32) (yn_number : Int32) (g_sort : Nat → Int32) (g_kind : Nat → Int32) (g_tip : Nat → Int32) (g_marks : Nat → Int32) (g_brass : Nat → Int32) (g_peg : Nat → Int32) (g_has : Nat → Int32) (e_facts : Nat → Int32) (c_guest : Nat → Int32) (c_yes : Nat → Int32) (c_no : Nat → Int32) (n_left : Nat → Int32) (yg_sort : Nat → Int32) (yg_kind : Nat → Int32) (yg_tip : Nat → Int32) (yg_marks : Nat → Int32) (yg_brass : Nat → Int32) (yg_peg : Nat → Int32) (yg_has : Nat → Int32) (ye_facts : Nat → Int32) (yc_guest : Nat → Int32) (yc_yes : Nat → Int32) (yc_no : Nat → Int32) (yn_left : Nat → Int32) (Q : Int → (Int → Int) → (Int → Int) → (Int → Int) → (Int → Int) → (Int → Int) → (Int → Int) → (Int → Int) → Int → (Int → Int) → Int → (Int → Int) → (Int → Int) → (Int → Int) → Int → (Int → Int) → Prop) : Met l yX4_copyFrom wsX4_copyFrom rmX4_copyFrom (va_Pc [.ref aw, .ref ayw] (cPre (dC, dI) vwCl (tyS cyB cyI cyJ cyZ) [(aw, .inr (4, [.ref ag, .ref ae, .ref ac, .ref an, .int w_kept])), (ag, .inr (2, [.int g_number, .ref ag_sort, .ref ag_kind, .ref ag_tip, .ref ag_marks, .ref ag_brass, .ref ag_peg, .ref ag_has])), (ag_sort, .inl (cyI, 16, .inl g_sort)), (ag_kind, .inl (cyI, 16, .inl g_kind)), (ag_tip, .inl (cyI, 16, .inl g_tip)), (ag_marks, .inl (cyI, 16, .inl g_marks)), (ag_brass, .inl (cyI, 16, .inl g_brass)), (ag_peg, .inl (cyI, 16, .inl g_peg)), (ag_has, .inl (cyI, 16, .inl g_has)), (ae, .inr (1, [.int e_number, .ref ae_facts])), (ae_facts, .inl (cyI, 420, .inl e_facts)), (ac, .inr (0, [.int c_number, .ref ac_guest, .ref ac_yes, .ref ac_no])), (ac_guest, .inl (cyI, 6, .inl c_guest)), (ac_yes, .inl (cyI, 6, .inl c_yes)), (ac_no, .inl (cyI, 6, .inl c_no)), (an, .inr (6, [.int n_number, .ref an_left])), (an_left, .inl (cyI, 24, .inl n_left)), (ayw, .inr (4, [.ref ayg, .ref aye, .ref ayc, .ref ayn, .int yw_kept])), (ayg, .inr (2, [.int yg_number, .ref ayg_sort, .ref ayg_kind, .ref ayg_tip, .ref ayg_marks, .ref ayg_brass, .ref ayg_peg, .ref ayg_has])), (ayg_sort, .inl (cyI, 16, .inl yg_sort)), (ayg_kind, .inl (cyI, 16, .inl yg_kind)), (ayg_tip, .inl (cyI, 16, .inl yg_tip)), (ayg_marks, .inl (cyI, 16, .inl yg_marks)), (ayg_brass, .inl (cyI, 16, .inl yg_brass)), (ayg_peg, .inl (cyI, 16, .inl yg_peg)), (ayg_has, .inl (cyI, 16, .inl yg_has)), (aye, .inr (1, [.int ye_number, .ref aye_facts])), (aye_facts, .inl (cyI, 420, .inl ye_facts)), (ayc, .inr (0, [.int yc_number, .ref ayc_guest, .ref ayc_yes, .ref ayc_no])), (ayc_guest, .inl (cyI, 6, .inl yc_guest)), (ayc_yes, .inl (cyI, 6, .inl yc_yes)), (ayc_no, .inl (cyI, 6, .inl yc_no)), (ayn, .inr (6, [.int yn_number, .ref ayn_left])), (ayn_left, .inl (cyI, 24, .inl yn_left))] sz (nf_Image_copyFrom g_number.toInt (aI 16 g_sort) (aI 16 g_kind) (aI 16 g_tip) (aI 16 g_marks) (aI 16 g_brass) (aI 16 g_peg) (aI 16 g_has) e_number.toInt (aI 420 e_facts) c_number.toInt (aI 6 c_guest) (aI 6 c_yes) (aI 6 c_no) n_number.toInt (aI 24 n_left) yg_number.toInt (aI 16 yg_sort) (aI 16 yg_kind) (aI 16 yg_tip) (aI 16 yg_marks) (aI 16 yg_brass) (aI 16 yg_peg) (aI 16 yg_has) ye_number.toInt (aI 420 ye_facts) yc_number.toInt (aI 6 yc_guest) (aI 6 yc_yes) (aI 6 yc_no) yn_number.toInt (aI 24 yn_left)  Q))) (va_Qv (fun (u : Int32 × (Nat → Int32) × (Nat → Int32) × (Nat → Int32) × (Nat → Int32) × (Nat → Int32) × (Nat → Int32) × (Nat → Int32) × Int32 × (Nat → Int32) × Int32 × (Nat → Int32) × (Nat → Int32) × (Nat → Int32) × Int32 × (Nat → Int32)) => Q (u.1).toInt (aI 16 (u.2.1)) (aI 16 (u.2.2.1)) (aI 16 (u.2.2.2.1)) (aI 16 (u.2.2.2.2.1)) (aI 16 (u.2.2.2.2.2.1)) (aI 16 (u.2.2.2.2.2.2.1)) (aI 16 (u.2.2.2.2.2.2.2.1)) (u.2.2.2.2.2.2.2.2.1).toInt (aI 420 (u.2.2.2.2.2.2.2.2.2.1)) (u.2.2.2.2.2.2.2.2.2.2.1).toInt (aI 6 (u.2.2.2.2.2.2.2.2.2.2.2.1)) (aI 6 (u.2.2.2.2.2.2.2.2.2.2.2.2.1)) (aI 6 (u.2.2.2.2.2.2.2.2.2.2.2.2.2.1)) (u.2.2.2.2.2.2.2.2.2.2.2.2.2.2.1).toInt (aI 24 (u.2.2.2.2.2.2.2.2.2.2.2.2.2.2.2))) (cPost (dC, dI) vwCl (fun u : Int32 × (Nat → Int32) × (Nat → Int32) × (Nat → Int32) × (Nat → Int32) × (Nat → Int32) × (Nat → Int32) × (Nat → Int32) × Int32 × (Nat → Int32) × Int32 × (Nat → Int32) × (Nat → Int32) × (Nat → Int32) × Int32 × (Nat → Int32) => [(aw, .inr (4, [.ref ag, .ref ae, .ref ac, .ref an, .int w_kept])), (ag, .inr (2, [.int u.1, .ref ag_sort, .ref ag_kind, .ref ag_tip, .ref ag_marks, .ref ag_brass, .ref ag_peg, .ref ag_has])), (ag_sort, .inl (cyI, 16, .inl (u.2.1))), (ag_kind, .inl (cyI, 16, .inl (u.2.2.1))), (ag_tip, .inl (cyI, 16, .inl (u.2.2.2.1))), (ag_marks, .inl (cyI, 16, .inl (u.2.2.2.2.1))), (ag_brass, .inl (cyI, 16, .inl (u.2.2.2.2.2.1))), (ag_peg, .inl (cyI, 16, .inl (u.2.2.2.2.2.2.1))), (ag_has, .inl (cyI, 16, .inl (u.2.2.2.2.2.2.2.1))), (ae, .inr (1, [.int u.2.2.2.2.2.2.2.2.1, .ref ae_facts])), (ae_facts, .inl (cyI, 420, .inl (u.2.2.2.2.2.2.2.2.2.1))), (ac, .inr (0, [.int u.2.2.2.2.2.2.2.2.2.2.1, .ref ac_guest, .ref ac_yes, .ref ac_no])), (ac_guest, .inl (cyI, 6, .inl (u.2.2.2.2.2.2.2.2.2.2.2.1))), (ac_yes, .inl (cyI, 6, .inl (u.2.2.2.2.2.2.2.2.2.2.2.2.1))), (ac_no, .inl (cyI, 6, .inl (u.2.2.2.2.2.2.2.2.2.2.2.2.2.1))), (an, .inr (6, [.int u.2.2.2.2.2.2.2.2.2.2.2.2.2.2.1, .ref an_left])), (an_left, .inl (cyI, 24, .inl (u.2.2.2.2.2.2.2.2.2.2.2.2.2.2.2))), (ayw, .inr (4, [.ref ayg, .ref aye, .ref ayc, .ref ayn, .int yw_kept])), (ayg, .inr (2, [.int yg_number, .ref ayg_sort, .ref ayg_kind, .ref ayg_tip, .ref ayg_marks, .ref ayg_brass, .ref ayg_peg, .ref ayg_has])), (ayg_sort, .inl (cyI, 16, .inl yg_sort)), (ayg_kind, .inl (cyI, 16, .inl yg_kind)), (ayg_tip, .inl (cyI, 16, .inl yg_tip)), (ayg_marks, .inl (cyI, 16, .inl yg_marks)), (ayg_brass, .inl (cyI, 16, .inl yg_brass)), (ayg_peg, .inl (cyI, 16, .inl yg_peg)), (ayg_has, .inl (cyI, 16, .inl yg_has)), (aye, .inr (1, [.int ye_number, .ref aye_facts])), (aye_facts, .inl (cyI, 420, .inl ye_facts)), (ayc, .inr (0, [.int yc_number, .ref ayc_guest, .ref ayc_yes, .ref ayc_no])), (ayc_guest, .inl (cyI, 6, .inl yc_guest)), (ayc_yes, .inl (cyI, 6, .inl yc_yes)), (ayc_no, .inl (cyI, 6, .inl yc_no)), (ayn, .inr (6, [.int yn_number, .ref ayn_left])), (ayn_left, .inl (cyI, 24, .inl yn_left))]) (va_A [(aw, .inr (4, [.ref ag, .ref ae, .ref ac, .ref an, .int w_kept])), (ag, .inr (2, [.int g_number, .ref ag_sort, .ref ag_kind, .ref ag_tip, .ref ag_marks, .ref ag_brass, .ref ag_peg, .ref ag_has])), (ag_sort, .inl (cyI, 16, .inl g_sort)), (ag_kind, .inl (cyI, 16, .inl g_kind)), (ag_tip, .inl (cyI, 16, .inl g_tip)), (ag_marks, .inl (cyI, 16, .inl g_marks)), (ag_brass, .inl (cyI, 16, .inl g_brass)), (ag_peg, .inl (cyI, 16, .inl g_peg)), (ag_has, .inl (cyI, 16, .inl g_has)), (ae, .inr (1, [.int e_number, .ref ae_facts])), (ae_facts, .inl (cyI, 420, .inl e_facts)), (ac, .inr (0, [.int c_number, .ref ac_guest, .ref ac_yes, .ref ac_no])), (ac_guest, .inl (cyI, 6, .inl c_guest)), (ac_yes, .inl (cyI, 6, .inl c_yes)), (ac_no, .inl (cyI, 6, .inl c_no)), (an, .inr (6, [.int n_number, .ref an_left])), (an_left, .inl (cyI, 24, .inl n_left)), (ayw, .inr (4, [.ref ayg, .ref aye, .ref ayc, .ref ayn, .int yw_kept])), (ayg, .inr (2, [.int yg_number, .ref ayg_sort, .ref ayg_kind, .ref ayg_tip, .ref ayg_marks, .ref ayg_brass, .ref ayg_peg, .ref ayg_has])), (ayg_sort, .inl (cyI, 16, .inl yg_sort)), (ayg_kind, .inl (cyI, 16, .inl yg_kind)), (ayg_tip, .inl (cyI, 16, .inl yg_tip)), (ayg_marks, .inl (cyI, 16, .inl yg_marks)), (ayg_brass, .inl (cyI, 16, .inl yg_brass)), (ayg_peg, .inl (cyI, 16, .inl yg_peg)), (ayg_has, .inl (cyI, 16, .inl yg_has)), (aye, .inr (1, [.int ye_number, .ref aye_facts])), (aye_facts, .inl (cyI, 420, .inl ye_facts)), (ayc, .inr (0, [.int yc_number, .ref ayc_guest, .ref ayc_yes, .ref ayc_no])), (ayc_guest, .inl (cyI, 6, .inl yc_guest)), (ayc_yes, .inl (cyI, 6, .inl yc_yes)), (ayc_no, .inl (cyI, 6, .inl yc_no)), (ayn, .inr (6, [.int yn_number, .ref ayn_left])), (ayn_left, .inl (cyI, 24, .inl yn_left))] sz)) (va_A [(aw, .inr (4, [.ref ag, .ref ae, .ref ac, .ref an, .int w_kept])), (ag, .inr (2, [.int g_number, .ref ag_sort, .ref ag_kind, .ref ag_tip, .ref ag_marks, .ref ag_brass, .ref ag_peg, .ref ag_has])), (ag_sort, .inl (cyI, 16, .inl g_sort)), (ag_kind, .inl (cyI, 16, .inl g_kind)), (ag_tip, .inl (cyI, 16, .inl g_tip)), (ag_marks, .inl (cyI, 16, .inl g_marks)), (ag_brass, .inl (cyI, 16, .inl g_brass)), (ag_peg, .inl (cyI, 16, .inl g_peg)), (ag_has, .inl (cyI, 16, .inl g_has)), (ae, .inr (1, [.int e_number, .ref ae_facts])), (ae_facts, .inl (cyI, 420, .inl e_facts)), (ac, .inr (0, [.int c_number, .ref ac_guest, .ref ac_yes, .ref ac_no])), (ac_guest, .inl (cyI, 6, .inl c_guest)), (ac_yes, .inl (cyI, 6, .inl c_yes)), (ac_no, .inl (cyI, 6, .inl c_no)), (an, .inr (6, [.int n_number, .ref an_left])), (an_left, .inl (cyI, 24, .inl n_left)), (ayw, .inr (4, [.ref ayg, .ref aye, .ref ayc, .ref ayn, .int yw_kept])), (ayg, .inr (2, [.int yg_number, .ref ayg_sort, .ref ayg_kind, .ref ayg_tip, .ref ayg_marks, .ref ayg_brass, .ref ayg_peg, .ref ayg_has])), (ayg_sort, .inl (cyI, 16, .inl yg_sort)), (ayg_kind, .inl (cyI, 16, .inl yg_kind)), (ayg_tip, .inl (cyI, 16, .inl yg_tip)), (ayg_marks, .inl (cyI, 16, .inl yg_marks)), (ayg_brass, .inl (cyI, 16, .inl yg_brass)), (ayg_peg, .inl (cyI, 16, .inl yg_peg)), (ayg_has, .inl (cyI, 16, .inl yg_has)), (aye, .inr (1, [.int ye_number, .ref aye_facts])), (aye_facts, .inl (cyI, 420, .inl ye_facts)), (ayc, .inr (0, [.int yc_number, .ref ayc_guest, .ref ayc_yes, .ref ayc_no])), (ayc_guest, .inl (cyI, 6, .inl yc_guest)), (ayc_yes, .inl (cyI, 6, .inl yc_yes)), (ayc_no, .inl (cyI, 6, .inl yc_no)), (ayn, .inr (6, [.int yn_number, .ref ayn_left])), (ayn_left, .inl (cyI, 24, .inl yn_left))] sz)) 0 0 (va_A [(aw, .inr (4, [.ref ag, .ref ae, .ref ac, .ref an, .int w_kept])), (ag, .inr (2, [.int g_number, .ref ag_sort, .ref ag_kind, .ref ag_tip, .ref ag_marks, .ref ag_brass, .ref ag_peg, .ref ag_has])), (ag_sort, .inl (cyI, 16, .inl g_sort)), (ag_kind, .inl (cyI, 16, .inl g_kind)), (ag_tip, .inl (cyI, 16, .inl g_tip)), (ag_marks, .inl (cyI, 16, .inl g_marks)), (ag_brass, .inl (cyI, 16, .inl g_brass)), (ag_peg, .inl (cyI, 16, .inl g_peg)), (ag_has, .inl (cyI, 16, .inl g_has)), (ae, .inr (1, [.int e_number, .ref ae_facts])), (ae_facts, .inl (cyI, 420, .inl e_facts)), (ac, .inr (0, [.int c_number, .ref ac_guest, .ref ac_yes, .ref ac_no])), (ac_guest, .inl (cyI, 6, .inl c_guest)), (ac_yes, .inl (cyI, 6, .inl c_yes)), (ac_no, .inl (cyI, 6, .inl c_no)), (an, .inr (6, [.int n_number, .ref an_left])), (an_left, .inl (cyI, 24, .inl n_left)), (ayw, .inr (4, [.ref ayg, .ref aye, .ref ayc, .ref ayn, .int yw_kept])), (ayg, .inr (2, [.int yg_number, .ref ayg_sort, .ref ayg_kind, .ref ayg_tip, .ref ayg_marks, .ref ayg_brass, .ref ayg_peg, .ref ayg_has])), (ayg_sort, .inl (cyI, 16, .inl yg_sort)), (ayg_kind, .inl (cyI, 16, .inl yg_kind)), (ayg_tip, .inl (cyI, 16, .inl yg_tip)), (ayg_marks, .inl (cyI, 16, .inl yg_marks)), (ayg_brass, .inl (cyI, 16, .inl yg_brass)), (ayg_peg, .inl (cyI, 16, .inl yg_peg)), (ayg_has, .inl (cyI, 16, .inl yg_has)), (aye, .inr (1, [.int ye_number, .ref aye_facts])), (aye_facts, .inl (cyI, 420, .inl ye_facts)), (ayc, .inr (0, [.int yc_number, .ref ayc_guest, .ref ayc_yes, .ref ayc_no])), (ayc_guest, .inl (cyI, 6, .inl yc_guest)), (ayc_yes, .inl (cyI, 6, .inl yc_yes)), (ayc_no, .inl (cyI, 6, .inl yc_no)), (ayn, .inr (6, [.int yn_number, .ref ayn_left])), (ayn_left, .inl (cyI, 24, .inl yn_left))] sz) := by
  refine Met.ofW (cc := cX4_copyFrom) (maxL := 2) (ret := none) (by decide) rfl ?_
  intro p e s m args below meth c s₁ B hml hv
  obtain ⟨rfl, hsz, hP, hK, hD0, hNw, hw⟩ := hv
  have hx := B.exec
  have hb := B.bytes
  have hr := B.returns
  have hts := atoms_spec (ws := wsX4_copyFrom) B.pre
  have hown : s.vm.findClass RX4 = some m.cls := findClass_of_methodNamed B.named
  have hlocks := B.notSynchronized
  subst hsz
  have hD := hD0.self (sz := s.heap.size)
  generalize hAe : va_A [(aw, .inr (4, [.ref ag, .ref ae, .ref ac, .ref an, .int w_kept])), (ag, .inr (2, [.int g_number, .ref ag_sort, .ref ag_kind, .ref ag_tip, .ref ag_marks, .ref ag_brass, .ref ag_peg, .ref ag_has])), (ag_sort, .inl (cyI, 16, .inl g_sort)), (ag_kind, .inl (cyI, 16, .inl g_kind)), (ag_tip, .inl (cyI, 16, .inl g_tip)), (ag_marks, .inl (cyI, 16, .inl g_marks)), (ag_brass, .inl (cyI, 16, .inl g_brass)), (ag_peg, .inl (cyI, 16, .inl g_peg)), (ag_has, .inl (cyI, 16, .inl g_has)), (ae, .inr (1, [.int e_number, .ref ae_facts])), (ae_facts, .inl (cyI, 420, .inl e_facts)), (ac, .inr (0, [.int c_number, .ref ac_guest, .ref ac_yes, .ref ac_no])), (ac_guest, .inl (cyI, 6, .inl c_guest)), (ac_yes, .inl (cyI, 6, .inl c_yes)), (ac_no, .inl (cyI, 6, .inl c_no)), (an, .inr (6, [.int n_number, .ref an_left])), (an_left, .inl (cyI, 24, .inl n_left)), (ayw, .inr (4, [.ref ayg, .ref aye, .ref ayc, .ref ayn, .int yw_kept])), (ayg, .inr (2, [.int yg_number, .ref ayg_sort, .ref ayg_kind, .ref ayg_tip, .ref ayg_marks, .ref ayg_brass, .ref ayg_peg, .ref ayg_has])), (ayg_sort, .inl (cyI, 16, .inl yg_sort)), (ayg_kind, .inl (cyI, 16, .inl yg_kind)), (ayg_tip, .inl (cyI, 16, .inl yg_tip)), (ayg_marks, .inl (cyI, 16, .inl yg_marks)), (ayg_brass, .inl (cyI, 16, .inl yg_brass)), (ayg_peg, .inl (cyI, 16, .inl yg_peg)), (ayg_has, .inl (cyI, 16, .inl yg_has)), (aye, .inr (1, [.int ye_number, .ref aye_facts])), (aye_facts, .inl (cyI, 420, .inl ye_facts)), (ayc, .inr (0, [.int yc_number, .ref ayc_guest, .ref ayc_yes, .ref ayc_no])), (ayc_guest, .inl (cyI, 6, .inl yc_guest)), (ayc_yes, .inl (cyI, 6, .inl yc_yes)), (ayc_no, .inl (cyI, 6, .inl yc_no)), (ayn, .inr (6, [.int yn_number, .ref ayn_left])), (ayn_left, .inl (cyI, 24, .inl yn_left))] s.heap.size = A at hD ⊢
  have hA : ∀ q : Nat, s.heap.size ≤ q → A q := fun q h => by rw [← hAe]; exact Or.inr h
  have hS : va_S A s.heap s.heap [] := va_S.rf
  have hl := lv_entry ([.ref aw, .ref ayw]) (n := 2) (Nat.le_of_ble_eq_true rfl)
  rw [lg_entry_eq]
  generalize (lg_sl ([.ref aw, .ref ayw]) ++ List.replicate (2 - (lg_sl ([.ref aw, .ref ayw])).length) Slot.unset).toArray = ls at hl ⊢
  have hl : lv_has ls 2 [(0, .ref aw), (1, .ref ayw)] := hl
  refine gx_q (fun Q9 hQ => ?_)
  unfold nf_Image_copyFrom at hw
  have hi_X4 : ∀ w ∈ wsX40, w ∈ wsX4_copyFrom := (sub_c (nq_m (n := 48) rfl) (sub_c (nq_m (n := 49) rfl) (sub_c (nq_m (n := 50) rfl) (sub_c (nq_m (n := 51) rfl) (sub_c (nq_m (n := 52) rfl) sub_n)))))
  have hf10 : (Cond.fieldLink RX4 10 "CoatsHall$Image" (TX4 0).2.1 (TX4 0).2.2.1).before ([.ref aw, .ref ayw] : List Value).toArray s = true := hts (.fieldLink RX4 10 "CoatsHall$Image" "guests" "LCoatsHall$Guests;") (nq_m (n := 1) rfl)
  have hf19 : (Cond.fieldLink RX4 19 "CoatsHall$Image" (TX4 1).2.1 (TX4 1).2.2.1).before ([.ref aw, .ref ayw] : List Value).toArray s = true := hts (.fieldLink RX4 19 "CoatsHall$Image" "events" "LCoatsHall$Events;") (nq_m (n := 2) rfl)
  have hf26 : (Cond.fieldLink RX4 26 "CoatsHall$Image" (TX4 2).2.1 (TX4 2).2.2.1).before ([.ref aw, .ref ayw] : List Value).toArray s = true := hts (.fieldLink RX4 26 "CoatsHall$Image" "claims" "LCoatsHall$Claims;") (nq_m (n := 3) rfl)
  have hf33 : (Cond.fieldLink RX4 33 "CoatsHall$Image" (TX4 3).2.1 (TX4 3).2.2.1).before ([.ref aw, .ref ayw] : List Value).toArray s = true := hts (.fieldLink RX4 33 "CoatsHall$Image" "nights" "LCoatsHall$Nights;") (nq_m (n := 4) rfl)
  refine lv_aload_n hx hb (nq_d dX4_copyFrom_0_g (n := 0) rfl) rfl (lv_at hl 0 rfl) ?_
  refine va_get (D := (dC, dI)) (ci := 4) (v := .ref ag) (C := RX4) (T := TX4) (N := 5) hx hb hts hi_X4 hown hK hP 0 rfl rfl 0 (by decide) hf10 (fun _ h9 => h9) rfl (nq_d dX4_copyFrom_0_g (n := 1) rfl) ?_
  refine lv_aload_n hx hb (nq_d dX4_copyFrom_0_g (n := 2) rfl) rfl (lv_at hl 1 rfl) ?_
  refine va_get (D := (dC, dI)) (ci := 4) (v := .ref ayg) (C := RX4) (T := TX4) (N := 5) hx hb hts hi_X4 hown hK hP 17 rfl rfl 0 (by decide) hf10 (fun _ h9 => h9) rfl (nq_d dX4_copyFrom_0_g (n := 3) rfl) ?_
  refine gx_rv (wr := [(aw, .inr (4, [.ref ag, .ref ae, .ref ac, .ref an, .int w_kept])), (ae, .inr (1, [.int e_number, .ref ae_facts])), (ae_facts, .inl (cyI, 420, .inl e_facts)), (ac, .inr (0, [.int c_number, .ref ac_guest, .ref ac_yes, .ref ac_no])), (ac_guest, .inl (cyI, 6, .inl c_guest)), (ac_yes, .inl (cyI, 6, .inl c_yes)), (ac_no, .inl (cyI, 6, .inl c_no)), (an, .inr (6, [.int n_number, .ref an_left])), (an_left, .inl (cyI, 24, .inl n_left)), (ayw, .inr (4, [.ref ayg, .ref aye, .ref ayc, .ref ayn, .int yw_kept])), (aye, .inr (1, [.int ye_number, .ref aye_facts])), (aye_facts, .inl (cyI, 420, .inl ye_facts)), (ayc, .inr (0, [.int yc_number, .ref ayc_guest, .ref ayc_yes, .ref ayc_no])), (ayc_guest, .inl (cyI, 6, .inl yc_guest)), (ayc_yes, .inl (cyI, 6, .inl yc_yes)), (ayc_no, .inl (cyI, 6, .inl yc_no)), (ayn, .inr (6, [.int yn_number, .ref ayn_left])), (ayn_left, .inl (cyI, 24, .inl yn_left))]) (va_runV (As := [.ref ayg]) (rest := []) ⟨hx, hb, hml, hown, hts⟩ (ct_Guests_copyFrom l dC dI cyB cyI cyJ cyZ ag ag_sort ag_kind ag_tip ag_marks ag_brass ag_peg ag_has ayg ayg_sort ayg_kind ayg_tip ayg_marks ayg_brass ayg_peg ayg_has _ g_number yg_number g_sort g_kind g_tip g_marks g_brass g_peg g_has yg_sort yg_kind yg_tip yg_marks yg_brass yg_peg yg_has _) (cwV 1 hts gX4_copyFrom_X2_copyFrom rfl rfl rfl cd_X2_copyFrom ⟨Nat.le_of_ble_eq_true rfl, Nat.le_of_ble_eq_true rfl⟩) (gx_preV hK hP hD hNw [1, 2, 3, 4, 5, 6, 7, 8, 18, 19, 20, 21, 22, 23, 24, 25] rfl (by decide +kernel) hw 1 (ci := 2) rfl rfl rfl) rfl rfl hl.1 rfl (lv_room (Nat.le_of_ble_eq_true rfl)) (nq_d dX4_copyFrom_0_g (n := 4) rfl) ⟨Nat.zero_le _, Nat.zero_le _⟩) hP hD hS hA [1, 2, 3, 4, 5, 6, 7, 8, 18, 19, 20, 21, 22, 23, 24, 25] [0, 9, 10, 11, 12, 13, 14, 15, 16, 17, 26, 27, 28, 29, 30, 31, 32, 33] [0, 18, 19, 20, 21, 22, 23, 24, 25, 1, 2, 3, 4, 5, 6, 7, 8, 9, 26, 27, 28, 29, 30, 31, 32, 33, 10, 11, 12, 13, 14, 15, 16, 17] rfl (pk_R [true, false, false, false, false, false, false, false, false, true, true, true, true, true, true, true, true, true, false, false, false, false, false, false, false, false, true, true, true, true, true, true, true, true] (by decide +kernel) rfl rfl) (by decide +kernel) (by decide +kernel) (by decide +kernel) (fun u => [(aw, .inr (4, [.ref ag, .ref ae, .ref ac, .ref an, .int w_kept])), (ag, .inr (2, [.int (u.1), .ref ag_sort, .ref ag_kind, .ref ag_tip, .ref ag_marks, .ref ag_brass, .ref ag_peg, .ref ag_has])), (ag_sort, .inl (cyI, 16, .inl (u.2.1))), (ag_kind, .inl (cyI, 16, .inl (u.2.2.1))), (ag_tip, .inl (cyI, 16, .inl (u.2.2.2.1))), (ag_marks, .inl (cyI, 16, .inl (u.2.2.2.2.1))), (ag_brass, .inl (cyI, 16, .inl (u.2.2.2.2.2.1))), (ag_peg, .inl (cyI, 16, .inl (u.2.2.2.2.2.2.1))), (ag_has, .inl (cyI, 16, .inl (u.2.2.2.2.2.2.2))), (ae, .inr (1, [.int e_number, .ref ae_facts])), (ae_facts, .inl (cyI, 420, .inl e_facts)), (ac, .inr (0, [.int c_number, .ref ac_guest, .ref ac_yes, .ref ac_no])), (ac_guest, .inl (cyI, 6, .inl c_guest)), (ac_yes, .inl (cyI, 6, .inl c_yes)), (ac_no, .inl (cyI, 6, .inl c_no)), (an, .inr (6, [.int n_number, .ref an_left])), (an_left, .inl (cyI, 24, .inl n_left)), (ayw, .inr (4, [.ref ayg, .ref aye, .ref ayc, .ref ayn, .int yw_kept])), (ayg, .inr (2, [.int yg_number, .ref ayg_sort, .ref ayg_kind, .ref ayg_tip, .ref ayg_marks, .ref ayg_brass, .ref ayg_peg, .ref ayg_has])), (ayg_sort, .inl (cyI, 16, .inl yg_sort)), (ayg_kind, .inl (cyI, 16, .inl yg_kind)), (ayg_tip, .inl (cyI, 16, .inl yg_tip)), (ayg_marks, .inl (cyI, 16, .inl yg_marks)), (ayg_brass, .inl (cyI, 16, .inl yg_brass)), (ayg_peg, .inl (cyI, 16, .inl yg_peg)), (ayg_has, .inl (cyI, 16, .inl yg_has)), (aye, .inr (1, [.int ye_number, .ref aye_facts])), (aye_facts, .inl (cyI, 420, .inl ye_facts)), (ayc, .inr (0, [.int yc_number, .ref ayc_guest, .ref ayc_yes, .ref ayc_no])), (ayc_guest, .inl (cyI, 6, .inl yc_guest)), (ayc_yes, .inl (cyI, 6, .inl yc_yes)), (ayc_no, .inl (cyI, 6, .inl yc_no)), (ayn, .inr (6, [.int yn_number, .ref ayn_left])), (ayn_left, .inl (cyI, 24, .inl yn_left))]) (fun _ => mg_N [none, some 0, some 1, some 2, some 3, some 4, some 5, some 6, some 7, none, none, none, none, none, none, none, none, none, some 8, some 9, some 10, some 11, some 12, some 13, some 14, some 15, none, none, none, none, none, none, none, none] 18 (by decide +kernel) (by decide +kernel) rfl rfl) (fun u H locs hw hP hD hS => ?_)
  obtain ⟨z1, f2, f3, f4, f5, f6, f7, f8⟩ := u
  try dsimp only at hw hP hD
  refine lv_aload_n hx hb (nq_d dX4_copyFrom_0_g (n := 5) rfl) rfl (lv_at hl 0 rfl) ?_
  refine va_get (D := (dC, dI)) (ci := 4) (v := .ref ae) (C := RX4) (T := TX4) (N := 5) hx hb hts hi_X4 hown hK hP 0 rfl rfl 1 (by decide) hf19 (fun _ h9 => h9) rfl (nq_d dX4_copyFrom_0_g (n := 6) rfl) ?_
  refine lv_aload_n hx hb (nq_d dX4_copyFrom_0_g (n := 7) rfl) rfl (lv_at hl 1 rfl) ?_
  refine va_get (D := (dC, dI)) (ci := 4) (v := .ref aye) (C := RX4) (T := TX4) (N := 5) hx hb hts hi_X4 hown hK hP 17 rfl rfl 1 (by decide) hf19 (fun _ h9 => h9) rfl (nq_d dX4_copyFrom_0_g (n := 8) rfl) ?_
  refine gx_rv (wr := [(aw, .inr (4, [.ref ag, .ref ae, .ref ac, .ref an, .int w_kept])), (ag, .inr (2, [.int z1, .ref ag_sort, .ref ag_kind, .ref ag_tip, .ref ag_marks, .ref ag_brass, .ref ag_peg, .ref ag_has])), (ag_sort, .inl (cyI, 16, .inl f2)), (ag_kind, .inl (cyI, 16, .inl f3)), (ag_tip, .inl (cyI, 16, .inl f4)), (ag_marks, .inl (cyI, 16, .inl f5)), (ag_brass, .inl (cyI, 16, .inl f6)), (ag_peg, .inl (cyI, 16, .inl f7)), (ag_has, .inl (cyI, 16, .inl f8)), (ac, .inr (0, [.int c_number, .ref ac_guest, .ref ac_yes, .ref ac_no])), (ac_guest, .inl (cyI, 6, .inl c_guest)), (ac_yes, .inl (cyI, 6, .inl c_yes)), (ac_no, .inl (cyI, 6, .inl c_no)), (an, .inr (6, [.int n_number, .ref an_left])), (an_left, .inl (cyI, 24, .inl n_left)), (ayw, .inr (4, [.ref ayg, .ref aye, .ref ayc, .ref ayn, .int yw_kept])), (ayg, .inr (2, [.int yg_number, .ref ayg_sort, .ref ayg_kind, .ref ayg_tip, .ref ayg_marks, .ref ayg_brass, .ref ayg_peg, .ref ayg_has])), (ayg_sort, .inl (cyI, 16, .inl yg_sort)), (ayg_kind, .inl (cyI, 16, .inl yg_kind)), (ayg_tip, .inl (cyI, 16, .inl yg_tip)), (ayg_marks, .inl (cyI, 16, .inl yg_marks)), (ayg_brass, .inl (cyI, 16, .inl yg_brass)), (ayg_peg, .inl (cyI, 16, .inl yg_peg)), (ayg_has, .inl (cyI, 16, .inl yg_has)), (ayc, .inr (0, [.int yc_number, .ref ayc_guest, .ref ayc_yes, .ref ayc_no])), (ayc_guest, .inl (cyI, 6, .inl yc_guest)), (ayc_yes, .inl (cyI, 6, .inl yc_yes)), (ayc_no, .inl (cyI, 6, .inl yc_no)), (ayn, .inr (6, [.int yn_number, .ref ayn_left])), (ayn_left, .inl (cyI, 24, .inl yn_left))]) (va_runV (As := [.ref aye]) (rest := []) ⟨hx, hb, hml, hown, hts⟩ (ct_Events_copyFrom l dC dI cyB cyI cyJ cyZ ae ae_facts aye aye_facts _ e_number ye_number e_facts ye_facts _) (cwV 1 hts gX4_copyFrom_X1_copyFrom rfl rfl rfl cd_X1_copyFrom ⟨Nat.le_of_ble_eq_true rfl, Nat.le_of_ble_eq_true rfl⟩) (gx_preV hK hP hD hNw [9, 10, 26, 27] rfl (by decide +kernel) hw 9 (ci := 1) rfl rfl rfl) rfl rfl hl.1 rfl (lv_room (Nat.le_of_ble_eq_true rfl)) (nq_d dX4_copyFrom_0_g (n := 9) rfl) ⟨Nat.zero_le _, Nat.zero_le _⟩) hP hD hS hA [9, 10, 26, 27] [0, 1, 2, 3, 4, 5, 6, 7, 8, 11, 12, 13, 14, 15, 16, 17, 18, 19, 20, 21, 22, 23, 24, 25, 28, 29, 30, 31, 32, 33] [0, 1, 2, 3, 4, 5, 6, 7, 8, 30, 31, 9, 10, 11, 12, 13, 14, 15, 16, 17, 18, 19, 20, 21, 22, 23, 32, 33, 24, 25, 26, 27, 28, 29] rfl (pk_R [true, true, true, true, true, true, true, true, true, false, false, true, true, true, true, true, true, true, true, true, true, true, true, true, true, true, false, false, true, true, true, true, true, true] (by decide +kernel) rfl rfl) (by decide +kernel) (by decide +kernel) (by decide +kernel) (fun u => [(aw, .inr (4, [.ref ag, .ref ae, .ref ac, .ref an, .int w_kept])), (ag, .inr (2, [.int z1, .ref ag_sort, .ref ag_kind, .ref ag_tip, .ref ag_marks, .ref ag_brass, .ref ag_peg, .ref ag_has])), (ag_sort, .inl (cyI, 16, .inl f2)), (ag_kind, .inl (cyI, 16, .inl f3)), (ag_tip, .inl (cyI, 16, .inl f4)), (ag_marks, .inl (cyI, 16, .inl f5)), (ag_brass, .inl (cyI, 16, .inl f6)), (ag_peg, .inl (cyI, 16, .inl f7)), (ag_has, .inl (cyI, 16, .inl f8)), (ae, .inr (1, [.int (u.1), .ref ae_facts])), (ae_facts, .inl (cyI, 420, .inl (u.2))), (ac, .inr (0, [.int c_number, .ref ac_guest, .ref ac_yes, .ref ac_no])), (ac_guest, .inl (cyI, 6, .inl c_guest)), (ac_yes, .inl (cyI, 6, .inl c_yes)), (ac_no, .inl (cyI, 6, .inl c_no)), (an, .inr (6, [.int n_number, .ref an_left])), (an_left, .inl (cyI, 24, .inl n_left)), (ayw, .inr (4, [.ref ayg, .ref aye, .ref ayc, .ref ayn, .int yw_kept])), (ayg, .inr (2, [.int yg_number, .ref ayg_sort, .ref ayg_kind, .ref ayg_tip, .ref ayg_marks, .ref ayg_brass, .ref ayg_peg, .ref ayg_has])), (ayg_sort, .inl (cyI, 16, .inl yg_sort)), (ayg_kind, .inl (cyI, 16, .inl yg_kind)), (ayg_tip, .inl (cyI, 16, .inl yg_tip)), (ayg_marks, .inl (cyI, 16, .inl yg_marks)), (ayg_brass, .inl (cyI, 16, .inl yg_brass)), (ayg_peg, .inl (cyI, 16, .inl yg_peg)), (ayg_has, .inl (cyI, 16, .inl yg_has)), (aye, .inr (1, [.int ye_number, .ref aye_facts])), (aye_facts, .inl (cyI, 420, .inl ye_facts)), (ayc, .inr (0, [.int yc_number, .ref ayc_guest, .ref ayc_yes, .ref ayc_no])), (ayc_guest, .inl (cyI, 6, .inl yc_guest)), (ayc_yes, .inl (cyI, 6, .inl yc_yes)), (ayc_no, .inl (cyI, 6, .inl yc_no)), (ayn, .inr (6, [.int yn_number, .ref ayn_left])), (ayn_left, .inl (cyI, 24, .inl yn_left))]) (fun _ => mg_N [none, none, none, none, none, none, none, none, none, some 0, some 1, none, none, none, none, none, none, none, none, none, none, none, none, none, none, none, some 2, some 3, none, none, none, none, none, none] 30 (by decide +kernel) (by decide +kernel) rfl rfl) (fun u H locs hw hP hD hS => ?_)
  obtain ⟨z9, f10⟩ := u
  try dsimp only at hw hP hD
  refine lv_aload_n hx hb (nq_d dX4_copyFrom_0_g (n := 10) rfl) rfl (lv_at hl 0 rfl) ?_
  refine va_get (D := (dC, dI)) (ci := 4) (v := .ref ac) (C := RX4) (T := TX4) (N := 5) hx hb hts hi_X4 hown hK hP 0 rfl rfl 2 (by decide) hf26 (fun _ h9 => h9) rfl (nq_d dX4_copyFrom_0_g (n := 11) rfl) ?_
  refine lv_aload_n hx hb (nq_d dX4_copyFrom_0_g (n := 12) rfl) rfl (lv_at hl 1 rfl) ?_
  refine va_get (D := (dC, dI)) (ci := 4) (v := .ref ayc) (C := RX4) (T := TX4) (N := 5) hx hb hts hi_X4 hown hK hP 17 rfl rfl 2 (by decide) hf26 (fun _ h9 => h9) rfl (nq_d dX4_copyFrom_0_g (n := 13) rfl) ?_
  refine gx_rv (wr := [(aw, .inr (4, [.ref ag, .ref ae, .ref ac, .ref an, .int w_kept])), (ag, .inr (2, [.int z1, .ref ag_sort, .ref ag_kind, .ref ag_tip, .ref ag_marks, .ref ag_brass, .ref ag_peg, .ref ag_has])), (ag_sort, .inl (cyI, 16, .inl f2)), (ag_kind, .inl (cyI, 16, .inl f3)), (ag_tip, .inl (cyI, 16, .inl f4)), (ag_marks, .inl (cyI, 16, .inl f5)), (ag_brass, .inl (cyI, 16, .inl f6)), (ag_peg, .inl (cyI, 16, .inl f7)), (ag_has, .inl (cyI, 16, .inl f8)), (ae, .inr (1, [.int z9, .ref ae_facts])), (ae_facts, .inl (cyI, 420, .inl f10)), (an, .inr (6, [.int n_number, .ref an_left])), (an_left, .inl (cyI, 24, .inl n_left)), (ayw, .inr (4, [.ref ayg, .ref aye, .ref ayc, .ref ayn, .int yw_kept])), (ayg, .inr (2, [.int yg_number, .ref ayg_sort, .ref ayg_kind, .ref ayg_tip, .ref ayg_marks, .ref ayg_brass, .ref ayg_peg, .ref ayg_has])), (ayg_sort, .inl (cyI, 16, .inl yg_sort)), (ayg_kind, .inl (cyI, 16, .inl yg_kind)), (ayg_tip, .inl (cyI, 16, .inl yg_tip)), (ayg_marks, .inl (cyI, 16, .inl yg_marks)), (ayg_brass, .inl (cyI, 16, .inl yg_brass)), (ayg_peg, .inl (cyI, 16, .inl yg_peg)), (ayg_has, .inl (cyI, 16, .inl yg_has)), (aye, .inr (1, [.int ye_number, .ref aye_facts])), (aye_facts, .inl (cyI, 420, .inl ye_facts)), (ayn, .inr (6, [.int yn_number, .ref ayn_left])), (ayn_left, .inl (cyI, 24, .inl yn_left))]) (va_runV (As := [.ref ayc]) (rest := []) ⟨hx, hb, hml, hown, hts⟩ (ct_Claims_copyFrom l dC dI cyB cyI cyJ cyZ ac ac_guest ac_yes ac_no ayc ayc_guest ayc_yes ayc_no _ c_number yc_number c_guest c_yes c_no yc_guest yc_yes yc_no _) (cwV 1 hts gX4_copyFrom_X0_copyFrom rfl rfl rfl cd_X0_copyFrom ⟨Nat.le_of_ble_eq_true rfl, Nat.le_of_ble_eq_true rfl⟩) (gx_preV hK hP hD hNw [11, 12, 13, 14, 28, 29, 30, 31] rfl (by decide +kernel) hw 11 (ci := 0) rfl rfl rfl) rfl rfl hl.1 rfl (lv_room (Nat.le_of_ble_eq_true rfl)) (nq_d dX4_copyFrom_0_g (n := 14) rfl) ⟨Nat.zero_le _, Nat.zero_le _⟩) hP hD hS hA [11, 12, 13, 14, 28, 29, 30, 31] [0, 1, 2, 3, 4, 5, 6, 7, 8, 9, 10, 15, 16, 17, 18, 19, 20, 21, 22, 23, 24, 25, 26, 27, 32, 33] [0, 1, 2, 3, 4, 5, 6, 7, 8, 9, 10, 26, 27, 28, 29, 11, 12, 13, 14, 15, 16, 17, 18, 19, 20, 21, 22, 23, 30, 31, 32, 33, 24, 25] rfl (pk_R [true, true, true, true, true, true, true, true, true, true, true, false, false, false, false, true, true, true, true, true, true, true, true, true, true, true, true, true, false, false, false, false, true, true] (by decide +kernel) rfl rfl) (by decide +kernel) (by decide +kernel) (by decide +kernel) (fun u => [(aw, .inr (4, [.ref ag, .ref ae, .ref ac, .ref an, .int w_kept])), (ag, .inr (2, [.int z1, .ref ag_sort, .ref ag_kind, .ref ag_tip, .ref ag_marks, .ref ag_brass, .ref ag_peg, .ref ag_has])), (ag_sort, .inl (cyI, 16, .inl f2)), (ag_kind, .inl (cyI, 16, .inl f3)), (ag_tip, .inl (cyI, 16, .inl f4)), (ag_marks, .inl (cyI, 16, .inl f5)), (ag_brass, .inl (cyI, 16, .inl f6)), (ag_peg, .inl (cyI, 16, .inl f7)), (ag_has, .inl (cyI, 16, .inl f8)), (ae, .inr (1, [.int z9, .ref ae_facts])), (ae_facts, .inl (cyI, 420, .inl f10)), (ac, .inr (0, [.int (u.1), .ref ac_guest, .ref ac_yes, .ref ac_no])), (ac_guest, .inl (cyI, 6, .inl (u.2.1))), (ac_yes, .inl (cyI, 6, .inl (u.2.2.1))), (ac_no, .inl (cyI, 6, .inl (u.2.2.2))), (an, .inr (6, [.int n_number, .ref an_left])), (an_left, .inl (cyI, 24, .inl n_left)), (ayw, .inr (4, [.ref ayg, .ref aye, .ref ayc, .ref ayn, .int yw_kept])), (ayg, .inr (2, [.int yg_number, .ref ayg_sort, .ref ayg_kind, .ref ayg_tip, .ref ayg_marks, .ref ayg_brass, .ref ayg_peg, .ref ayg_has])), (ayg_sort, .inl (cyI, 16, .inl yg_sort)), (ayg_kind, .inl (cyI, 16, .inl yg_kind)), (ayg_tip, .inl (cyI, 16, .inl yg_tip)), (ayg_marks, .inl (cyI, 16, .inl yg_marks)), (ayg_brass, .inl (cyI, 16, .inl yg_brass)), (ayg_peg, .inl (cyI, 16, .inl yg_peg)), (ayg_has, .inl (cyI, 16, .inl yg_has)), (aye, .inr (1, [.int ye_number, .ref aye_facts])), (aye_facts, .inl (cyI, 420, .inl ye_facts)), (ayc, .inr (0, [.int yc_number, .ref ayc_guest, .ref ayc_yes, .ref ayc_no])), (ayc_guest, .inl (cyI, 6, .inl yc_guest)), (ayc_yes, .inl (cyI, 6, .inl yc_yes)), (ayc_no, .inl (cyI, 6, .inl yc_no)), (ayn, .inr (6, [.int yn_number, .ref ayn_left])), (ayn_left, .inl (cyI, 24, .inl yn_left))]) (fun _ => mg_N [none, none, none, none, none, none, none, none, none, none, none, some 0, some 1, some 2, some 3, none, none, none, none, none, none, none, none, none, none, none, none, none, some 4, some 5, some 6, some 7, none, none] 26 (by decide +kernel) (by decide +kernel) rfl rfl) (fun u H locs hw hP hD hS => ?_)
  obtain ⟨z11, f12, f13, f14⟩ := u
  try dsimp only at hw hP hD
  refine lv_aload_n hx hb (nq_d dX4_copyFrom_0_g (n := 15) rfl) rfl (lv_at hl 0 rfl) ?_
  refine va_get (D := (dC, dI)) (ci := 4) (v := .ref an) (C := RX4) (T := TX4) (N := 5) hx hb hts hi_X4 hown hK hP 0 rfl rfl 3 (by decide) hf33 (fun _ h9 => h9) rfl (nq_d dX4_copyFrom_0_g (n := 16) rfl) ?_
  refine lv_aload_n hx hb (nq_d dX4_copyFrom_0_g (n := 17) rfl) rfl (lv_at hl 1 rfl) ?_
  refine va_get (D := (dC, dI)) (ci := 4) (v := .ref ayn) (C := RX4) (T := TX4) (N := 5) hx hb hts hi_X4 hown hK hP 17 rfl rfl 3 (by decide) hf33 (fun _ h9 => h9) rfl (nq_d dX4_copyFrom_0_g (n := 18) rfl) ?_
  refine gx_rv (wr := [(aw, .inr (4, [.ref ag, .ref ae, .ref ac, .ref an, .int w_kept])), (ag, .inr (2, [.int z1, .ref ag_sort, .ref ag_kind, .ref ag_tip, .ref ag_marks, .ref ag_brass, .ref ag_peg, .ref ag_has])), (ag_sort, .inl (cyI, 16, .inl f2)), (ag_kind, .inl (cyI, 16, .inl f3)), (ag_tip, .inl (cyI, 16, .inl f4)), (ag_marks, .inl (cyI, 16, .inl f5)), (ag_brass, .inl (cyI, 16, .inl f6)), (ag_peg, .inl (cyI, 16, .inl f7)), (ag_has, .inl (cyI, 16, .inl f8)), (ae, .inr (1, [.int z9, .ref ae_facts])), (ae_facts, .inl (cyI, 420, .inl f10)), (ac, .inr (0, [.int z11, .ref ac_guest, .ref ac_yes, .ref ac_no])), (ac_guest, .inl (cyI, 6, .inl f12)), (ac_yes, .inl (cyI, 6, .inl f13)), (ac_no, .inl (cyI, 6, .inl f14)), (ayw, .inr (4, [.ref ayg, .ref aye, .ref ayc, .ref ayn, .int yw_kept])), (ayg, .inr (2, [.int yg_number, .ref ayg_sort, .ref ayg_kind, .ref ayg_tip, .ref ayg_marks, .ref ayg_brass, .ref ayg_peg, .ref ayg_has])), (ayg_sort, .inl (cyI, 16, .inl yg_sort)), (ayg_kind, .inl (cyI, 16, .inl yg_kind)), (ayg_tip, .inl (cyI, 16, .inl yg_tip)), (ayg_marks, .inl (cyI, 16, .inl yg_marks)), (ayg_brass, .inl (cyI, 16, .inl yg_brass)), (ayg_peg, .inl (cyI, 16, .inl yg_peg)), (ayg_has, .inl (cyI, 16, .inl yg_has)), (aye, .inr (1, [.int ye_number, .ref aye_facts])), (aye_facts, .inl (cyI, 420, .inl ye_facts)), (ayc, .inr (0, [.int yc_number, .ref ayc_guest, .ref ayc_yes, .ref ayc_no])), (ayc_guest, .inl (cyI, 6, .inl yc_guest)), (ayc_yes, .inl (cyI, 6, .inl yc_yes)), (ayc_no, .inl (cyI, 6, .inl yc_no))]) (va_runV (As := [.ref ayn]) (rest := []) ⟨hx, hb, hml, hown, hts⟩ (ct_Nights_copyFrom l dC dI cyB cyI cyJ cyZ an an_left ayn ayn_left _ n_number yn_number n_left yn_left _) (cwV 1 hts gX4_copyFrom_X6_copyFrom rfl rfl rfl cd_X6_copyFrom ⟨Nat.le_of_ble_eq_true rfl, Nat.le_of_ble_eq_true rfl⟩) (gx_preV hK hP hD hNw [15, 16, 32, 33] rfl (by decide +kernel) hw 15 (ci := 6) rfl rfl rfl) rfl rfl hl.1 rfl (lv_room (Nat.le_of_ble_eq_true rfl)) (nq_d dX4_copyFrom_0_g (n := 19) rfl) ⟨Nat.zero_le _, Nat.zero_le _⟩) hP hD hS hA [15, 16, 32, 33] [0, 1, 2, 3, 4, 5, 6, 7, 8, 9, 10, 11, 12, 13, 14, 17, 18, 19, 20, 21, 22, 23, 24, 25, 26, 27, 28, 29, 30, 31] [0, 1, 2, 3, 4, 5, 6, 7, 8, 9, 10, 11, 12, 13, 14, 30, 31, 15, 16, 17, 18, 19, 20, 21, 22, 23, 24, 25, 26, 27, 28, 29, 32, 33] rfl (pk_R [true, true, true, true, true, true, true, true, true, true, true, true, true, true, true, false, false, true, true, true, true, true, true, true, true, true, true, true, true, true, true, true, false, false] (by decide +kernel) rfl rfl) (by decide +kernel) (by decide +kernel) (by decide +kernel) (fun u => [(aw, .inr (4, [.ref ag, .ref ae, .ref ac, .ref an, .int w_kept])), (ag, .inr (2, [.int z1, .ref ag_sort, .ref ag_kind, .ref ag_tip, .ref ag_marks, .ref ag_brass, .ref ag_peg, .ref ag_has])), (ag_sort, .inl (cyI, 16, .inl f2)), (ag_kind, .inl (cyI, 16, .inl f3)), (ag_tip, .inl (cyI, 16, .inl f4)), (ag_marks, .inl (cyI, 16, .inl f5)), (ag_brass, .inl (cyI, 16, .inl f6)), (ag_peg, .inl (cyI, 16, .inl f7)), (ag_has, .inl (cyI, 16, .inl f8)), (ae, .inr (1, [.int z9, .ref ae_facts])), (ae_facts, .inl (cyI, 420, .inl f10)), (ac, .inr (0, [.int z11, .ref ac_guest, .ref ac_yes, .ref ac_no])), (ac_guest, .inl (cyI, 6, .inl f12)), (ac_yes, .inl (cyI, 6, .inl f13)), (ac_no, .inl (cyI, 6, .inl f14)), (an, .inr (6, [.int (u.1), .ref an_left])), (an_left, .inl (cyI, 24, .inl (u.2))), (ayw, .inr (4, [.ref ayg, .ref aye, .ref ayc, .ref ayn, .int yw_kept])), (ayg, .inr (2, [.int yg_number, .ref ayg_sort, .ref ayg_kind, .ref ayg_tip, .ref ayg_marks, .ref ayg_brass, .ref ayg_peg, .ref ayg_has])), (ayg_sort, .inl (cyI, 16, .inl yg_sort)), (ayg_kind, .inl (cyI, 16, .inl yg_kind)), (ayg_tip, .inl (cyI, 16, .inl yg_tip)), (ayg_marks, .inl (cyI, 16, .inl yg_marks)), (ayg_brass, .inl (cyI, 16, .inl yg_brass)), (ayg_peg, .inl (cyI, 16, .inl yg_peg)), (ayg_has, .inl (cyI, 16, .inl yg_has)), (aye, .inr (1, [.int ye_number, .ref aye_facts])), (aye_facts, .inl (cyI, 420, .inl ye_facts)), (ayc, .inr (0, [.int yc_number, .ref ayc_guest, .ref ayc_yes, .ref ayc_no])), (ayc_guest, .inl (cyI, 6, .inl yc_guest)), (ayc_yes, .inl (cyI, 6, .inl yc_yes)), (ayc_no, .inl (cyI, 6, .inl yc_no)), (ayn, .inr (6, [.int yn_number, .ref ayn_left])), (ayn_left, .inl (cyI, 24, .inl yn_left))]) (fun _ => mg_N [none, none, none, none, none, none, none, none, none, none, none, none, none, none, none, some 0, some 1, none, none, none, none, none, none, none, none, none, none, none, none, none, none, none, some 2, some 3] 30 (by decide +kernel) (by decide +kernel) rfl rfl) (fun u H locs hw hP hD hS => ?_)
  obtain ⟨z15, f16⟩ := u
  try dsimp only at hw hP hD
  exact rt_v (A1 := A) hQ hx hb hr hlocks hP hD hS (z1, f2, f3, f4, f5, f6, f7, f8, z9, f10, z11, f12, f13, f14, z15, f16) [0, 1, 2, 3, 4, 5, 6, 7, 8, 9, 10, 11, 12, 13, 14, 15, 16, 17, 18, 19, 20, 21, 22, 23, 24, 25, 26, 27, 28, 29, 30, 31, 32, 33] rfl (by decide +kernel) hw (nq_d dX4_copyFrom_0_g (n := 20) rfl)
abbrev rmX5_load : Room := { frames := 3, cells := 0, slots := 0, locals := 68 }
theorem cd_X5_load : yX5_load.cls = RX5 ∧ yX5_load.cls ≠ "java/lang/invoke/MethodHandle" ∧ yX5_load.cls ≠ "java/lang/invoke/VarHandle" ∧ (parseMethodDescriptor yX5_load.desc).map (fun d => d.parameters.length) = some 2 := by decide +kernel
set_option maxHeartbeats 4000000 in
set_option maxRecDepth 100000 in
theorem ct_Matching_load (l : Launch) (dC : Nat → ClassId) (dI : Nat → Nat → Nat) (cyB cyI cyJ cyZ : ClassId) (ag ag_sort ag_kind ag_tip ag_marks ag_brass ag_peg ag_has ac ac_guest ac_yes ac_no aq aq_fitting aq_waysOf : Nat) (sz : Nat) (g_number : Int32) (c_number : Int32) (q_claims : Int32) (g_kind : Nat → Int32) (g_marks : Nat → Int32) (g_peg : Nat → Int32) (c_guest : Nat → Int32) (c_yes : Nat → Int32) (c_no : Nat → Int32) (q_fitting : Nat → Int32) (Q : Int → (Int → Int) → Prop) : Met l yX5_load wsX5_load rmX5_load (va_Pc [.ref aq, .ref ac, .ref ag] (cPre (dC, dI) vwCl (tyS cyB cyI cyJ cyZ) [(ag, .inr (2, [.int g_number, .ref ag_sort, .ref ag_kind, .ref ag_tip, .ref ag_marks, .ref ag_brass, .ref ag_peg, .ref ag_has])), (ag_kind, .inl (cyI, 16, .inl g_kind)), (ag_marks, .inl (cyI, 16, .inl g_marks)), (ag_peg, .inl (cyI, 16, .inl g_peg)), (ac, .inr (0, [.int c_number, .ref ac_guest, .ref ac_yes, .ref ac_no])), (ac_guest, .inl (cyI, 6, .inl c_guest)), (ac_yes, .inl (cyI, 6, .inl c_yes)), (ac_no, .inl (cyI, 6, .inl c_no)), (aq, .inr (5, [.ref aq_fitting, .ref aq_waysOf, .int q_claims])), (aq_fitting, .inl (cyI, 6, .inl q_fitting))] sz (nf_Matching_load g_number.toInt (aI 16 g_kind) (aI 16 g_marks) (aI 16 g_peg) c_number.toInt (aI 6 c_guest) (aI 6 c_yes) (aI 6 c_no) q_claims.toInt (aI 6 q_fitting)  Q))) (va_Qv (fun (u : Int32 × (Nat → Int32)) => Q (u.1).toInt (aI 6 (u.2))) (cPost (dC, dI) vwCl (fun u : Int32 × (Nat → Int32) => [(ag, .inr (2, [.int g_number, .ref ag_sort, .ref ag_kind, .ref ag_tip, .ref ag_marks, .ref ag_brass, .ref ag_peg, .ref ag_has])), (ag_kind, .inl (cyI, 16, .inl g_kind)), (ag_marks, .inl (cyI, 16, .inl g_marks)), (ag_peg, .inl (cyI, 16, .inl g_peg)), (ac, .inr (0, [.int c_number, .ref ac_guest, .ref ac_yes, .ref ac_no])), (ac_guest, .inl (cyI, 6, .inl c_guest)), (ac_yes, .inl (cyI, 6, .inl c_yes)), (ac_no, .inl (cyI, 6, .inl c_no)), (aq, .inr (5, [.ref aq_fitting, .ref aq_waysOf, .int u.1])), (aq_fitting, .inl (cyI, 6, .inl (u.2)))]) (va_A [(ag, .inr (2, [.int g_number, .ref ag_sort, .ref ag_kind, .ref ag_tip, .ref ag_marks, .ref ag_brass, .ref ag_peg, .ref ag_has])), (ag_kind, .inl (cyI, 16, .inl g_kind)), (ag_marks, .inl (cyI, 16, .inl g_marks)), (ag_peg, .inl (cyI, 16, .inl g_peg)), (ac, .inr (0, [.int c_number, .ref ac_guest, .ref ac_yes, .ref ac_no])), (ac_guest, .inl (cyI, 6, .inl c_guest)), (ac_yes, .inl (cyI, 6, .inl c_yes)), (ac_no, .inl (cyI, 6, .inl c_no)), (aq, .inr (5, [.ref aq_fitting, .ref aq_waysOf, .int q_claims])), (aq_fitting, .inl (cyI, 6, .inl q_fitting))] sz)) (va_A [(ag, .inr (2, [.int g_number, .ref ag_sort, .ref ag_kind, .ref ag_tip, .ref ag_marks, .ref ag_brass, .ref ag_peg, .ref ag_has])), (ag_kind, .inl (cyI, 16, .inl g_kind)), (ag_marks, .inl (cyI, 16, .inl g_marks)), (ag_peg, .inl (cyI, 16, .inl g_peg)), (ac, .inr (0, [.int c_number, .ref ac_guest, .ref ac_yes, .ref ac_no])), (ac_guest, .inl (cyI, 6, .inl c_guest)), (ac_yes, .inl (cyI, 6, .inl c_yes)), (ac_no, .inl (cyI, 6, .inl c_no)), (aq, .inr (5, [.ref aq_fitting, .ref aq_waysOf, .int q_claims])), (aq_fitting, .inl (cyI, 6, .inl q_fitting))] sz)) 0 0 (va_A [(ag, .inr (2, [.int g_number, .ref ag_sort, .ref ag_kind, .ref ag_tip, .ref ag_marks, .ref ag_brass, .ref ag_peg, .ref ag_has])), (ag_kind, .inl (cyI, 16, .inl g_kind)), (ag_marks, .inl (cyI, 16, .inl g_marks)), (ag_peg, .inl (cyI, 16, .inl g_peg)), (ac, .inr (0, [.int c_number, .ref ac_guest, .ref ac_yes, .ref ac_no])), (ac_guest, .inl (cyI, 6, .inl c_guest)), (ac_yes, .inl (cyI, 6, .inl c_yes)), (ac_no, .inl (cyI, 6, .inl c_no)), (aq, .inr (5, [.ref aq_fitting, .ref aq_waysOf, .int q_claims])), (aq_fitting, .inl (cyI, 6, .inl q_fitting))] sz) := by
  refine Met.ofW (cc := cX5_load) (maxL := 4) (ret := none) (by decide) rfl ?_
  intro p e s m args below meth c s₁ B hml hv
  obtain ⟨rfl, hsz, hP, hK, hD0, hNw, hw⟩ := hv
  have hx := B.exec
  have hb := B.bytes
  have hr := B.returns
  have hts := atoms_spec (ws := wsX5_load) B.pre
  have hown : s.vm.findClass RX5 = some m.cls := findClass_of_methodNamed B.named
  have hlocks := B.notSynchronized
  subst hsz
  have hD := hD0.self (sz := s.heap.size)
  generalize hAe : va_A [(ag, .inr (2, [.int g_number, .ref ag_sort, .ref ag_kind, .ref ag_tip, .ref ag_marks, .ref ag_brass, .ref ag_peg, .ref ag_has])), (ag_kind, .inl (cyI, 16, .inl g_kind)), (ag_marks, .inl (cyI, 16, .inl g_marks)), (ag_peg, .inl (cyI, 16, .inl g_peg)), (ac, .inr (0, [.int c_number, .ref ac_guest, .ref ac_yes, .ref ac_no])), (ac_guest, .inl (cyI, 6, .inl c_guest)), (ac_yes, .inl (cyI, 6, .inl c_yes)), (ac_no, .inl (cyI, 6, .inl c_no)), (aq, .inr (5, [.ref aq_fitting, .ref aq_waysOf, .int q_claims])), (aq_fitting, .inl (cyI, 6, .inl q_fitting))] s.heap.size = A at hD ⊢
  have hA : ∀ q : Nat, s.heap.size ≤ q → A q := fun q h => by rw [← hAe]; exact Or.inr h
  have hS : va_S A s.heap s.heap [] := va_S.rf
  have hl := lv_entry ([.ref aq, .ref ac, .ref ag]) (n := 4) (Nat.le_of_ble_eq_true rfl)
  rw [lg_entry_eq]
  generalize (lg_sl ([.ref aq, .ref ac, .ref ag]) ++ List.replicate (4 - (lg_sl ([.ref aq, .ref ac, .ref ag])).length) Slot.unset).toArray = ls at hl ⊢
  have hl : lv_has ls 4 [(0, .ref aq), (1, .ref ac), (2, .ref ag)] := hl
  refine gx_q (fun Q9 hQ => ?_)
  unfold nf_Matching_load at hw
  have hi_X0 : ∀ w ∈ wsX00, w ∈ wsX5_load := (sub_c (nq_m (n := 43) rfl) (sub_c (nq_m (n := 44) rfl) (sub_c (nq_m (n := 45) rfl) (sub_c (nq_m (n := 46) rfl) sub_n))))
  have hf23 : (Cond.fieldLink RX5 23 "CoatsHall$Claims" (TX0 0).2.1 (TX0 0).2.2.1).before ([.ref aq, .ref ac, .ref ag] : List Value).toArray s = true := hts (.fieldLink RX5 23 "CoatsHall$Claims" "number" "I") (nq_m (n := 1) rfl)
  have hi_X5 : ∀ w ∈ wsX50, w ∈ wsX5_load := (sub_c (nq_m (n := 47) rfl) (sub_c (nq_m (n := 48) rfl) (sub_c (nq_m (n := 49) rfl) sub_n)))
  have hf19 : (Cond.fieldLink RX5 19 "CoatsHall$Matching" (TX5 2).2.1 (TX5 2).2.2.1).before ([.ref aq, .ref ac, .ref ag] : List Value).toArray s = true := hts (.fieldLink RX5 19 "CoatsHall$Matching" "claims" "I") (nq_m (n := 6) rfl)
  have hf9 : (Cond.fieldLink RX5 9 "CoatsHall$Matching" (TX5 0).2.1 (TX5 0).2.2.1).before ([.ref aq, .ref ac, .ref ag] : List Value).toArray s = true := hts (.fieldLink RX5 9 "CoatsHall$Matching" "fitting" "[I") (nq_m (n := 7) rfl)
  refine lv_aload_n hx hb (nq_d dX5_load_0_g (n := 0) rfl) rfl (lv_at hl 0 rfl) ?_
  refine lv_aload_n hx hb (nq_d dX5_load_0_g (n := 1) rfl) rfl (lv_at hl 1 rfl) ?_
  refine va_get (D := (dC, dI)) (ci := 0) (v := .int c_number) (C := RX0) (T := TX0) (N := 4) hx hb hts hi_X0 hown hK hP 4 rfl rfl 0 (by decide) hf23 (fun _ h9 => h9) rfl (nq_d dX5_load_0_g (n := 2) rfl) ?_
  refine lv_bipush (v := (6 : Int32)) hx hb (nq_d dX5_load_0_g (n := 3) rfl) (by decide) ?_
  refine gx_mmin hx hb (hml.trans hl.1.symm) hown (hts (.methodLink RX5 28 Lib.Math.min.name) (nq_m (n := 2) rfl)) (hts (.static Lib.Math.min.name) (nq_m (n := 3) rfl)) (hts (.initialized "java/lang/Math") (nq_m (n := 4) rfl)) (hts (.code Lib.Math.min.name Lib.Math.min.code 2 (some .int)) (nq_m (n := 5) rfl)) (Nat.le_of_ble_eq_true rfl) (Nat.le_of_ble_eq_true rfl) (Nat.zero_le _) (Nat.zero_le _) (nq_d dX5_load_0_g (n := 4) rfl) hw (fun v1 hw => ?_)
  refine gx_put (D := (dC, dI)) (ci := 5) (v := .int v1) (ty := .int) (C := RX5) (T := TX5) (N := 3) hx hb hts hi_X5 tyX5 tyX5_ok nmX5 hown hK hP hD hS 8 rfl rfl 2 (by decide) hf19 (fun _ h9 => h9) rfl (by decide +kernel) rfl rfl (Nat.le_of_ble_eq_true rfl) (nq_d dX5_load_0_g (n := 5) rfl) [(ag, .inr (2, [.int g_number, .ref ag_sort, .ref ag_kind, .ref ag_tip, .ref ag_marks, .ref ag_brass, .ref ag_peg, .ref ag_has])), (ag_kind, .inl (cyI, 16, .inl g_kind)), (ag_marks, .inl (cyI, 16, .inl g_marks)), (ag_peg, .inl (cyI, 16, .inl g_peg)), (ac, .inr (0, [.int c_number, .ref ac_guest, .ref ac_yes, .ref ac_no])), (ac_guest, .inl (cyI, 6, .inl c_guest)), (ac_yes, .inl (cyI, 6, .inl c_yes)), (ac_no, .inl (cyI, 6, .inl c_no)), (aq, .inr (5, [.ref aq_fitting, .ref aq_waysOf, .int v1])), (aq_fitting, .inl (cyI, 6, .inl q_fitting))] rfl (fun H locs hP hD hS => ?_)
  refine lv_iconst (v := (0 : Int32)) hx hb (nq_d dX5_load_0_g (n := 6) rfl) (by decide) ?_
  refine lv_istore_n (lv' := [(3, .int (0 : Int32)), (0, .ref aq), (1, .ref ac), (2, .ref ag)]) hx hb (nq_d dX5_load_0_g (n := 7) rfl) rfl hl (by decide) rfl (fun ls hl => ?_)
  refine nlp2_el hw (fun X0_7 X1_7 => ∀ (l3_2 : Int32) (z3 : (Nat → Int32)), X0_7 = l3_2.toInt → X1_7 = (aI 6 z3) → ∀ (H : Heap) (locs : List Loc) (ls : Array Slot), va_P (dC, dI) vwCl [(ag, .inr (2, [.int g_number, .ref ag_sort, .ref ag_kind, .ref ag_tip, .ref ag_marks, .ref ag_brass, .ref ag_peg, .ref ag_has])), (ag_kind, .inl (cyI, 16, .inl g_kind)), (ag_marks, .inl (cyI, 16, .inl g_marks)), (ag_peg, .inl (cyI, 16, .inl g_peg)), (ac, .inr (0, [.int c_number, .ref ac_guest, .ref ac_yes, .ref ac_no])), (ac_guest, .inl (cyI, 6, .inl c_guest)), (ac_yes, .inl (cyI, 6, .inl c_yes)), (ac_no, .inl (cyI, 6, .inl c_no)), (aq, .inr (5, [.ref aq_fitting, .ref aq_waysOf, .int v1])), (aq_fitting, .inl (cyI, 6, .inl z3))] H → va_D A [(ag, .inr (2, [.int g_number, .ref ag_sort, .ref ag_kind, .ref ag_tip, .ref ag_marks, .ref ag_brass, .ref ag_peg, .ref ag_has])), (ag_kind, .inl (cyI, 16, .inl g_kind)), (ag_marks, .inl (cyI, 16, .inl g_marks)), (ag_peg, .inl (cyI, 16, .inl g_peg)), (ac, .inr (0, [.int c_number, .ref ac_guest, .ref ac_yes, .ref ac_no])), (ac_guest, .inl (cyI, 6, .inl c_guest)), (ac_yes, .inl (cyI, 6, .inl c_yes)), (ac_no, .inl (cyI, 6, .inl c_no)), (aq, .inr (5, [.ref aq_fitting, .ref aq_waysOf, .int v1])), (aq_fitting, .inl (cyI, 6, .inl z3))] → va_S A s.heap H locs → lv_has ls 4 [(0, .ref aq), (1, .ref ac), (2, .ref ag), (3, .int l3_2)] → W p l e (headSpec wsX5_load rmX5_load).room s m ([.ref aq, .ref ac, .ref ag] : List Value).toArray below meth c H locs 0 0 Q9 (F0 m 15 ls [])) (fun self4 hPself4 X0_7 X1_7 hw l3_2 z3 eX0_7 eX1_7 H locs ls hP hD hS hl => ?_) (0 : Int32) q_fitting rfl rfl _ _ _ hP hD hS (lv_sub hl [1, 2, 3, 0] rfl)
  subst eX0_7
  subst eX1_7
  refine lv_iload_n hx hb (nq_d dX5_load_0_g (n := 8) rfl) rfl (lv_at hl 3 rfl) ?_
  refine lv_aload_n hx hb (nq_d dX5_load_0_g (n := 9) rfl) rfl (lv_at hl 0 rfl) ?_
  refine va_get (D := (dC, dI)) (ci := 5) (v := .int v1) (C := RX5) (T := TX5) (N := 3) hx hb hts hi_X5 hown hK hP 8 rfl rfl 2 (by decide) hf19 (fun _ h9 => h9) rfl (nq_d dX5_load_0_g (n := 10) rfl) ?_
  refine gx_icmp_ge (tgt := 41) hx hb (nq_d dX5_load_0_g (n := 11) rfl) (by decide) hw (fun hw => ?_) (fun hw => ?_)
  · exact rt_v (A1 := A) hQ hx hb hr hlocks hP hD hS (v1, z3) [0, 1, 2, 3, 4, 5, 6, 7, 8, 9] rfl (by decide +kernel) hw (nq_d dX5_load_0_g (n := 22) rfl)
  · refine lv_aload_n hx hb (nq_d dX5_load_0_g (n := 12) rfl) rfl (lv_at hl 0 rfl) ?_
    refine va_get (D := (dC, dI)) (ci := 5) (v := .ref aq_fitting) (C := RX5) (T := TX5) (N := 3) hx hb hts hi_X5 hown hK hP 8 rfl rfl 0 (by decide) hf9 (fun _ h9 => h9) rfl (nq_d dX5_load_0_g (n := 13) rfl) ?_
    refine lv_iload_n hx hb (nq_d dX5_load_0_g (n := 14) rfl) rfl (lv_at hl 3 rfl) ?_
    refine lv_aload_n hx hb (nq_d dX5_load_0_g (n := 15) rfl) rfl (lv_at hl 1 rfl) ?_
    refine lv_iload_n hx hb (nq_d dX5_load_0_g (n := 16) rfl) rfl (lv_at hl 3 rfl) ?_
    refine lv_aload_n hx hb (nq_d dX5_load_0_g (n := 17) rfl) rfl (lv_at hl 2 rfl) ?_
    refine gx_ri (wr := [(aq, .inr (5, [.ref aq_fitting, .ref aq_waysOf, .int v1])), (aq_fitting, .inl (cyI, 6, .inl z3))]) (va_runV (As := [.int l3_2, .ref ag]) (rest := [.int l3_2, .ref aq_fitting]) ⟨hx, hb, hml, hown, hts⟩ (ct_Claims_thingsFor l dC dI cyB cyI cyJ cyZ ag ag_sort ag_kind ag_tip ag_marks ag_brass ag_peg ag_has ac ac_guest ac_yes ac_no _ g_number c_number g_kind g_marks g_peg c_guest c_yes c_no l3_2 _) (cwV 2 hts gX5_load_X0_thingsFor rfl rfl rfl cd_X0_thingsFor ⟨Nat.le_of_ble_eq_true rfl, Nat.le_of_ble_eq_true rfl⟩) (gx_preV hK hP hD hNw [0, 1, 2, 3, 4, 5, 6, 7] rfl (by decide +kernel) hw 4 (ci := 0) rfl rfl rfl) rfl rfl hl.1 rfl (lv_room (Nat.le_of_ble_eq_true rfl)) (nq_d dX5_load_0_g (n := 18) rfl) ⟨Nat.zero_le _, Nat.zero_le _⟩) hP hD hS hA [0, 1, 2, 3, 4, 5, 6, 7] [8, 9] [2, 3, 4, 5, 6, 7, 8, 9, 0, 1] rfl rfl (by decide) (by decide) (by decide) (fun _ => [(ag, .inr (2, [.int g_number, .ref ag_sort, .ref ag_kind, .ref ag_tip, .ref ag_marks, .ref ag_brass, .ref ag_peg, .ref ag_has])), (ag_kind, .inl (cyI, 16, .inl g_kind)), (ag_marks, .inl (cyI, 16, .inl g_marks)), (ag_peg, .inl (cyI, 16, .inl g_peg)), (ac, .inr (0, [.int c_number, .ref ac_guest, .ref ac_yes, .ref ac_no])), (ac_guest, .inl (cyI, 6, .inl c_guest)), (ac_yes, .inl (cyI, 6, .inl c_yes)), (ac_no, .inl (cyI, 6, .inl c_no)), (aq, .inr (5, [.ref aq_fitting, .ref aq_waysOf, .int v1])), (aq_fitting, .inl (cyI, 6, .inl z3))]) (fun _ => rfl) (fun r5 u H locs hw hP hD hS => ?_)
    try dsimp only at hw hP hD
    refine gx_iast hx hb hK hP hD hS 9 1 rfl rfl (nq_d dX5_load_0_g (n := 19) rfl) (fun f6 => [(ag, .inr (2, [.int g_number, .ref ag_sort, .ref ag_kind, .ref ag_tip, .ref ag_marks, .ref ag_brass, .ref ag_peg, .ref ag_has])), (ag_kind, .inl (cyI, 16, .inl g_kind)), (ag_marks, .inl (cyI, 16, .inl g_marks)), (ag_peg, .inl (cyI, 16, .inl g_peg)), (ac, .inr (0, [.int c_number, .ref ac_guest, .ref ac_yes, .ref ac_no])), (ac_guest, .inl (cyI, 6, .inl c_guest)), (ac_yes, .inl (cyI, 6, .inl c_yes)), (ac_no, .inl (cyI, 6, .inl c_no)), (aq, .inr (5, [.ref aq_fitting, .ref aq_waysOf, .int v1])), (aq_fitting, .inl (cyI, 6, .inl f6))]) (fun _ => rfl) hw (fun f6 H locs hw hP hD hS => ?_)
    refine gx_iinc (k := 3) (z := (1 : Int32)) (lv' := fun v7 => [(3, .int v7), (0, .ref aq), (1, .ref ac), (2, .ref ag)]) hx hb (nq_d dX5_load_0_g (n := 20) rfl) hl rfl (by decide) (by decide) (fun _ => rfl) hw (fun v7 ls hw hl => ?_)
    refine lv_goto (tgt := 15) hx hb (nq_d dX5_load_0_g (n := 21) rfl) (by decide) ?_
    exact hPself4 _ _ hw v7 f6 rfl rfl _ _ _ hP hD hS (lv_sub hl [1, 2, 3, 0] rfl)
