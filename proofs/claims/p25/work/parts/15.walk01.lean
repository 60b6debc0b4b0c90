/-! CONTRACTS, printed by program: the machine does what the nice form says -/
abbrev rmX1_copyFrom : Room := { frames := 1, cells := 0, slots := 0, locals := 24 }
theorem cd_X1_copyFrom : yX1_copyFrom.cls = RX1 ∧ yX1_copyFrom.cls ≠ "java/lang/invoke/MethodHandle" ∧ yX1_copyFrom.cls ≠ "java/lang/invoke/VarHandle" ∧ (parseMethodDescriptor yX1_copyFrom.desc).map (fun d => d.parameters.length) = some 1 := by decide +kernel
set_option maxHeartbeats 4000000 in
set_option maxRecDepth 100000 in
theorem ct_Events_copyFrom (l : Launch) (dC : Nat → ClassId) (dI : Nat → Nat → Nat) (cyB cyI cyJ cyZ : ClassId) (ae ae_facts aye aye_facts : Nat) (sz : Nat) (e_number : Int32) (ye_number : Int32) (e_facts : Nat → Int32) (ye_facts : Nat → Int32) (Q : Int → (Int → Int) → Prop) : Met l yX1_copyFrom wsX1_copyFrom rmX1_copyFrom (va_Pc [.ref ae, .ref aye] (cPre (dC, dI) vwCl (tyS cyB cyI cyJ cyZ) [(ae, .inr (1, [.int e_number, .ref ae_facts])), (ae_facts, .inl (cyI, 420, .inl e_facts)), (aye, .inr (1, [.int ye_number, .ref aye_facts])), (aye_facts, .inl (cyI, 420, .inl ye_facts))] sz (nf_Events_copyFrom e_number.toInt (aI 420 e_facts) ye_number.toInt (aI 420 ye_facts)  Q))) (va_Qv (fun (u : Int32 × (Nat → Int32)) => Q (u.1).toInt (aI 420 (u.2))) (cPost (dC, dI) vwCl (fun u : Int32 × (Nat → Int32) => [(ae, .inr (1, [.int u.1, .ref ae_facts])), (ae_facts, .inl (cyI, 420, .inl (u.2))), (aye, .inr (1, [.int ye_number, .ref aye_facts])), (aye_facts, .inl (cyI, 420, .inl ye_facts))]) (va_A [(ae, .inr (1, [.int e_number, .ref ae_facts])), (ae_facts, .inl (cyI, 420, .inl e_facts)), (aye, .inr (1, [.int ye_number, .ref aye_facts])), (aye_facts, .inl (cyI, 420, .inl ye_facts))] sz)) (va_A [(ae, .inr (1, [.int e_number, .ref ae_facts])), (ae_facts, .inl (cyI, 420, .inl e_facts)), (aye, .inr (1, [.int ye_number, .ref aye_facts])), (aye_facts, .inl (cyI, 420, .inl ye_facts))] sz)) 0 0 (va_A [(ae, .inr (1, [.int e_number, .ref ae_facts])), (ae_facts, .inl (cyI, 420, .inl e_facts)), (aye, .inr (1, [.int ye_number, .ref aye_facts])), (aye_facts, .inl (cyI, 420, .inl ye_facts))] sz) := by
  refine Met.ofW (cc := cX1_copyFrom) (maxL := 2) (ret := none) (by decide) rfl ?_
  intro p e s m args below meth c s₁ B hml hv
  obtain ⟨rfl, hsz, hP, hK, hD0, hNw, hw⟩ := hv
  have hx := B.exec
  have hb := B.bytes
  have hr := B.returns
  have hts := atoms_spec (ws := wsX1_copyFrom) B.pre
  have hown : s.vm.findClass RX1 = some m.cls := findClass_of_methodNamed B.named
  have hlocks := B.notSynchronized
  subst hsz
  have hD := hD0.self (sz := s.heap.size)
  generalize hAe : va_A [(ae, .inr (1, [.int e_number, .ref ae_facts])), (ae_facts, .inl (cyI, 420, .inl e_facts)), (aye, .inr (1, [.int ye_number, .ref aye_facts])), (aye_facts, .inl (cyI, 420, .inl ye_facts))] s.heap.size = A at hD ⊢
  have hA : ∀ q : Nat, s.heap.size ≤ q → A q := fun q h => by rw [← hAe]; exact Or.inr h
  have hS : va_S A s.heap s.heap [] := va_S.rf
  have hl := lv_entry ([.ref ae, .ref aye]) (n := 2) (Nat.le_of_ble_eq_true rfl)
  rw [lg_entry_eq]
  generalize (lg_sl ([.ref ae, .ref aye]) ++ List.replicate (2 - (lg_sl ([.ref ae, .ref aye])).length) Slot.unset).toArray = ls at hl ⊢
  have hl : lv_has ls 2 [(0, .ref ae), (1, .ref aye)] := hl
  refine gx_q (fun Q9 hQ => ?_)
  unfold nf_Events_copyFrom at hw
  have hi_X1 : ∀ w ∈ wsX10, w ∈ wsX1_copyFrom := (sub_c (nq_m (n := 7) rfl) (sub_c (nq_m (n := 8) rfl) sub_n))
  have hf9 : (Cond.fieldLink RX1 9 "CoatsHall$Events" (TX1 0).2.1 (TX1 0).2.2.1).before ([.ref ae, .ref aye] : List Value).toArray s = true := hts (.fieldLink RX1 9 "CoatsHall$Events" "number" "I") (nq_m (n := 1) rfl)
  have hf15 : (Cond.fieldLink RX1 15 "CoatsHall$Events" (TX1 1).2.1 (TX1 1).2.2.1).before ([.ref ae, .ref aye] : List Value).toArray s = true := hts (.fieldLink RX1 15 "CoatsHall$Events" "facts" "[I") (nq_m (n := 2) rfl)
  refine lv_aload_n hx hb (nq_d dX1_copyFrom_0_g (n := 0) rfl) rfl (lv_at hl 0 rfl) ?_
  refine lv_aload_n hx hb (nq_d dX1_copyFrom_0_g (n := 1) rfl) rfl (lv_at hl 1 rfl) ?_
  refine va_get (D := (dC, dI)) (ci := 1) (v := .int ye_number) (C := RX1) (T := TX1) (N := 2) hx hb hts hi_X1 hown hK hP 2 rfl rfl 0 (by decide) hf9 (fun _ h9 => h9) rfl (nq_d dX1_copyFrom_0_g (n := 2) rfl) ?_
  refine gx_put (D := (dC, dI)) (ci := 1) (v := .int ye_number) (ty := .int) (C := RX1) (T := TX1) (N := 2) hx hb hts hi_X1 tyX1 tyX1_ok nmX1 hown hK hP hD hS 0 rfl rfl 0 (by decide) hf9 (fun _ h9 => h9) rfl (by decide +kernel) rfl rfl (Nat.le_of_ble_eq_true rfl) (nq_d dX1_copyFrom_0_g (n := 3) rfl) [(ae, .inr (1, [.int ye_number, .ref ae_facts])), (ae_facts, .inl (cyI, 420, .inl e_facts)), (aye, .inr (1, [.int ye_number, .ref aye_facts])), (aye_facts, .inl (cyI, 420, .inl ye_facts))] rfl (fun H locs hP hD hS => ?_)
  refine lv_aload_n hx hb (nq_d dX1_copyFrom_0_g (n := 4) rfl) rfl (lv_at hl 1 rfl) ?_
  refine va_get (D := (dC, dI)) (ci := 1) (v := .ref aye_facts) (C := RX1) (T := TX1) (N := 2) hx hb hts hi_X1 hown hK hP 2 rfl rfl 1 (by decide) hf15 (fun _ h9 => h9) rfl (nq_d dX1_copyFrom_0_g (n := 5) rfl) ?_
  refine lv_iconst (v := (0 : Int32)) hx hb (nq_d dX1_copyFrom_0_g (n := 6) rfl) (by decide) ?_
  refine lv_aload_n hx hb (nq_d dX1_copyFrom_0_g (n := 7) rfl) rfl (lv_at hl 0 rfl) ?_
  refine va_get (D := (dC, dI)) (ci := 1) (v := .ref ae_facts) (C := RX1) (T := TX1) (N := 2) hx hb hts hi_X1 hown hK hP 0 rfl rfl 1 (by decide) hf15 (fun _ h9 => h9) rfl (nq_d dX1_copyFrom_0_g (n := 8) rfl) ?_
  refine lv_iconst (v := (0 : Int32)) hx hb (nq_d dX1_copyFrom_0_g (n := 9) rfl) (by decide) ?_
  refine lv_aload_n hx hb (nq_d dX1_copyFrom_0_g (n := 10) rfl) rfl (lv_at hl 0 rfl) ?_
  refine va_get (D := (dC, dI)) (ci := 1) (v := .ref ae_facts) (C := RX1) (T := TX1) (N := 2) hx hb hts hi_X1 hown hK hP 0 rfl rfl 1 (by decide) hf15 (fun _ h9 => h9) rfl (nq_d dX1_copyFrom_0_g (n := 11) rfl) ?_
  refine va_alen (v := (420 : Int32)) hx hb hK hP 1 1 rfl (ty := .int) rfl (show Int32.ofNat 420 = (420 : Int32) by decide) (nq_d dX1_copyFrom_0_g (n := 12) rfl) ?_
  refine gx_copy hx hb (hml.trans hl.1.symm) hown (hts (.methodLink RX1 19 arraycopyName) (nq_m (n := 3) rfl)) (hts (.native arraycopyName) (nq_m (n := 4) rfl)) (hts (.static arraycopyName) (nq_m (n := 5) rfl)) (hts (.initialized "java/lang/System") (nq_m (n := 6) rfl)) hK hP hD hS 3 1 1 rfl rfl rfl rfl (by decide) (by decide) (Nat.le_of_ble_eq_true rfl) (Nat.le_of_ble_eq_true rfl) (nq_d dX1_copyFrom_0_g (n := 13) rfl) (fun f1 => [(ae, .inr (1, [.int ye_number, .ref ae_facts])), (ae_facts, .inl (cyI, 420, .inl f1)), (aye, .inr (1, [.int ye_number, .ref aye_facts])), (aye_facts, .inl (cyI, 420, .inl ye_facts))]) (fun _ => rfl) hw (fun f1 H locs hw hP hD hS => ?_)
  exact rt_v (A1 := A) hQ hx hb hr hlocks hP hD hS (ye_number, f1) [0, 1, 2, 3] rfl (by decide +kernel) hw (nq_d dX1_copyFrom_0_g (n := 14) rfl)
abbrev rmX1_knows : Room := { frames := 0, cells := 0, slots := 0, locals := 0 }
theorem cd_X1_knows : yX1_knows.cls = RX1 ∧ yX1_knows.cls ≠ "java/lang/invoke/MethodHandle" ∧ yX1_knows.cls ≠ "java/lang/invoke/VarHandle" ∧ (parseMethodDescriptor yX1_knows.desc).map (fun d => d.parameters.length) = some 1 := by decide +kernel
set_option maxHeartbeats 4000000 in
set_option maxRecDepth 100000 in
theorem ct_Events_knows (l : Launch) (dC : Nat → ClassId) (dI : Nat → Nat → Nat) (cyB cyI cyJ cyZ : ClassId) (ae ae_facts : Nat) (sz : Nat) (e_number : Int32) (x1 : Int32) (Q : Int → Prop) : Met l yX1_knows wsX1_knows rmX1_knows (va_Pc [.ref ae, .int x1] (cPre (dC, dI) vwCl (tyS cyB cyI cyJ cyZ) [(ae, .inr (1, [.int e_number, .ref ae_facts]))] sz (nf_Events_knows e_number.toInt x1.toInt Q))) (va_Qi (fun (r : Int32) (_ : Unit) => Q r.toInt ) (cPost (dC, dI) vwCl (fun _ : Unit => [(ae, .inr (1, [.int e_number, .ref ae_facts]))]) (va_A [(ae, .inr (1, [.int e_number, .ref ae_facts]))] sz)) (va_A [(ae, .inr (1, [.int e_number, .ref ae_facts]))] sz)) 0 0 (va_A [(ae, .inr (1, [.int e_number, .ref ae_facts]))] sz) := by
  refine Met.ofW (cc := cX1_knows) (maxL := 2) (ret := (some .boolean)) (by decide) rfl ?_
  intro p e s m args below meth c s₁ B hml hv
  obtain ⟨rfl, hsz, hP, hK, hD0, hNw, hw⟩ := hv
  have hx := B.exec
  have hb := B.bytes
  have hr := B.returns
  have hts := atoms_spec (ws := wsX1_knows) B.pre
  have hown : s.vm.findClass RX1 = some m.cls := findClass_of_methodNamed B.named
  have hlocks := B.notSynchronized
  subst hsz
  have hD := hD0.self (sz := s.heap.size)
  generalize hAe : va_A [(ae, .inr (1, [.int e_number, .ref ae_facts]))] s.heap.size = A at hD ⊢
  have hA : ∀ q : Nat, s.heap.size ≤ q → A q := fun q h => by rw [← hAe]; exact Or.inr h
  have hS : va_S A s.heap s.heap [] := va_S.rf
  have hl := lv_entry ([.ref ae, .int x1]) (n := 2) (Nat.le_of_ble_eq_true rfl)
  rw [lg_entry_eq]
  generalize (lg_sl ([.ref ae, .int x1]) ++ List.replicate (2 - (lg_sl ([.ref ae, .int x1])).length) Slot.unset).toArray = ls at hl ⊢
  have hl : lv_has ls 2 [(0, .ref ae), (1, .int x1)] := hl
  refine gx_q (fun Q9 hQ => ?_)
  unfold nf_Events_knows at hw
  have hi_X1 : ∀ w ∈ wsX10, w ∈ wsX1_knows := (sub_c (nq_m (n := 2) rfl) (sub_c (nq_m (n := 3) rfl) sub_n))
  have hf9 : (Cond.fieldLink RX1 9 "CoatsHall$Events" (TX1 0).2.1 (TX1 0).2.2.1).before ([.ref ae, .int x1] : List Value).toArray s = true := hts (.fieldLink RX1 9 "CoatsHall$Events" "number" "I") (nq_m (n := 1) rfl)
  refine lv_iload_n hx hb (nq_d dX1_knows_0_g (n := 0) rfl) rfl (lv_at hl 1 rfl) ?_
  refine gx_if_lt (tgt := 22) hx hb (nq_d dX1_knows_0_g (n := 1) rfl) (by decide) hw (fun hw => ?_) (fun hw => ?_)
  · refine lv_iconst (v := (0 : Int32)) hx hb (nq_d dX1_knows_0_g (n := 11) rfl) (by decide) ?_
    exact rt_zl (A1 := A) hQ hx hb hr hlocks hP hD hS () [0] rfl (by decide +kernel) rfl hw (nq_d dX1_knows_0_g (n := 12) rfl)
  · refine lv_iload_n hx hb (nq_d dX1_knows_0_g (n := 2) rfl) rfl (lv_at hl 1 rfl) ?_
    refine lv_aload_n hx hb (nq_d dX1_knows_0_g (n := 3) rfl) rfl (lv_at hl 0 rfl) ?_
    refine va_get (D := (dC, dI)) (ci := 1) (v := .int e_number) (C := RX1) (T := TX1) (N := 2) hx hb hts hi_X1 hown hK hP 0 rfl rfl 0 (by decide) hf9 (fun _ h9 => h9) rfl (nq_d dX1_knows_0_g (n := 4) rfl) ?_
    refine gx_icmp_ge (tgt := 22) hx hb (nq_d dX1_knows_0_g (n := 5) rfl) (by decide) hw (fun hw => ?_) (fun hw => ?_)
    · refine lv_iconst (v := (0 : Int32)) hx hb (nq_d dX1_knows_0_g (n := 11) rfl) (by decide) ?_
      exact rt_zl (A1 := A) hQ hx hb hr hlocks hP hD hS () [0] rfl (by decide +kernel) rfl hw (nq_d dX1_knows_0_g (n := 12) rfl)
    · refine lv_iload_n hx hb (nq_d dX1_knows_0_g (n := 6) rfl) rfl (lv_at hl 1 rfl) ?_
      refine lv_bipush (v := (60 : Int32)) hx hb (nq_d dX1_knows_0_g (n := 7) rfl) (by decide) ?_
      refine gx_icmp_ge (tgt := 22) hx hb (nq_d dX1_knows_0_g (n := 8) rfl) (by decide) hw (fun hw => ?_) (fun hw => ?_)
      · refine lv_iconst (v := (0 : Int32)) hx hb (nq_d dX1_knows_0_g (n := 11) rfl) (by decide) ?_
        exact rt_zl (A1 := A) hQ hx hb hr hlocks hP hD hS () [0] rfl (by decide +kernel) rfl hw (nq_d dX1_knows_0_g (n := 12) rfl)
      · refine lv_iconst (v := (1 : Int32)) hx hb (nq_d dX1_knows_0_g (n := 9) rfl) (by decide) ?_
        refine lv_goto (tgt := 23) hx hb (nq_d dX1_knows_0_g (n := 10) rfl) (by decide) ?_
        exact rt_zl (A1 := A) hQ hx hb hr hlocks hP hD hS () [0] rfl (by decide +kernel) rfl hw (nq_d dX1_knows_0_g (n := 12) rfl)
abbrev rmX1_isFull : Room := { frames := 0, cells := 0, slots := 0, locals := 0 }
theorem cd_X1_isFull : yX1_isFull.cls = RX1 ∧ yX1_isFull.cls ≠ "java/lang/invoke/MethodHandle" ∧ yX1_isFull.cls ≠ "java/lang/invoke/VarHandle" ∧ (parseMethodDescriptor yX1_isFull.desc).map (fun d => d.parameters.length) = some 0 := by decide +kernel
set_option maxHeartbeats 4000000 in
set_option maxRecDepth 100000 in
theorem ct_Events_isFull (l : Launch) (dC : Nat → ClassId) (dI : Nat → Nat → Nat) (cyB cyI cyJ cyZ : ClassId) (ae ae_facts : Nat) (sz : Nat) (e_number : Int32) (Q : Int → Prop) : Met l yX1_isFull wsX1_isFull rmX1_isFull (va_Pc [.ref ae] (cPre (dC, dI) vwCl (tyS cyB cyI cyJ cyZ) [(ae, .inr (1, [.int e_number, .ref ae_facts]))] sz (nf_Events_isFull e_number.toInt  Q))) (va_Qi (fun (r : Int32) (_ : Unit) => Q r.toInt ) (cPost (dC, dI) vwCl (fun _ : Unit => [(ae, .inr (1, [.int e_number, .ref ae_facts]))]) (va_A [(ae, .inr (1, [.int e_number, .ref ae_facts]))] sz)) (va_A [(ae, .inr (1, [.int e_number, .ref ae_facts]))] sz)) 0 0 (va_A [(ae, .inr (1, [.int e_number, .ref ae_facts]))] sz) := by
  refine Met.ofW (cc := cX1_isFull) (maxL := 1) (ret := (some .boolean)) (by decide) rfl ?_
  intro p e s m args below meth c s₁ B hml hv
  obtain ⟨rfl, hsz, hP, hK, hD0, hNw, hw⟩ := hv
  have hx := B.exec
  have hb := B.bytes
  have hr := B.returns
  have hts := atoms_spec (ws := wsX1_isFull) B.pre
  have hown : s.vm.findClass RX1 = some m.cls := findClass_of_methodNamed B.named
  have hlocks := B.notSynchronized
  subst hsz
  have hD := hD0.self (sz := s.heap.size)
  generalize hAe : va_A [(ae, .inr (1, [.int e_number, .ref ae_facts]))] s.heap.size = A at hD ⊢
  have hA : ∀ q : Nat, s.heap.size ≤ q → A q := fun q h => by rw [← hAe]; exact Or.inr h
  have hS : va_S A s.heap s.heap [] := va_S.rf
  have hl := lv_entry ([.ref ae]) (n := 1) (Nat.le_of_ble_eq_true rfl)
  rw [lg_entry_eq]
  generalize (lg_sl ([.ref ae]) ++ List.replicate (1 - (lg_sl ([.ref ae])).length) Slot.unset).toArray = ls at hl ⊢
  have hl : lv_has ls 1 [(0, .ref ae)] := hl
  refine gx_q (fun Q9 hQ => ?_)
  unfold nf_Events_isFull at hw
  have hi_X1 : ∀ w ∈ wsX10, w ∈ wsX1_isFull := (sub_c (nq_m (n := 2) rfl) (sub_c (nq_m (n := 3) rfl) sub_n))
  have hf9 : (Cond.fieldLink RX1 9 "CoatsHall$Events" (TX1 0).2.1 (TX1 0).2.2.1).before ([.ref ae] : List Value).toArray s = true := hts (.fieldLink RX1 9 "CoatsHall$Events" "number" "I") (nq_m (n := 1) rfl)
  refine lv_aload_n hx hb (nq_d dX1_isFull_0_g (n := 0) rfl) rfl (lv_at hl 0 rfl) ?_
  refine va_get (D := (dC, dI)) (ci := 1) (v := .int e_number) (C := RX1) (T := TX1) (N := 2) hx hb hts hi_X1 hown hK hP 0 rfl rfl 0 (by decide) hf9 (fun _ h9 => h9) rfl (nq_d dX1_isFull_0_g (n := 1) rfl) ?_
  refine lv_bipush (v := (60 : Int32)) hx hb (nq_d dX1_isFull_0_g (n := 2) rfl) (by decide) ?_
  refine gx_icmp_lt (tgt := 13) hx hb (nq_d dX1_isFull_0_g (n := 3) rfl) (by decide) hw (fun hw => ?_) (fun hw => ?_)
  · refine lv_iconst (v := (0 : Int32)) hx hb (nq_d dX1_isFull_0_g (n := 6) rfl) (by decide) ?_
    exact rt_zl (A1 := A) hQ hx hb hr hlocks hP hD hS () [0] rfl (by decide +kernel) rfl hw (nq_d dX1_isFull_0_g (n := 7) rfl)
  · refine lv_iconst (v := (1 : Int32)) hx hb (nq_d dX1_isFull_0_g (n := 4) rfl) (by decide) ?_
    refine lv_goto (tgt := 14) hx hb (nq_d dX1_isFull_0_g (n := 5) rfl) (by decide) ?_
    exact rt_zl (A1 := A) hQ hx hb hr hlocks hP hD hS () [0] rfl (by decide +kernel) rfl hw (nq_d dX1_isFull_0_g (n := 7) rfl)
abbrev rmX1_add : Room := { frames := 1, cells := 0, slots := 0, locals := 20 }
theorem cd_X1_add : yX1_add.cls = RX1 ∧ yX1_add.cls ≠ "java/lang/invoke/MethodHandle" ∧ yX1_add.cls ≠ "java/lang/invoke/VarHandle" ∧ (parseMethodDescriptor yX1_add.desc).map (fun d => d.parameters.length) = some 6 := by decide +kernel
set_option maxHeartbeats 4000000 in
set_option maxRecDepth 100000 in
theorem ct_Events_add (l : Launch) (dC : Nat → ClassId) (dI : Nat → Nat → Nat) (cyB cyI cyJ cyZ : ClassId) (ae ae_facts : Nat) (sz : Nat) (e_number : Int32) (e_facts : Nat → Int32) (x1 : Int32) (x2 : Int32) (x3 : Int32) (x4 : Int32) (x5 : Int32) (x6 : Int32) (Q : Int → Int → (Int → Int) → Prop) : Met l yX1_add wsX1_add rmX1_add (va_Pc [.ref ae, .int x1, .int x2, .int x3, .int x4, .int x5, .int x6] (cPre (dC, dI) vwCl (tyS cyB cyI cyJ cyZ) [(ae, .inr (1, [.int e_number, .ref ae_facts])), (ae_facts, .inl (cyI, 420, .inl e_facts))] sz (nf_Events_add e_number.toInt (aI 420 e_facts) x1.toInt x2.toInt x3.toInt x4.toInt x5.toInt x6.toInt Q))) (va_Qi (fun (r : Int32) (u : Int32 × (Nat → Int32)) => Q r.toInt (u.1).toInt (aI 420 (u.2))) (cPost (dC, dI) vwCl (fun u : Int32 × (Nat → Int32) => [(ae, .inr (1, [.int u.1, .ref ae_facts])), (ae_facts, .inl (cyI, 420, .inl (u.2)))]) (va_A [(ae, .inr (1, [.int e_number, .ref ae_facts])), (ae_facts, .inl (cyI, 420, .inl e_facts))] sz)) (va_A [(ae, .inr (1, [.int e_number, .ref ae_facts])), (ae_facts, .inl (cyI, 420, .inl e_facts))] sz)) 0 0 (va_A [(ae, .inr (1, [.int e_number, .ref ae_facts])), (ae_facts, .inl (cyI, 420, .inl e_facts))] sz) := by
  refine Met.ofW (cc := cX1_add) (maxL := 9) (ret := (some .int)) (by decide) rfl ?_
  intro p e s m args below meth c s₁ B hml hv
  obtain ⟨rfl, hsz, hP, hK, hD0, hNw, hw⟩ := hv
  have hx := B.exec
  have hb := B.bytes
  have hr := B.returns
  have hts := atoms_spec (ws := wsX1_add) B.pre
  have hown : s.vm.findClass RX1 = some m.cls := findClass_of_methodNamed B.named
  have hlocks := B.notSynchronized
  subst hsz
  have hD := hD0.self (sz := s.heap.size)
  generalize hAe : va_A [(ae, .inr (1, [.int e_number, .ref ae_facts])), (ae_facts, .inl (cyI, 420, .inl e_facts))] s.heap.size = A at hD ⊢
  have hA : ∀ q : Nat, s.heap.size ≤ q → A q := fun q h => by rw [← hAe]; exact Or.inr h
  have hS : va_S A s.heap s.heap [] := va_S.rf
  have hl := lv_entry ([.ref ae, .int x1, .int x2, .int x3, .int x4, .int x5, .int x6]) (n := 9) (Nat.le_of_ble_eq_true rfl)
  rw [lg_entry_eq]
  generalize (lg_sl ([.ref ae, .int x1, .int x2, .int x3, .int x4, .int x5, .int x6]) ++ List.replicate (9 - (lg_sl ([.ref ae, .int x1, .int x2, .int x3, .int x4, .int x5, .int x6])).length) Slot.unset).toArray = ls at hl ⊢
  have hl : lv_has ls 9 [(0, .ref ae), (1, .int x1), (2, .int x2), (3, .int x3), (4, .int x4), (5, .int x5), (6, .int x6)] := hl
  refine gx_q (fun Q9 hQ => ?_)
  unfold nf_Events_add at hw
  have hi_X1 : ∀ w ∈ wsX10, w ∈ wsX1_add := (sub_c (nq_m (n := 8) rfl) (sub_c (nq_m (n := 9) rfl) sub_n))
  have hf9 : (Cond.fieldLink RX1 9 "CoatsHall$Events" (TX1 0).2.1 (TX1 0).2.2.1).before ([.ref ae, .int x1, .int x2, .int x3, .int x4, .int x5, .int x6] : List Value).toArray s = true := hts (.fieldLink RX1 9 "CoatsHall$Events" "number" "I") (nq_m (n := 1) rfl)
  have hf15 : (Cond.fieldLink RX1 15 "CoatsHall$Events" (TX1 1).2.1 (TX1 1).2.2.1).before ([.ref ae, .int x1, .int x2, .int x3, .int x4, .int x5, .int x6] : List Value).toArray s = true := hts (.fieldLink RX1 15 "CoatsHall$Events" "facts" "[I") (nq_m (n := 2) rfl)
  refine lv_aload_n hx hb (nq_d dX1_add_0_g (n := 0) rfl) rfl (lv_at hl 0 rfl) ?_
  refine va_get (D := (dC, dI)) (ci := 1) (v := .int e_number) (C := RX1) (T := TX1) (N := 2) hx hb hts hi_X1 hown hK hP 0 rfl rfl 0 (by decide) hf9 (fun _ h9 => h9) rfl (nq_d dX1_add_0_g (n := 1) rfl) ?_
  refine gx_if_lt (tgt := 14) hx hb (nq_d dX1_add_0_g (n := 2) rfl) (by decide) hw (fun hw => ?_) (fun hw => ?_)
  · refine lv_sipush (v := ((-1004) : Int32)) hx hb (nq_d dX1_add_0_g (n := 6) rfl) (by decide) ?_
    exact rt_i (A1 := A) hQ hx hb hr hlocks hP hD hS (e_number, e_facts) [0, 1] rfl (by decide +kernel) hw (nq_d dX1_add_0_g (n := 7) rfl)
  · refine lv_aload_n hx hb (nq_d dX1_add_0_g (n := 3) rfl) rfl (lv_at hl 0 rfl) ?_
    refine gx_ri (wr := [(ae_facts, .inl (cyI, 420, .inl e_facts))]) (va_runV (As := []) (rest := []) ⟨hx, hb, hml, hown, hts⟩ (ct_Events_isFull l dC dI cyB cyI cyJ cyZ ae ae_facts _ e_number _) (cwV 0 hts gX1_add_X1_isFull rfl rfl rfl cd_X1_isFull ⟨Nat.le_of_ble_eq_true rfl, Nat.le_of_ble_eq_true rfl⟩) (gx_preV hK hP hD hNw [0] rfl (by decide +kernel) hw 0 (ci := 1) rfl rfl rfl) rfl rfl hl.1 rfl (lv_room (Nat.le_of_ble_eq_true rfl)) (nq_d dX1_add_0_g (n := 4) rfl) ⟨Nat.zero_le _, Nat.zero_le _⟩) hP hD hS hA [0] [1] [1, 0] rfl rfl (by decide) (by decide) (by decide) (fun _ => [(ae, .inr (1, [.int e_number, .ref ae_facts])), (ae_facts, .inl (cyI, 420, .inl e_facts))]) (fun _ => rfl) (fun r1 u H locs hw hP hD hS => ?_)
    try dsimp only at hw hP hD
    refine gx_if_eq (tgt := 18) hx hb (nq_d dX1_add_0_g (n := 5) rfl) (by decide) hw (fun hw => ?_) (fun hw => ?_)
    · refine lv_aload_n hx hb (nq_d dX1_add_0_g (n := 8) rfl) rfl (lv_at hl 0 rfl) ?_
      refine va_get (D := (dC, dI)) (ci := 1) (v := .int e_number) (C := RX1) (T := TX1) (N := 2) hx hb hts hi_X1 hown hK hP 0 rfl rfl 0 (by decide) hf9 (fun _ h9 => h9) rfl (nq_d dX1_add_0_g (n := 9) rfl) ?_
      refine lv_istore (lv' := [(7, .int e_number), (0, .ref ae), (1, .int x1), (2, .int x2), (3, .int x3), (4, .int x4), (5, .int x5), (6, .int x6)]) hx hb (nq_d dX1_add_0_g (n := 10) rfl) hl (by decide) rfl (fun ls hl => ?_)
      refine lv_iload hx hb (nq_d dX1_add_0_g (n := 11) rfl) (lv_at hl 0 rfl) ?_
      refine lv_bipush (v := (7 : Int32)) hx hb (nq_d dX1_add_0_g (n := 12) rfl) (by decide) ?_
      refine gx_imul hx hb (nq_d dX1_add_0_g (n := 13) rfl) hw (fun v2 hw => ?_)
      refine lv_istore (lv' := [(8, .int v2), (7, .int e_number), (0, .ref ae), (1, .int x1), (2, .int x2), (3, .int x3), (4, .int x4), (5, .int x5), (6, .int x6)]) hx hb (nq_d dX1_add_0_g (n := 14) rfl) hl (by decide) rfl (fun ls hl => ?_)
      refine lv_aload_n hx hb (nq_d dX1_add_0_g (n := 15) rfl) rfl (lv_at hl 2 rfl) ?_
      refine va_get (D := (dC, dI)) (ci := 1) (v := .ref ae_facts) (C := RX1) (T := TX1) (N := 2) hx hb hts hi_X1 hown hK hP 0 rfl rfl 1 (by decide) hf15 (fun _ h9 => h9) rfl (nq_d dX1_add_0_g (n := 16) rfl) ?_
      refine lv_iload hx hb (nq_d dX1_add_0_g (n := 17) rfl) (lv_at hl 0 rfl) ?_
      refine lv_iload_n hx hb (nq_d dX1_add_0_g (n := 18) rfl) rfl (lv_at hl 3 rfl) ?_
      refine gx_iast hx hb hK hP hD hS 1 1 rfl rfl (nq_d dX1_add_0_g (n := 19) rfl) (fun f3 => [(ae, .inr (1, [.int e_number, .ref ae_facts])), (ae_facts, .inl (cyI, 420, .inl f3))]) (fun _ => rfl) hw (fun f3 H locs hw hP hD hS => ?_)
      refine lv_aload_n hx hb (nq_d dX1_add_0_g (n := 20) rfl) rfl (lv_at hl 2 rfl) ?_
      refine va_get (D := (dC, dI)) (ci := 1) (v := .ref ae_facts) (C := RX1) (T := TX1) (N := 2) hx hb hts hi_X1 hown hK hP 0 rfl rfl 1 (by decide) hf15 (fun _ h9 => h9) rfl (nq_d dX1_add_0_g (n := 21) rfl) ?_
      refine lv_iload hx hb (nq_d dX1_add_0_g (n := 22) rfl) (lv_at hl 0 rfl) ?_
      refine lv_iconst (v := (1 : Int32)) hx hb (nq_d dX1_add_0_g (n := 23) rfl) (by decide) ?_
      refine gx_iadd hx hb (nq_d dX1_add_0_g (n := 24) rfl) hw (fun v4 hw => ?_)
      refine lv_iload_n hx hb (nq_d dX1_add_0_g (n := 25) rfl) rfl (lv_at hl 4 rfl) ?_
      refine gx_iast hx hb hK hP hD hS 1 1 rfl rfl (nq_d dX1_add_0_g (n := 26) rfl) (fun f5 => [(ae, .inr (1, [.int e_number, .ref ae_facts])), (ae_facts, .inl (cyI, 420, .inl f5))]) (fun _ => rfl) hw (fun f5 H locs hw hP hD hS => ?_)
      refine lv_aload_n hx hb (nq_d dX1_add_0_g (n := 27) rfl) rfl (lv_at hl 2 rfl) ?_
      refine va_get (D := (dC, dI)) (ci := 1) (v := .ref ae_facts) (C := RX1) (T := TX1) (N := 2) hx hb hts hi_X1 hown hK hP 0 rfl rfl 1 (by decide) hf15 (fun _ h9 => h9) rfl (nq_d dX1_add_0_g (n := 28) rfl) ?_
      refine lv_iload hx hb (nq_d dX1_add_0_g (n := 29) rfl) (lv_at hl 0 rfl) ?_
      refine lv_iconst (v := (2 : Int32)) hx hb (nq_d dX1_add_0_g (n := 30) rfl) (by decide) ?_
      refine gx_iadd hx hb (nq_d dX1_add_0_g (n := 31) rfl) hw (fun v6 hw => ?_)
      refine lv_iload_n hx hb (nq_d dX1_add_0_g (n := 32) rfl) rfl (lv_at hl 5 rfl) ?_
      refine gx_iast hx hb hK hP hD hS 1 1 rfl rfl (nq_d dX1_add_0_g (n := 33) rfl) (fun f7 => [(ae, .inr (1, [.int e_number, .ref ae_facts])), (ae_facts, .inl (cyI, 420, .inl f7))]) (fun _ => rfl) hw (fun f7 H locs hw hP hD hS => ?_)
      refine lv_aload_n hx hb (nq_d dX1_add_0_g (n := 34) rfl) rfl (lv_at hl 2 rfl) ?_
      refine va_get (D := (dC, dI)) (ci := 1) (v := .ref ae_facts) (C := RX1) (T := TX1) (N := 2) hx hb hts hi_X1 hown hK hP 0 rfl rfl 1 (by decide) hf15 (fun _ h9 => h9) rfl (nq_d dX1_add_0_g (n := 35) rfl) ?_
      refine lv_iload hx hb (nq_d dX1_add_0_g (n := 36) rfl) (lv_at hl 0 rfl) ?_
      refine lv_iconst (v := (3 : Int32)) hx hb (nq_d dX1_add_0_g (n := 37) rfl) (by decide) ?_
      refine gx_iadd hx hb (nq_d dX1_add_0_g (n := 38) rfl) hw (fun v8 hw => ?_)
      refine lv_iload hx hb (nq_d dX1_add_0_g (n := 39) rfl) (lv_at hl 6 rfl) ?_
      refine gx_iast hx hb hK hP hD hS 1 1 rfl rfl (nq_d dX1_add_69_g (n := 0) rfl) (fun f9 => [(ae, .inr (1, [.int e_number, .ref ae_facts])), (ae_facts, .inl (cyI, 420, .inl f9))]) (fun _ => rfl) hw (fun f9 H locs hw hP hD hS => ?_)
      refine lv_aload_n hx hb (nq_d dX1_add_69_g (n := 1) rfl) rfl (lv_at hl 2 rfl) ?_
      refine va_get (D := (dC, dI)) (ci := 1) (v := .ref ae_facts) (C := RX1) (T := TX1) (N := 2) hx hb hts hi_X1 hown hK hP 0 rfl rfl 1 (by decide) hf15 (fun _ h9 => h9) rfl (nq_d dX1_add_69_g (n := 2) rfl) ?_
      refine lv_iload hx hb (nq_d dX1_add_69_g (n := 3) rfl) (lv_at hl 0 rfl) ?_
      refine lv_iconst (v := (4 : Int32)) hx hb (nq_d dX1_add_69_g (n := 4) rfl) (by decide) ?_
      refine gx_iadd hx hb (nq_d dX1_add_69_g (n := 5) rfl) hw (fun v10 hw => ?_)
      refine lv_iload hx hb (nq_d dX1_add_69_g (n := 6) rfl) (lv_at hl 7 rfl) ?_
      refine gx_iast hx hb hK hP hD hS 1 1 rfl rfl (nq_d dX1_add_69_g (n := 7) rfl) (fun f11 => [(ae, .inr (1, [.int e_number, .ref ae_facts])), (ae_facts, .inl (cyI, 420, .inl f11))]) (fun _ => rfl) hw (fun f11 H locs hw hP hD hS => ?_)
      refine lv_aload_n hx hb (nq_d dX1_add_69_g (n := 8) rfl) rfl (lv_at hl 2 rfl) ?_
      refine va_get (D := (dC, dI)) (ci := 1) (v := .ref ae_facts) (C := RX1) (T := TX1) (N := 2) hx hb hts hi_X1 hown hK hP 0 rfl rfl 1 (by decide) hf15 (fun _ h9 => h9) rfl (nq_d dX1_add_69_g (n := 9) rfl) ?_
      refine lv_iload hx hb (nq_d dX1_add_69_g (n := 10) rfl) (lv_at hl 0 rfl) ?_
      refine lv_iconst (v := (5 : Int32)) hx hb (nq_d dX1_add_69_g (n := 11) rfl) (by decide) ?_
      refine gx_iadd hx hb (nq_d dX1_add_69_g (n := 12) rfl) hw (fun v12 hw => ?_)
      refine lv_iload hx hb (nq_d dX1_add_69_g (n := 13) rfl) (lv_at hl 8 rfl) ?_
      refine gx_iast hx hb hK hP hD hS 1 1 rfl rfl (nq_d dX1_add_69_g (n := 14) rfl) (fun f13 => [(ae, .inr (1, [.int e_number, .ref ae_facts])), (ae_facts, .inl (cyI, 420, .inl f13))]) (fun _ => rfl) hw (fun f13 H locs hw hP hD hS => ?_)
      refine lv_aload_n hx hb (nq_d dX1_add_69_g (n := 15) rfl) rfl (lv_at hl 2 rfl) ?_
      refine va_get (D := (dC, dI)) (ci := 1) (v := .ref ae_facts) (C := RX1) (T := TX1) (N := 2) hx hb hts hi_X1 hown hK hP 0 rfl rfl 1 (by decide) hf15 (fun _ h9 => h9) rfl (nq_d dX1_add_69_g (n := 16) rfl) ?_
      refine lv_iload hx hb (nq_d dX1_add_69_g (n := 17) rfl) (lv_at hl 0 rfl) ?_
      refine lv_bipush (v := (6 : Int32)) hx hb (nq_d dX1_add_69_g (n := 18) rfl) (by decide) ?_
      refine gx_iadd hx hb (nq_d dX1_add_69_g (n := 19) rfl) hw (fun v14 hw => ?_)
      refine lv_iload_n hx hb (nq_d dX1_add_69_g (n := 20) rfl) rfl (lv_at hl 3 rfl) ?_
      refine lv_iconst (v := (2 : Int32)) hx hb (nq_d dX1_add_69_g (n := 21) rfl) (by decide) ?_
      refine jn1_el hw (fun j16 hj16 hw => ?_)
      have Jj16 : ∀ (t15 : Int32) (H : Heap) (locs : List Loc) (ls : Array Slot), va_P (dC, dI) vwCl [(ae, .inr (1, [.int e_number, .ref ae_facts])), (ae_facts, .inl (cyI, 420, .inl f13))] H → va_D A [(ae, .inr (1, [.int e_number, .ref ae_facts])), (ae_facts, .inl (cyI, 420, .inl f13))] → va_S A s.heap H locs → lv_has ls 9 [(0, .ref ae), (7, .int e_number)] → j16 t15.toInt → W p l e (headSpec wsX1_add rmX1_add).room s m ([.ref ae, .int x1, .int x2, .int x3, .int x4, .int x5, .int x6] : List Value).toArray below meth c H locs 0 0 Q9 (F0 m 118 ls [.int t15, .int v14, .ref ae_facts]) := by
        intro t15 H locs ls hP hD hS hl hw
        have hw := hj16 _ hw
        refine gx_iast hx hb hK hP hD hS 1 1 rfl rfl (nq_d dX1_add_69_g (n := 29) rfl) (fun f17 => [(ae, .inr (1, [.int e_number, .ref ae_facts])), (ae_facts, .inl (cyI, 420, .inl f17))]) (fun _ => rfl) hw (fun f17 H locs hw hP hD hS => ?_)
        refine lv_aload_n hx hb (nq_d dX1_add_69_g (n := 30) rfl) rfl (lv_at hl 0 rfl) ?_
        refine lv_dup hx hb (nq_d dX1_add_69_g (n := 31) rfl) rfl ?_
        refine va_get (D := (dC, dI)) (ci := 1) (v := .int e_number) (C := RX1) (T := TX1) (N := 2) hx hb hts hi_X1 hown hK hP 0 rfl rfl 0 (by decide) hf9 (fun _ h9 => h9) rfl (nq_d dX1_add_69_g (n := 32) rfl) ?_
        refine lv_iconst (v := (1 : Int32)) hx hb (nq_d dX1_add_69_g (n := 33) rfl) (by decide) ?_
        refine gx_iadd hx hb (nq_d dX1_add_69_g (n := 34) rfl) hw (fun v18 hw => ?_)
        refine gx_put (D := (dC, dI)) (ci := 1) (v := .int v18) (ty := .int) (C := RX1) (T := TX1) (N := 2) hx hb hts hi_X1 tyX1 tyX1_ok nmX1 hown hK hP hD hS 0 rfl rfl 0 (by decide) hf9 (fun _ h9 => h9) rfl (by decide +kernel) rfl rfl (Nat.le_of_ble_eq_true rfl) (nq_d dX1_add_69_g (n := 35) rfl) [(ae, .inr (1, [.int v18, .ref ae_facts])), (ae_facts, .inl (cyI, 420, .inl f17))] rfl (fun H locs hP hD hS => ?_)
        refine lv_iload hx hb (nq_d dX1_add_69_g (n := 36) rfl) (lv_at hl 1 rfl) ?_
        exact rt_i (A1 := A) hQ hx hb hr hlocks hP hD hS (v18, f17) [0, 1] rfl (by decide +kernel) hw (nq_d dX1_add_69_g (n := 37) rfl)
      refine jn0_el hw (fun j19 hj19 hw => ?_)
      have Jj19 : ∀  (H : Heap) (locs : List Loc) (ls : Array Slot), va_P (dC, dI) vwCl [(ae, .inr (1, [.int e_number, .ref ae_facts])), (ae_facts, .inl (cyI, 420, .inl f13))] H → va_D A [(ae, .inr (1, [.int e_number, .ref ae_facts])), (ae_facts, .inl (cyI, 420, .inl f13))] → va_S A s.heap H locs → lv_has ls 9 [(0, .ref ae), (7, .int e_number)] → j19  → W p l e (headSpec wsX1_add rmX1_add).room s m ([.ref ae, .int x1, .int x2, .int x3, .int x4, .int x5, .int x6] : List Value).toArray below meth c H locs 0 0 Q9 (F0 m 117 ls [.int v14, .ref ae_facts]) := by
        intro  H locs ls hP hD hS hl hw
        have hw := hj19  hw
        refine lv_iconst (v := (0 : Int32)) hx hb (nq_d dX1_add_69_g (n := 28) rfl) (by decide) ?_
        exact Jj16 (0 : Int32) _ _ _ hP hD hS (lv_sub hl [0, 1] rfl) hw
      refine gx_icmp_eq (tgt := 117) hx hb (nq_d dX1_add_69_g (n := 22) rfl) (by decide) hw (fun hw => ?_) (fun hw => ?_)
      · exact Jj19  _ _ _ hP hD hS (lv_sub hl [2, 1] rfl) hw
      · refine lv_iload hx hb (nq_d dX1_add_69_g (n := 23) rfl) (lv_at hl 6 rfl) ?_
        refine lv_iload hx hb (nq_d dX1_add_69_g (n := 24) rfl) (lv_at hl 7 rfl) ?_
        refine gx_icmp_eq (tgt := 117) hx hb (nq_d dX1_add_69_g (n := 25) rfl) (by decide) hw (fun hw => ?_) (fun hw => ?_)
        · exact Jj19  _ _ _ hP hD hS (lv_sub hl [2, 1] rfl) hw
        · refine lv_iconst (v := (1 : Int32)) hx hb (nq_d dX1_add_69_g (n := 26) rfl) (by decide) ?_
          refine lv_goto (tgt := 118) hx hb (nq_d dX1_add_69_g (n := 27) rfl) (by decide) ?_
          exact Jj16 (1 : Int32) _ _ _ hP hD hS (lv_sub hl [2, 1] rfl) hw
    · refine lv_sipush (v := ((-1004) : Int32)) hx hb (nq_d dX1_add_0_g (n := 6) rfl) (by decide) ?_
      exact rt_i (A1 := A) hQ hx hb hr hlocks hP hD hS (e_number, e_facts) [0, 1] rfl (by decide +kernel) hw (nq_d dX1_add_0_g (n := 7) rfl)
abbrev rmX10_within : Room := { frames := 0, cells := 0, slots := 0, locals := 0 }
theorem cd_X10_within : yX10_within.cls = RX10 ∧ yX10_within.cls ≠ "java/lang/invoke/MethodHandle" ∧ yX10_within.cls ≠ "java/lang/invoke/VarHandle" ∧ (parseMethodDescriptor yX10_within.desc).map (fun d => d.parameters.length) = some 3 := by decide +kernel
set_option maxHeartbeats 4000000 in
set_option maxRecDepth 100000 in
theorem ct_H_within (l : Launch) (dC : Nat → ClassId) (dI : Nat → Nat → Nat) (cyB cyI cyJ cyZ : ClassId) (sz : Nat) (x1 : Int32) (x2 : Int32) (x3 : Int32) (Q : Int → Prop) : Met l yX10_within wsX10_within rmX10_within (va_Pc [.int x1, .int x2, .int x3] (cPre (dC, dI) vwCl (tyS cyB cyI cyJ cyZ) [] sz (nf_H_within  x1.toInt x2.toInt x3.toInt Q))) (va_Qi (fun (r : Int32) (_ : Unit) => Q r.toInt ) (cPost (dC, dI) vwCl (fun _ : Unit => []) (va_A [] sz)) (va_A [] sz)) 0 0 (va_A [] sz) := by
  refine Met.ofW (cc := cX10_within) (maxL := 3) (ret := (some .boolean)) (by decide) rfl ?_
  intro p e s m args below meth c s₁ B hml hv
  obtain ⟨rfl, hsz, hP, hK, hD0, hNw, hw⟩ := hv
  have hx := B.exec
  have hb := B.bytes
  have hr := B.returns
  have hts := atoms_spec (ws := wsX10_within) B.pre
  have hown : s.vm.findClass RX10 = some m.cls := findClass_of_methodNamed B.named
  have hlocks := B.notSynchronized
  subst hsz
  have hD := hD0.self (sz := s.heap.size)
  generalize hAe : va_A [] s.heap.size = A at hD ⊢
  have hA : ∀ q : Nat, s.heap.size ≤ q → A q := fun q h => by rw [← hAe]; exact Or.inr h
  have hS : va_S A s.heap s.heap [] := va_S.rf
  have hl := lv_entry ([.int x1, .int x2, .int x3]) (n := 3) (Nat.le_of_ble_eq_true rfl)
  rw [lg_entry_eq]
  generalize (lg_sl ([.int x1, .int x2, .int x3]) ++ List.replicate (3 - (lg_sl ([.int x1, .int x2, .int x3])).length) Slot.unset).toArray = ls at hl ⊢
  have hl : lv_has ls 3 [(0, .int x1), (1, .int x2), (2, .int x3)] := hl
  refine gx_q (fun Q9 hQ => ?_)
  unfold nf_H_within at hw
  refine lv_iload_n hx hb (nq_d dX10_within_0_g (n := 0) rfl) rfl (lv_at hl 0 rfl) ?_
  refine lv_iload_n hx hb (nq_d dX10_within_0_g (n := 1) rfl) rfl (lv_at hl 1 rfl) ?_
  refine gx_icmp_lt (tgt := 14) hx hb (nq_d dX10_within_0_g (n := 2) rfl) (by decide) hw (fun hw => ?_) (fun hw => ?_)
  · refine lv_iconst (v := (0 : Int32)) hx hb (nq_d dX10_within_0_g (n := 8) rfl) (by decide) ?_
    exact rt_zl (A1 := A) hQ hx hb hr hlocks hP hD hS () [] rfl (by decide) rfl hw (nq_d dX10_within_0_g (n := 9) rfl)
  · refine lv_iload_n hx hb (nq_d dX10_within_0_g (n := 3) rfl) rfl (lv_at hl 0 rfl) ?_
    refine lv_iload_n hx hb (nq_d dX10_within_0_g (n := 4) rfl) rfl (lv_at hl 2 rfl) ?_
    refine gx_icmp_gt (tgt := 14) hx hb (nq_d dX10_within_0_g (n := 5) rfl) (by decide) hw (fun hw => ?_) (fun hw => ?_)
    · refine lv_iconst (v := (0 : Int32)) hx hb (nq_d dX10_within_0_g (n := 8) rfl) (by decide) ?_
      exact rt_zl (A1 := A) hQ hx hb hr hlocks hP hD hS () [] rfl (by decide) rfl hw (nq_d dX10_within_0_g (n := 9) rfl)
    · refine lv_iconst (v := (1 : Int32)) hx hb (nq_d dX10_within_0_g (n := 6) rfl) (by decide) ?_
      refine lv_goto (tgt := 15) hx hb (nq_d dX10_within_0_g (n := 7) rfl) (by decide) ?_
      exact rt_zl (A1 := A) hQ hx hb hr hlocks hP hD hS () [] rfl (by decide) rfl hw (nq_d dX10_within_0_g (n := 9) rfl)
abbrev rmX1_factOf : Room := { frames := 1, cells := 0, slots := 0, locals := 22 }
theorem cd_X1_factOf : yX1_factOf.cls = RX1 ∧ yX1_factOf.cls ≠ "java/lang/invoke/MethodHandle" ∧ yX1_factOf.cls ≠ "java/lang/invoke/VarHandle" ∧ (parseMethodDescriptor yX1_factOf.desc).map (fun d => d.parameters.length) = some 2 := by decide +kernel
set_option maxHeartbeats 4000000 in
set_option maxRecDepth 100000 in
theorem ct_Events_factOf (l : Launch) (dC : Nat → ClassId) (dI : Nat → Nat → Nat) (cyB cyI cyJ cyZ : ClassId) (ae ae_facts : Nat) (sz : Nat) (e_number : Int32) (e_facts : Nat → Int32) (x1 : Int32) (x2 : Int32) (Q : Int → Prop) : Met l yX1_factOf wsX1_factOf rmX1_factOf (va_Pc [.ref ae, .int x1, .int x2] (cPre (dC, dI) vwCl (tyS cyB cyI cyJ cyZ) [(ae, .inr (1, [.int e_number, .ref ae_facts])), (ae_facts, .inl (cyI, 420, .inl e_facts))] sz (nf_Events_factOf e_number.toInt (aI 420 e_facts) x1.toInt x2.toInt Q))) (va_Qi (fun (r : Int32) (_ : Unit) => Q r.toInt ) (cPost (dC, dI) vwCl (fun _ : Unit => [(ae, .inr (1, [.int e_number, .ref ae_facts])), (ae_facts, .inl (cyI, 420, .inl e_facts))]) (va_A [(ae, .inr (1, [.int e_number, .ref ae_facts])), (ae_facts, .inl (cyI, 420, .inl e_facts))] sz)) (va_A [(ae, .inr (1, [.int e_number, .ref ae_facts])), (ae_facts, .inl (cyI, 420, .inl e_facts))] sz)) 0 0 (va_A [(ae, .inr (1, [.int e_number, .ref ae_facts])), (ae_facts, .inl (cyI, 420, .inl e_facts))] sz) := by
  refine Met.ofW (cc := cX1_factOf) (maxL := 3) (ret := (some .int)) (by decide) rfl ?_
  intro p e s m args below meth c s₁ B hml hv
  obtain ⟨rfl, hsz, hP, hK, hD0, hNw, hw⟩ := hv
  have hx := B.exec
  have hb := B.bytes
  have hr := B.returns
  have hts := atoms_spec (ws := wsX1_factOf) B.pre
  have hown : s.vm.findClass RX1 = some m.cls := findClass_of_methodNamed B.named
  have hlocks := B.notSynchronized
  subst hsz
  have hD := hD0.self (sz := s.heap.size)
  generalize hAe : va_A [(ae, .inr (1, [.int e_number, .ref ae_facts])), (ae_facts, .inl (cyI, 420, .inl e_facts))] s.heap.size = A at hD ⊢
  have hA : ∀ q : Nat, s.heap.size ≤ q → A q := fun q h => by rw [← hAe]; exact Or.inr h
  have hS : va_S A s.heap s.heap [] := va_S.rf
  have hl := lv_entry ([.ref ae, .int x1, .int x2]) (n := 3) (Nat.le_of_ble_eq_true rfl)
  rw [lg_entry_eq]
  generalize (lg_sl ([.ref ae, .int x1, .int x2]) ++ List.replicate (3 - (lg_sl ([.ref ae, .int x1, .int x2])).length) Slot.unset).toArray = ls at hl ⊢
  have hl : lv_has ls 3 [(0, .ref ae), (1, .int x1), (2, .int x2)] := hl
  refine gx_q (fun Q9 hQ => ?_)
  unfold nf_Events_factOf at hw
  have hi_X1 : ∀ w ∈ wsX10, w ∈ wsX1_factOf := (sub_c (nq_m (n := 11) rfl) (sub_c (nq_m (n := 12) rfl) sub_n))
  have hf15 : (Cond.fieldLink RX1 15 "CoatsHall$Events" (TX1 1).2.1 (TX1 1).2.2.1).before ([.ref ae, .int x1, .int x2] : List Value).toArray s = true := hts (.fieldLink RX1 15 "CoatsHall$Events" "facts" "[I") (nq_m (n := 1) rfl)
  refine lv_aload_n hx hb (nq_d dX1_factOf_0_g (n := 0) rfl) rfl (lv_at hl 0 rfl) ?_
  refine lv_iload_n hx hb (nq_d dX1_factOf_0_g (n := 1) rfl) rfl (lv_at hl 1 rfl) ?_
  refine gx_ri (wr := [(ae_facts, .inl (cyI, 420, .inl e_facts))]) (va_runV (As := [.int x1]) (rest := []) ⟨hx, hb, hml, hown, hts⟩ (ct_Events_knows l dC dI cyB cyI cyJ cyZ ae ae_facts _ e_number x1 _) (cwV 1 hts gX1_factOf_X1_knows rfl rfl rfl cd_X1_knows ⟨Nat.le_of_ble_eq_true rfl, Nat.le_of_ble_eq_true rfl⟩) (gx_preV hK hP hD hNw [0] rfl (by decide +kernel) hw 0 (ci := 1) rfl rfl rfl) rfl rfl hl.1 rfl (lv_room (Nat.le_of_ble_eq_true rfl)) (nq_d dX1_factOf_0_g (n := 2) rfl) ⟨Nat.zero_le _, Nat.zero_le _⟩) hP hD hS hA [0] [1] [1, 0] rfl rfl (by decide) (by decide) (by decide) (fun _ => [(ae, .inr (1, [.int e_number, .ref ae_facts])), (ae_facts, .inl (cyI, 420, .inl e_facts))]) (fun _ => rfl) (fun r1 u H locs hw hP hD hS => ?_)
  try dsimp only at hw hP hD
  refine gx_if_eq (tgt := 18) hx hb (nq_d dX1_factOf_0_g (n := 3) rfl) (by decide) hw (fun hw => ?_) (fun hw => ?_)
  · refine lv_iconst (v := ((-1) : Int32)) hx hb (nq_d dX1_factOf_0_g (n := 9) rfl) (by decide) ?_
    exact rt_i (A1 := A) hQ hx hb hr hlocks hP hD hS () [0, 1] rfl (by decide +kernel) hw (nq_d dX1_factOf_0_g (n := 10) rfl)
  · refine lv_iload_n hx hb (nq_d dX1_factOf_0_g (n := 4) rfl) rfl (lv_at hl 2 rfl) ?_
    refine lv_iconst (v := (0 : Int32)) hx hb (nq_d dX1_factOf_0_g (n := 5) rfl) (by decide) ?_
    refine lv_bipush (v := (6 : Int32)) hx hb (nq_d dX1_factOf_0_g (n := 6) rfl) (by decide) ?_
    refine gx_ri (wr := [(ae, .inr (1, [.int e_number, .ref ae_facts])), (ae_facts, .inl (cyI, 420, .inl e_facts))]) (va_runSN (As := [.int x2, .int (0 : Int32), .int (6 : Int32)]) (rest := []) ⟨hx, hb, hml, hown, hts⟩ (ct_H_within l dC dI cyB cyI cyJ cyZ  _ x2 (0 : Int32) (6 : Int32) _) ⟨va_cnB 3 hts gX1_factOf_X10_within_n33 rfl rfl rfl (nw_15 hNw) (hts (.initialized RX10) (nq_m (n := 9) rfl)) cd_X10_within.2 ⟨Nat.le_of_ble_eq_true rfl, Nat.le_of_ble_eq_true rfl⟩, hts (.static yX10_within) (nq_m (n := 8) rfl), trivial⟩ (gx_preS hK hP hD hNw [] rfl (by decide) hw) rfl rfl hl.1 rfl (lv_room (Nat.le_of_ble_eq_true rfl)) (nq_d dX1_factOf_0_g (n := 7) rfl) ⟨Nat.zero_le _, Nat.zero_le _⟩) hP hD hS hA [] [0, 1] [0, 1] rfl rfl (by decide) (by decide) (by decide) (fun _ => [(ae, .inr (1, [.int e_number, .ref ae_facts])), (ae_facts, .inl (cyI, 420, .inl e_facts))]) (fun _ => rfl) (fun r2 u H locs hw hP hD hS => ?_)
    try dsimp only at hw hP hD
    refine gx_if_ne (tgt := 20) hx hb (nq_d dX1_factOf_0_g (n := 8) rfl) (by decide) hw (fun hw => ?_) (fun hw => ?_)
    · refine lv_aload_n hx hb (nq_d dX1_factOf_0_g (n := 11) rfl) rfl (lv_at hl 0 rfl) ?_
      refine va_get (D := (dC, dI)) (ci := 1) (v := .ref ae_facts) (C := RX1) (T := TX1) (N := 2) hx hb hts hi_X1 hown hK hP 0 rfl rfl 1 (by decide) hf15 (fun _ h9 => h9) rfl (nq_d dX1_factOf_0_g (n := 12) rfl) ?_
      refine lv_iload_n hx hb (nq_d dX1_factOf_0_g (n := 13) rfl) rfl (lv_at hl 1 rfl) ?_
      refine lv_bipush (v := (7 : Int32)) hx hb (nq_d dX1_factOf_0_g (n := 14) rfl) (by decide) ?_
      refine gx_imul hx hb (nq_d dX1_factOf_0_g (n := 15) rfl) hw (fun v3 hw => ?_)
      refine lv_iload_n hx hb (nq_d dX1_factOf_0_g (n := 16) rfl) rfl (lv_at hl 2 rfl) ?_
      refine gx_iadd hx hb (nq_d dX1_factOf_0_g (n := 17) rfl) hw (fun v4 hw => ?_)
      refine gx_iald hx hb hK hP 1 1 rfl rfl (nq_d dX1_factOf_0_g (n := 18) rfl) hw (fun v5 hw => ?_)
      exact rt_i (A1 := A) hQ hx hb hr hlocks hP hD hS () [0, 1] rfl (by decide +kernel) hw (nq_d dX1_factOf_0_g (n := 19) rfl)
    · refine lv_iconst (v := ((-1) : Int32)) hx hb (nq_d dX1_factOf_0_g (n := 9) rfl) (by decide) ?_
      exact rt_i (A1 := A) hQ hx hb hr hlocks hP hD hS () [0, 1] rfl (by decide +kernel) hw (nq_d dX1_factOf_0_g (n := 10) rfl)
abbrev rmX1_find : Room := { frames := 2, cells := 0, slots := 0, locals := 44 }
theorem cd_X1_find : yX1_find.cls = RX1 ∧ yX1_find.cls ≠ "java/lang/invoke/MethodHandle" ∧ yX1_find.cls ≠ "java/lang/invoke/VarHandle" ∧ (parseMethodDescriptor yX1_find.desc).map (fun d => d.parameters.length) = some 2 := by decide +kernel
set_option maxHeartbeats 4000000 in
set_option maxRecDepth 100000 in
theorem ct_Events_find (l : Launch) (dC : Nat → ClassId) (dI : Nat → Nat → Nat) (cyB cyI cyJ cyZ : ClassId) (ae ae_facts : Nat) (sz : Nat) (e_number : Int32) (e_facts : Nat → Int32) (x1 : Int32) (x2 : Int32) (Q : Int → Prop) : Met l yX1_find wsX1_find rmX1_find (va_Pc [.ref ae, .int x1, .int x2] (cPre (dC, dI) vwCl (tyS cyB cyI cyJ cyZ) [(ae, .inr (1, [.int e_number, .ref ae_facts])), (ae_facts, .inl (cyI, 420, .inl e_facts))] sz (nf_Events_find e_number.toInt (aI 420 e_facts) x1.toInt x2.toInt Q))) (va_Qi (fun (r : Int32) (_ : Unit) => Q r.toInt ) (cPost (dC, dI) vwCl (fun _ : Unit => [(ae, .inr (1, [.int e_number, .ref ae_facts])), (ae_facts, .inl (cyI, 420, .inl e_facts))]) (va_A [(ae, .inr (1, [.int e_number, .ref ae_facts])), (ae_facts, .inl (cyI, 420, .inl e_facts))] sz)) (va_A [(ae, .inr (1, [.int e_number, .ref ae_facts])), (ae_facts, .inl (cyI, 420, .inl e_facts))] sz)) 0 0 (va_A [(ae, .inr (1, [.int e_number, .ref ae_facts])), (ae_facts, .inl (cyI, 420, .inl e_facts))] sz) := by
  refine Met.ofW (cc := cX1_find) (maxL := 4) (ret := (some .int)) (by decide) rfl ?_
  intro p e s m args below meth c s₁ B hml hv
  obtain ⟨rfl, hsz, hP, hK, hD0, hNw, hw⟩ := hv
  have hx := B.exec
  have hb := B.bytes
  have hr := B.returns
  have hts := atoms_spec (ws := wsX1_find) B.pre
  have hown : s.vm.findClass RX1 = some m.cls := findClass_of_methodNamed B.named
  have hlocks := B.notSynchronized
  subst hsz
  have hD := hD0.self (sz := s.heap.size)
  generalize hAe : va_A [(ae, .inr (1, [.int e_number, .ref ae_facts])), (ae_facts, .inl (cyI, 420, .inl e_facts))] s.heap.size = A at hD ⊢
  have hA : ∀ q : Nat, s.heap.size ≤ q → A q := fun q h => by rw [← hAe]; exact Or.inr h
  have hS : va_S A s.heap s.heap [] := va_S.rf
  have hl := lv_entry ([.ref ae, .int x1, .int x2]) (n := 4) (Nat.le_of_ble_eq_true rfl)
  rw [lg_entry_eq]
  generalize (lg_sl ([.ref ae, .int x1, .int x2]) ++ List.replicate (4 - (lg_sl ([.ref ae, .int x1, .int x2])).length) Slot.unset).toArray = ls at hl ⊢
  have hl : lv_has ls 4 [(0, .ref ae), (1, .int x1), (2, .int x2)] := hl
  refine gx_q (fun Q9 hQ => ?_)
  unfold nf_Events_find at hw
  have hi_X1 : ∀ w ∈ wsX10, w ∈ wsX1_find := (sub_c (nq_m (n := 15) rfl) (sub_c (nq_m (n := 16) rfl) sub_n))
  have hf9 : (Cond.fieldLink RX1 9 "CoatsHall$Events" (TX1 0).2.1 (TX1 0).2.2.1).before ([.ref ae, .int x1, .int x2] : List Value).toArray s = true := hts (.fieldLink RX1 9 "CoatsHall$Events" "number" "I") (nq_m (n := 1) rfl)
  refine lv_iconst (v := (0 : Int32)) hx hb (nq_d dX1_find_0_g (n := 0) rfl) (by decide) ?_
  refine lv_istore_n (lv' := [(3, .int (0 : Int32)), (0, .ref ae), (1, .int x1), (2, .int x2)]) hx hb (nq_d dX1_find_0_g (n := 1) rfl) rfl hl (by decide) rfl (fun ls hl => ?_)
  refine nlp1_el hw (fun X0_6 => ∀ (l3_1 : Int32), X0_6 = l3_1.toInt → ∀ (H : Heap) (locs : List Loc) (ls : Array Slot), va_P (dC, dI) vwCl [(ae, .inr (1, [.int e_number, .ref ae_facts])), (ae_facts, .inl (cyI, 420, .inl e_facts))] H → va_D A [(ae, .inr (1, [.int e_number, .ref ae_facts])), (ae_facts, .inl (cyI, 420, .inl e_facts))] → va_S A s.heap H locs → lv_has ls 4 [(0, .ref ae), (1, .int x1), (2, .int x2), (3, .int l3_1)] → W p l e (headSpec wsX1_find rmX1_find).room s m ([.ref ae, .int x1, .int x2] : List Value).toArray below meth c H locs 0 0 Q9 (F0 m 2 ls [])) (fun self2 hPself2 X0_6 hw l3_1 eX0_6 H locs ls hP hD hS hl => ?_) (0 : Int32) rfl _ _ _ hP hD hS (lv_sub hl [1, 2, 3, 0] rfl)
  subst eX0_6
  refine lv_iload_n hx hb (nq_d dX1_find_0_g (n := 2) rfl) rfl (lv_at hl 3 rfl) ?_
  refine lv_aload_n hx hb (nq_d dX1_find_0_g (n := 3) rfl) rfl (lv_at hl 0 rfl) ?_
  refine va_get (D := (dC, dI)) (ci := 1) (v := .int e_number) (C := RX1) (T := TX1) (N := 2) hx hb hts hi_X1 hown hK hP 0 rfl rfl 0 (by decide) hf9 (fun _ h9 => h9) rfl (nq_d dX1_find_0_g (n := 4) rfl) ?_
  refine gx_icmp_ge (tgt := 38) hx hb (nq_d dX1_find_0_g (n := 5) rfl) (by decide) hw (fun hw => ?_) (fun hw => ?_)
  · refine lv_iconst (v := ((-1) : Int32)) hx hb (nq_d dX1_find_0_g (n := 22) rfl) (by decide) ?_
    exact rt_i (A1 := A) hQ hx hb hr hlocks hP hD hS () [0, 1] rfl (by decide +kernel) hw (nq_d dX1_find_0_g (n := 23) rfl)
  · refine lv_aload_n hx hb (nq_d dX1_find_0_g (n := 6) rfl) rfl (lv_at hl 0 rfl) ?_
    refine lv_iload_n hx hb (nq_d dX1_find_0_g (n := 7) rfl) rfl (lv_at hl 3 rfl) ?_
    refine lv_iconst (v := (0 : Int32)) hx hb (nq_d dX1_find_0_g (n := 8) rfl) (by decide) ?_
    refine gx_ri (wr := []) (va_runV (As := [.int l3_1, .int (0 : Int32)]) (rest := []) ⟨hx, hb, hml, hown, hts⟩ (ct_Events_factOf l dC dI cyB cyI cyJ cyZ ae ae_facts _ e_number e_facts l3_1 (0 : Int32) _) (cwV 2 hts gX1_find_X1_factOf rfl rfl rfl cd_X1_factOf ⟨Nat.le_of_ble_eq_true rfl, Nat.le_of_ble_eq_true rfl⟩) (gx_preV hK hP hD hNw [0, 1] rfl (by decide +kernel) hw 0 (ci := 1) rfl rfl rfl) rfl rfl hl.1 rfl (lv_room (Nat.le_of_ble_eq_true rfl)) (nq_d dX1_find_0_g (n := 9) rfl) ⟨Nat.zero_le _, Nat.zero_le _⟩) hP hD hS hA [0, 1] [] [0, 1] rfl rfl (by decide) (by decide) (by decide) (fun _ => [(ae, .inr (1, [.int e_number, .ref ae_facts])), (ae_facts, .inl (cyI, 420, .inl e_facts))]) (fun _ => rfl) (fun r3 u H locs hw hP hD hS => ?_)
    try dsimp only at hw hP hD
    refine lv_iload_n hx hb (nq_d dX1_find_0_g (n := 10) rfl) rfl (lv_at hl 1 rfl) ?_
    refine jn0_el hw (fun j4 hj4 hw => ?_)
    have Jj4 : ∀  (H : Heap) (locs : List Loc) (ls : Array Slot), va_P (dC, dI) vwCl [(ae, .inr (1, [.int e_number, .ref ae_facts])), (ae_facts, .inl (cyI, 420, .inl e_facts))] H → va_D A [(ae, .inr (1, [.int e_number, .ref ae_facts])), (ae_facts, .inl (cyI, 420, .inl e_facts))] → va_S A s.heap H locs → lv_has ls 4 [(0, .ref ae), (1, .int x1), (2, .int x2), (3, .int l3_1)] → j4  → W p l e (headSpec wsX1_find rmX1_find).room s m ([.ref ae, .int x1, .int x2] : List Value).toArray below meth c H locs 0 0 Q9 (F0 m 32 ls []) := by
      intro  H locs ls hP hD hS hl hw
      have hw := hj4  hw
      refine gx_iinc (k := 3) (z := (1 : Int32)) (lv' := fun v5 => [(3, .int v5), (0, .ref ae), (1, .int x1), (2, .int x2)]) hx hb (nq_d dX1_find_0_g (n := 20) rfl) hl rfl (by decide) (by decide) (fun _ => rfl) hw (fun v5 ls hw hl => ?_)
      refine lv_goto (tgt := 2) hx hb (nq_d dX1_find_0_g (n := 21) rfl) (by decide) ?_
      exact hPself2 _ hw v5 rfl _ _ _ hP hD hS (lv_sub hl [1, 2, 3, 0] rfl)
    refine gx_icmp_ne (tgt := 32) hx hb (nq_d dX1_find_0_g (n := 11) rfl) (by decide) hw (fun hw => ?_) (fun hw => ?_)
    · exact Jj4  _ _ _ hP hD hS (lv_sub hl [0, 1, 2, 3] rfl) hw
    · refine lv_aload_n hx hb (nq_d dX1_find_0_g (n := 12) rfl) rfl (lv_at hl 0 rfl) ?_
      refine lv_iload_n hx hb (nq_d dX1_find_0_g (n := 13) rfl) rfl (lv_at hl 3 rfl) ?_
      refine lv_iconst (v := (5 : Int32)) hx hb (nq_d dX1_find_0_g (n := 14) rfl) (by decide) ?_
      refine gx_ri (wr := []) (va_runV (As := [.int l3_1, .int (5 : Int32)]) (rest := []) ⟨hx, hb, hml, hown, hts⟩ (ct_Events_factOf l dC dI cyB cyI cyJ cyZ ae ae_facts _ e_number e_facts l3_1 (5 : Int32) _) (cwV 2 hts gX1_find_X1_factOf rfl rfl rfl cd_X1_factOf ⟨Nat.le_of_ble_eq_true rfl, Nat.le_of_ble_eq_true rfl⟩) (gx_preV hK hP hD hNw [0, 1] rfl (by decide +kernel) hw 0 (ci := 1) rfl rfl rfl) rfl rfl hl.1 rfl (lv_room (Nat.le_of_ble_eq_true rfl)) (nq_d dX1_find_0_g (n := 15) rfl) ⟨Nat.zero_le _, Nat.zero_le _⟩) hP hD hS hA [0, 1] [] [0, 1] rfl rfl (by decide) (by decide) (by decide) (fun _ => [(ae, .inr (1, [.int e_number, .ref ae_facts])), (ae_facts, .inl (cyI, 420, .inl e_facts))]) (fun _ => rfl) (fun r6 u H locs hw hP hD hS => ?_)
      try dsimp only at hw hP hD
      refine lv_iload_n hx hb (nq_d dX1_find_0_g (n := 16) rfl) rfl (lv_at hl 2 rfl) ?_
      refine gx_icmp_ne (tgt := 32) hx hb (nq_d dX1_find_0_g (n := 17) rfl) (by decide) hw (fun hw => ?_) (fun hw => ?_)
      · exact Jj4  _ _ _ hP hD hS (lv_sub hl [0, 1, 2, 3] rfl) hw
      · refine lv_iload_n hx hb (nq_d dX1_find_0_g (n := 18) rfl) rfl (lv_at hl 3 rfl) ?_
        exact rt_i (A1 := A) hQ hx hb hr hlocks hP hD hS () [0, 1] rfl (by decide +kernel) hw (nq_d dX1_find_0_g (n := 19) rfl)
abbrev rmX1_wasWrong : Room := { frames := 2, cells := 0, slots := 0, locals := 44 }
theorem cd_X1_wasWrong : yX1_wasWrong.cls = RX1 ∧ yX1_wasWrong.cls ≠ "java/lang/invoke/MethodHandle" ∧ yX1_wasWrong.cls ≠ "java/lang/invoke/VarHandle" ∧ (parseMethodDescriptor yX1_wasWrong.desc).map (fun d => d.parameters.length) = some 1 := by decide +kernel
set_option maxHeartbeats 4000000 in
set_option maxRecDepth 100000 in
theorem ct_Events_wasWrong (l : Launch) (dC : Nat → ClassId) (dI : Nat → Nat → Nat) (cyB cyI cyJ cyZ : ClassId) (ae ae_facts : Nat) (sz : Nat) (e_number : Int32) (e_facts : Nat → Int32) (x1 : Int32) (Q : Int → Prop) : Met l yX1_wasWrong wsX1_wasWrong rmX1_wasWrong (va_Pc [.ref ae, .int x1] (cPre (dC, dI) vwCl (tyS cyB cyI cyJ cyZ) [(ae, .inr (1, [.int e_number, .ref ae_facts])), (ae_facts, .inl (cyI, 420, .inl e_facts))] sz (nf_Events_wasWrong e_number.toInt (aI 420 e_facts) x1.toInt Q))) (va_Qi (fun (r : Int32) (_ : Unit) => Q r.toInt ) (cPost (dC, dI) vwCl (fun _ : Unit => [(ae, .inr (1, [.int e_number, .ref ae_facts])), (ae_facts, .inl (cyI, 420, .inl e_facts))]) (va_A [(ae, .inr (1, [.int e_number, .ref ae_facts])), (ae_facts, .inl (cyI, 420, .inl e_facts))] sz)) (va_A [(ae, .inr (1, [.int e_number, .ref ae_facts])), (ae_facts, .inl (cyI, 420, .inl e_facts))] sz)) 0 0 (va_A [(ae, .inr (1, [.int e_number, .ref ae_facts])), (ae_facts, .inl (cyI, 420, .inl e_facts))] sz) := by
  refine Met.ofW (cc := cX1_wasWrong) (maxL := 2) (ret := (some .boolean)) (by decide) rfl ?_
  intro p e s m args below meth c s₁ B hml hv
  obtain ⟨rfl, hsz, hP, hK, hD0, hNw, hw⟩ := hv
  have hx := B.exec
  have hb := B.bytes
  have hr := B.returns
  have hts := atoms_spec (ws := wsX1_wasWrong) B.pre
  have hown : s.vm.findClass RX1 = some m.cls := findClass_of_methodNamed B.named
  have hlocks := B.notSynchronized
  subst hsz
  have hD := hD0.self (sz := s.heap.size)
  generalize hAe : va_A [(ae, .inr (1, [.int e_number, .ref ae_facts])), (ae_facts, .inl (cyI, 420, .inl e_facts))] s.heap.size = A at hD ⊢
  have hA : ∀ q : Nat, s.heap.size ≤ q → A q := fun q h => by rw [← hAe]; exact Or.inr h
  have hS : va_S A s.heap s.heap [] := va_S.rf
  have hl := lv_entry ([.ref ae, .int x1]) (n := 2) (Nat.le_of_ble_eq_true rfl)
  rw [lg_entry_eq]
  generalize (lg_sl ([.ref ae, .int x1]) ++ List.replicate (2 - (lg_sl ([.ref ae, .int x1])).length) Slot.unset).toArray = ls at hl ⊢
  have hl : lv_has ls 2 [(0, .ref ae), (1, .int x1)] := hl
  refine gx_q (fun Q9 hQ => ?_)
  unfold nf_Events_wasWrong at hw
  refine lv_aload_n hx hb (nq_d dX1_wasWrong_0_g (n := 0) rfl) rfl (lv_at hl 0 rfl) ?_
  refine lv_iload_n hx hb (nq_d dX1_wasWrong_0_g (n := 1) rfl) rfl (lv_at hl 1 rfl) ?_
  refine lv_bipush (v := (6 : Int32)) hx hb (nq_d dX1_wasWrong_0_g (n := 2) rfl) (by decide) ?_
  refine gx_ri (wr := []) (va_runV (As := [.int x1, .int (6 : Int32)]) (rest := []) ⟨hx, hb, hml, hown, hts⟩ (ct_Events_factOf l dC dI cyB cyI cyJ cyZ ae ae_facts _ e_number e_facts x1 (6 : Int32) _) (cwV 2 hts gX1_wasWrong_X1_factOf rfl rfl rfl cd_X1_factOf ⟨Nat.le_of_ble_eq_true rfl, Nat.le_of_ble_eq_true rfl⟩) (gx_preV hK hP hD hNw [0, 1] rfl (by decide +kernel) hw 0 (ci := 1) rfl rfl rfl) rfl rfl hl.1 rfl (lv_room (Nat.le_of_ble_eq_true rfl)) (nq_d dX1_wasWrong_0_g (n := 3) rfl) ⟨Nat.zero_le _, Nat.zero_le _⟩) hP hD hS hA [0, 1] [] [0, 1] rfl rfl (by decide) (by decide) (by decide) (fun _ => [(ae, .inr (1, [.int e_number, .ref ae_facts])), (ae_facts, .inl (cyI, 420, .inl e_facts))]) (fun _ => rfl) (fun r1 u H locs hw hP hD hS => ?_)
  try dsimp only at hw hP hD
  refine lv_iconst (v := (1 : Int32)) hx hb (nq_d dX1_wasWrong_0_g (n := 4) rfl) (by decide) ?_
  refine gx_icmp_ne (tgt := 15) hx hb (nq_d dX1_wasWrong_0_g (n := 5) rfl) (by decide) hw (fun hw => ?_) (fun hw => ?_)
  · refine lv_iconst (v := (0 : Int32)) hx hb (nq_d dX1_wasWrong_0_g (n := 8) rfl) (by decide) ?_
    exact rt_zl (A1 := A) hQ hx hb hr hlocks hP hD hS () [0, 1] rfl (by decide +kernel) rfl hw (nq_d dX1_wasWrong_0_g (n := 9) rfl)
  · refine lv_iconst (v := (1 : Int32)) hx hb (nq_d dX1_wasWrong_0_g (n := 6) rfl) (by decide) ?_
    refine lv_goto (tgt := 16) hx hb (nq_d dX1_wasWrong_0_g (n := 7) rfl) (by decide) ?_
    exact rt_zl (A1 := A) hQ hx hb hr hlocks hP hD hS () [0, 1] rfl (by decide +kernel) rfl hw (nq_d dX1_wasWrong_0_g (n := 9) rfl)
abbrev rmX1_firstWrong : Room := { frames := 3, cells := 0, slots := 0, locals := 67 }
theorem cd_X1_firstWrong : yX1_firstWrong.cls = RX1 ∧ yX1_firstWrong.cls ≠ "java/lang/invoke/MethodHandle" ∧ yX1_firstWrong.cls ≠ "java/lang/invoke/VarHandle" ∧ (parseMethodDescriptor yX1_firstWrong.desc).map (fun d => d.parameters.length) = some 1 := by decide +kernel
set_option maxHeartbeats 4000000 in
set_option maxRecDepth 100000 in
theorem ct_Events_firstWrong (l : Launch) (dC : Nat → ClassId) (dI : Nat → Nat → Nat) (cyB cyI cyJ cyZ : ClassId) (ae ae_facts : Nat) (sz : Nat) (e_number : Int32) (e_facts : Nat → Int32) (x1 : Int32) (Q : Int → Prop) : Met l yX1_firstWrong wsX1_firstWrong rmX1_firstWrong (va_Pc [.ref ae, .int x1] (cPre (dC, dI) vwCl (tyS cyB cyI cyJ cyZ) [(ae, .inr (1, [.int e_number, .ref ae_facts])), (ae_facts, .inl (cyI, 420, .inl e_facts))] sz (nf_Events_firstWrong e_number.toInt (aI 420 e_facts) x1.toInt Q))) (va_Qi (fun (r : Int32) (_ : Unit) => Q r.toInt ) (cPost (dC, dI) vwCl (fun _ : Unit => [(ae, .inr (1, [.int e_number, .ref ae_facts])), (ae_facts, .inl (cyI, 420, .inl e_facts))]) (va_A [(ae, .inr (1, [.int e_number, .ref ae_facts])), (ae_facts, .inl (cyI, 420, .inl e_facts))] sz)) (va_A [(ae, .inr (1, [.int e_number, .ref ae_facts])), (ae_facts, .inl (cyI, 420, .inl e_facts))] sz)) 0 0 (va_A [(ae, .inr (1, [.int e_number, .ref ae_facts])), (ae_facts, .inl (cyI, 420, .inl e_facts))] sz) := by
  refine Met.ofW (cc := cX1_firstWrong) (maxL := 5) (ret := (some .int)) (by decide) rfl ?_
  intro p e s m args below meth c s₁ B hml hv
  obtain ⟨rfl, hsz, hP, hK, hD0, hNw, hw⟩ := hv
  have hx := B.exec
  have hb := B.bytes
  have hr := B.returns
  have hts := atoms_spec (ws := wsX1_firstWrong) B.pre
  have hown : s.vm.findClass RX1 = some m.cls := findClass_of_methodNamed B.named
  have hlocks := B.notSynchronized
  subst hsz
  have hD := hD0.self (sz := s.heap.size)
  generalize hAe : va_A [(ae, .inr (1, [.int e_number, .ref ae_facts])), (ae_facts, .inl (cyI, 420, .inl e_facts))] s.heap.size = A at hD ⊢
  have hA : ∀ q : Nat, s.heap.size ≤ q → A q := fun q h => by rw [← hAe]; exact Or.inr h
  have hS : va_S A s.heap s.heap [] := va_S.rf
  have hl := lv_entry ([.ref ae, .int x1]) (n := 5) (Nat.le_of_ble_eq_true rfl)
  rw [lg_entry_eq]
  generalize (lg_sl ([.ref ae, .int x1]) ++ List.replicate (5 - (lg_sl ([.ref ae, .int x1])).length) Slot.unset).toArray = ls at hl ⊢
  have hl : lv_has ls 5 [(0, .ref ae), (1, .int x1)] := hl
  refine gx_q (fun Q9 hQ => ?_)
  unfold nf_Events_firstWrong at hw
  refine lv_aload_n hx hb (nq_d dX1_firstWrong_0_g (n := 0) rfl) rfl (lv_at hl 0 rfl) ?_
  refine lv_iconst (v := (0 : Int32)) hx hb (nq_d dX1_firstWrong_0_g (n := 1) rfl) (by decide) ?_
  refine lv_iload_n hx hb (nq_d dX1_firstWrong_0_g (n := 2) rfl) rfl (lv_at hl 1 rfl) ?_
  refine gx_ri (wr := []) (va_runV (As := [.int (0 : Int32), .int x1]) (rest := []) ⟨hx, hb, hml, hown, hts⟩ (ct_Events_find l dC dI cyB cyI cyJ cyZ ae ae_facts _ e_number e_facts (0 : Int32) x1 _) (cwV 2 hts gX1_firstWrong_X1_find rfl rfl rfl cd_X1_find ⟨Nat.le_of_ble_eq_true rfl, Nat.le_of_ble_eq_true rfl⟩) (gx_preV hK hP hD hNw [0, 1] rfl (by decide +kernel) hw 0 (ci := 1) rfl rfl rfl) rfl rfl hl.1 rfl (lv_room (Nat.le_of_ble_eq_true rfl)) (nq_d dX1_firstWrong_0_g (n := 3) rfl) ⟨Nat.zero_le _, Nat.zero_le _⟩) hP hD hS hA [0, 1] [] [0, 1] rfl rfl (by decide) (by decide) (by decide) (fun _ => [(ae, .inr (1, [.int e_number, .ref ae_facts])), (ae_facts, .inl (cyI, 420, .inl e_facts))]) (fun _ => rfl) (fun r1 u H locs hw hP hD hS => ?_)
  try dsimp only at hw hP hD
  refine lv_istore_n (lv' := [(2, .int r1), (0, .ref ae), (1, .int x1)]) hx hb (nq_d dX1_firstWrong_0_g (n := 4) rfl) rfl hl (by decide) rfl (fun ls hl => ?_)
  refine lv_aload_n hx hb (nq_d dX1_firstWrong_0_g (n := 5) rfl) rfl (lv_at hl 1 rfl) ?_
  refine lv_iload_n hx hb (nq_d dX1_firstWrong_0_g (n := 6) rfl) rfl (lv_at hl 0 rfl) ?_
  refine gx_ri (wr := []) (va_runV (As := [.int r1]) (rest := []) ⟨hx, hb, hml, hown, hts⟩ (ct_Events_wasWrong l dC dI cyB cyI cyJ cyZ ae ae_facts _ e_number e_facts r1 _) (cwV 1 hts gX1_firstWrong_X1_wasWrong rfl rfl rfl cd_X1_wasWrong ⟨Nat.le_of_ble_eq_true rfl, Nat.le_of_ble_eq_true rfl⟩) (gx_preV hK hP hD hNw [0, 1] rfl (by decide +kernel) hw 0 (ci := 1) rfl rfl rfl) rfl rfl hl.1 rfl (lv_room (Nat.le_of_ble_eq_true rfl)) (nq_d dX1_firstWrong_0_g (n := 7) rfl) ⟨Nat.zero_le _, Nat.zero_le _⟩) hP hD hS hA [0, 1] [] [0, 1] rfl rfl (by decide) (by decide) (by decide) (fun _ => [(ae, .inr (1, [.int e_number, .ref ae_facts])), (ae_facts, .inl (cyI, 420, .inl e_facts))]) (fun _ => rfl) (fun r2 u H locs hw hP hD hS => ?_)
  try dsimp only at hw hP hD
  refine gx_if_eq (tgt := 17) hx hb (nq_d dX1_firstWrong_0_g (n := 8) rfl) (by decide) hw (fun hw => ?_) (fun hw => ?_)
  · refine lv_aload_n hx hb (nq_d dX1_firstWrong_0_g (n := 11) rfl) rfl (lv_at hl 1 rfl) ?_
    refine lv_iconst (v := (1 : Int32)) hx hb (nq_d dX1_firstWrong_0_g (n := 12) rfl) (by decide) ?_
    refine lv_iload_n hx hb (nq_d dX1_firstWrong_0_g (n := 13) rfl) rfl (lv_at hl 2 rfl) ?_
    refine gx_ri (wr := []) (va_runV (As := [.int (1 : Int32), .int x1]) (rest := []) ⟨hx, hb, hml, hown, hts⟩ (ct_Events_find l dC dI cyB cyI cyJ cyZ ae ae_facts _ e_number e_facts (1 : Int32) x1 _) (cwV 2 hts gX1_firstWrong_X1_find rfl rfl rfl cd_X1_find ⟨Nat.le_of_ble_eq_true rfl, Nat.le_of_ble_eq_true rfl⟩) (gx_preV hK hP hD hNw [0, 1] rfl (by decide +kernel) hw 0 (ci := 1) rfl rfl rfl) rfl rfl hl.1 rfl (lv_room (Nat.le_of_ble_eq_true rfl)) (nq_d dX1_firstWrong_0_g (n := 14) rfl) ⟨Nat.zero_le _, Nat.zero_le _⟩) hP hD hS hA [0, 1] [] [0, 1] rfl rfl (by decide) (by decide) (by decide) (fun _ => [(ae, .inr (1, [.int e_number, .ref ae_facts])), (ae_facts, .inl (cyI, 420, .inl e_facts))]) (fun _ => rfl) (fun r3 u H locs hw hP hD hS => ?_)
    try dsimp only at hw hP hD
    refine lv_istore_n (lv' := [(3, .int r3), (2, .int r1), (0, .ref ae), (1, .int x1)]) hx hb (nq_d dX1_firstWrong_0_g (n := 15) rfl) rfl hl (by decide) rfl (fun ls hl => ?_)
    refine lv_iload_n hx hb (nq_d dX1_firstWrong_0_g (n := 16) rfl) rfl (lv_at hl 0 rfl) ?_
    refine lv_iconst (v := ((-1) : Int32)) hx hb (nq_d dX1_firstWrong_0_g (n := 17) rfl) (by decide) ?_
    refine gx_icmp_ne (tgt := 31) hx hb (nq_d dX1_firstWrong_0_g (n := 18) rfl) (by decide) hw (fun hw => ?_) (fun hw => ?_)
    · refine lv_aload_n hx hb (nq_d dX1_firstWrong_0_g (n := 21) rfl) rfl (lv_at hl 2 rfl) ?_
      refine lv_iload_n hx hb (nq_d dX1_firstWrong_0_g (n := 22) rfl) rfl (lv_at hl 0 rfl) ?_
      refine gx_ri (wr := []) (va_runV (As := [.int r3]) (rest := []) ⟨hx, hb, hml, hown, hts⟩ (ct_Events_wasWrong l dC dI cyB cyI cyJ cyZ ae ae_facts _ e_number e_facts r3 _) (cwV 1 hts gX1_firstWrong_X1_wasWrong rfl rfl rfl cd_X1_wasWrong ⟨Nat.le_of_ble_eq_true rfl, Nat.le_of_ble_eq_true rfl⟩) (gx_preV hK hP hD hNw [0, 1] rfl (by decide +kernel) hw 0 (ci := 1) rfl rfl rfl) rfl rfl hl.1 rfl (lv_room (Nat.le_of_ble_eq_true rfl)) (nq_d dX1_firstWrong_0_g (n := 23) rfl) ⟨Nat.zero_le _, Nat.zero_le _⟩) hP hD hS hA [0, 1] [] [0, 1] rfl rfl (by decide) (by decide) (by decide) (fun _ => [(ae, .inr (1, [.int e_number, .ref ae_facts])), (ae_facts, .inl (cyI, 420, .inl e_facts))]) (fun _ => rfl) (fun r4 u H locs hw hP hD hS => ?_)
      try dsimp only at hw hP hD
      refine gx_if_eq (tgt := 41) hx hb (nq_d dX1_firstWrong_0_g (n := 24) rfl) (by decide) hw (fun hw => ?_) (fun hw => ?_)
      · refine lv_aload_n hx hb (nq_d dX1_firstWrong_0_g (n := 27) rfl) rfl (lv_at hl 2 rfl) ?_
        refine lv_iconst (v := (0 : Int32)) hx hb (nq_d dX1_firstWrong_0_g (n := 28) rfl) (by decide) ?_
        refine lv_aload_n hx hb (nq_d dX1_firstWrong_0_g (n := 29) rfl) rfl (lv_at hl 2 rfl) ?_
        refine lv_iload_n hx hb (nq_d dX1_firstWrong_0_g (n := 30) rfl) rfl (lv_at hl 0 rfl) ?_
        refine lv_iconst (v := (2 : Int32)) hx hb (nq_d dX1_firstWrong_0_g (n := 31) rfl) (by decide) ?_
        refine gx_ri (wr := []) (va_runV (As := [.int r3, .int (2 : Int32)]) (rest := [.int (0 : Int32), .ref ae]) ⟨hx, hb, hml, hown, hts⟩ (ct_Events_factOf l dC dI cyB cyI cyJ cyZ ae ae_facts _ e_number e_facts r3 (2 : Int32) _) (cwV 2 hts gX1_firstWrong_X1_factOf rfl rfl rfl cd_X1_factOf ⟨Nat.le_of_ble_eq_true rfl, Nat.le_of_ble_eq_true rfl⟩) (gx_preV hK hP hD hNw [0, 1] rfl (by decide +kernel) hw 0 (ci := 1) rfl rfl rfl) rfl rfl hl.1 rfl (lv_room (Nat.le_of_ble_eq_true rfl)) (nq_d dX1_firstWrong_0_g (n := 32) rfl) ⟨Nat.zero_le _, Nat.zero_le _⟩) hP hD hS hA [0, 1] [] [0, 1] rfl rfl (by decide) (by decide) (by decide) (fun _ => [(ae, .inr (1, [.int e_number, .ref ae_facts])), (ae_facts, .inl (cyI, 420, .inl e_facts))]) (fun _ => rfl) (fun r5 u H locs hw hP hD hS => ?_)
        try dsimp only at hw hP hD
        refine gx_ri (wr := []) (va_runV (As := [.int (0 : Int32), .int r5]) (rest := []) ⟨hx, hb, hml, hown, hts⟩ (ct_Events_find l dC dI cyB cyI cyJ cyZ ae ae_facts _ e_number e_facts (0 : Int32) r5 _) (cwV 2 hts gX1_firstWrong_X1_find rfl rfl rfl cd_X1_find ⟨Nat.le_of_ble_eq_true rfl, Nat.le_of_ble_eq_true rfl⟩) (gx_preV hK hP hD hNw [0, 1] rfl (by decide +kernel) hw 0 (ci := 1) rfl rfl rfl) rfl rfl hl.1 rfl (lv_room (Nat.le_of_ble_eq_true rfl)) (nq_d dX1_firstWrong_0_g (n := 33) rfl) ⟨Nat.zero_le _, Nat.zero_le _⟩) hP hD hS hA [0, 1] [] [0, 1] rfl rfl (by decide) (by decide) (by decide) (fun _ => [(ae, .inr (1, [.int e_number, .ref ae_facts])), (ae_facts, .inl (cyI, 420, .inl e_facts))]) (fun _ => rfl) (fun r6 u H locs hw hP hD hS => ?_)
        try dsimp only at hw hP hD
        refine lv_istore (lv' := [(4, .int r6), (3, .int r3), (2, .int r1), (0, .ref ae), (1, .int x1)]) hx hb (nq_d dX1_firstWrong_0_g (n := 34) rfl) hl (by decide) rfl (fun ls hl => ?_)
        refine lv_aload_n hx hb (nq_d dX1_firstWrong_0_g (n := 35) rfl) rfl (lv_at hl 3 rfl) ?_
        refine lv_iload hx hb (nq_d dX1_firstWrong_0_g (n := 36) rfl) (lv_at hl 0 rfl) ?_
        refine gx_ri (wr := []) (va_runV (As := [.int r6]) (rest := []) ⟨hx, hb, hml, hown, hts⟩ (ct_Events_wasWrong l dC dI cyB cyI cyJ cyZ ae ae_facts _ e_number e_facts r6 _) (cwV 1 hts gX1_firstWrong_X1_wasWrong rfl rfl rfl cd_X1_wasWrong ⟨Nat.le_of_ble_eq_true rfl, Nat.le_of_ble_eq_true rfl⟩) (gx_preV hK hP hD hNw [0, 1] rfl (by decide +kernel) hw 0 (ci := 1) rfl rfl rfl) rfl rfl hl.1 rfl (lv_room (Nat.le_of_ble_eq_true rfl)) (nq_d dX1_firstWrong_0_g (n := 37) rfl) ⟨Nat.zero_le _, Nat.zero_le _⟩) hP hD hS hA [0, 1] [] [0, 1] rfl rfl (by decide) (by decide) (by decide) (fun _ => [(ae, .inr (1, [.int e_number, .ref ae_facts])), (ae_facts, .inl (cyI, 420, .inl e_facts))]) (fun _ => rfl) (fun r7 u H locs hw hP hD hS => ?_)
        try dsimp only at hw hP hD
        refine gx_if_eq (tgt := 68) hx hb (nq_d dX1_firstWrong_0_g (n := 38) rfl) (by decide) hw (fun hw => ?_) (fun hw => ?_)
        · refine lv_iconst (v := ((-1) : Int32)) hx hb (nq_d dX1_firstWrong_65_g (n := 1) rfl) (by decide) ?_
          exact rt_i (A1 := A) hQ hx hb hr hlocks hP hD hS () [0, 1] rfl (by decide +kernel) hw (nq_d dX1_firstWrong_65_g (n := 2) rfl)
        · refine lv_iload hx hb (nq_d dX1_firstWrong_0_g (n := 39) rfl) (lv_at hl 0 rfl) ?_
          refine lv_goto (tgt := 69) hx hb (nq_d dX1_firstWrong_65_g (n := 0) rfl) (by decide) ?_
          exact rt_i (A1 := A) hQ hx hb hr hlocks hP hD hS () [0, 1] rfl (by decide +kernel) hw (nq_d dX1_firstWrong_65_g (n := 2) rfl)
      · refine lv_iload_n hx hb (nq_d dX1_firstWrong_0_g (n := 25) rfl) rfl (lv_at hl 0 rfl) ?_
        exact rt_i (A1 := A) hQ hx hb hr hlocks hP hD hS () [0, 1] rfl (by decide +kernel) hw (nq_d dX1_firstWrong_0_g (n := 26) rfl)
    · refine lv_iconst (v := ((-1) : Int32)) hx hb (nq_d dX1_firstWrong_0_g (n := 19) rfl) (by decide) ?_
      exact rt_i (A1 := A) hQ hx hb hr hlocks hP hD hS () [0, 1] rfl (by decide +kernel) hw (nq_d dX1_firstWrong_0_g (n := 20) rfl)
  · refine lv_iload_n hx hb (nq_d dX1_firstWrong_0_g (n := 9) rfl) rfl (lv_at hl 0 rfl) ?_
    exact rt_i (A1 := A) hQ hx hb hr hlocks hP hD hS () [0, 1] rfl (by decide +kernel) hw (nq_d dX1_firstWrong_0_g (n := 10) rfl)
abbrev rmX2_copyFrom : Room := { frames := 1, cells := 0, slots := 0, locals := 24 }
theorem cd_X2_copyFrom : yX2_copyFrom.cls = RX2 ∧ yX2_copyFrom.cls ≠ "java/lang/invoke/MethodHandle" ∧ yX2_copyFrom.cls ≠ "java/lang/invoke/VarHandle" ∧ (parseMethodDescriptor yX2_copyFrom.desc).map (fun d => d.parameters.length) = some 1 := by decide +kernel
set_option maxHeartbeats 4000000 in
set_option maxRecDepth 100000 in
theorem ct_Guests_copyFrom (l : Launch) (dC : Nat → ClassId) (dI : Nat → Nat → Nat) (cyB cyI cyJ cyZ : ClassId) (ag ag_sort ag_kind ag_tip ag_marks ag_brass ag_peg ag_has ayg ayg_sort ayg_kind ayg_tip ayg_marks ayg_brass ayg_peg ayg_has : Nat) (sz : Nat) (g_number : Int32) (yg_number : Int32) (g_sort : Nat → Int32) (g_kind : Nat → Int32) (g_tip : Nat → Int32) (g_marks : Nat → Int32) (g_brass : Nat → Int32) (g_peg : Nat → Int32) (g_has : Nat → Int32) (yg_sort : Nat → Int32) (yg_kind : Nat → Int32) (yg_tip : Nat → Int32) (yg_marks : Nat → Int32) (yg_brass : Nat → Int32) (yg_peg : Nat → Int32) (yg_has : Nat → Int32) (Q : Int → (Int → Int) → (Int → Int) → (Int → Int) → (Int → Int) → (Int → Int) → (Int → Int) → (Int → Int) → Prop) : Met l yX2_copyFrom wsX2_copyFrom rmX2_copyFrom (va_Pc [.ref ag, .ref ayg] (cPre (dC, dI) vwCl (tyS cyB cyI cyJ cyZ) [(ag, .inr (2, [.int g_number, .ref ag_sort, .ref ag_kind, .ref ag_tip, .ref ag_marks, .ref ag_brass, .ref ag_peg, .ref ag_has])), (ag_sort, .inl (cyI, 16, .inl g_sort)), (ag_kind, .inl (cyI, 16, .inl g_kind)), (ag_tip, .inl (cyI, 16, .inl g_tip)), (ag_marks, .inl (cyI, 16, .inl g_marks)), (ag_brass, .inl (cyI, 16, .inl g_brass)), (ag_peg, .inl (cyI, 16, .inl g_peg)), (ag_has, .inl (cyI, 16, .inl g_has)), (ayg, .inr (2, [.int yg_number, .ref ayg_sort, .ref ayg_kind, .ref ayg_tip, .ref ayg_marks, .ref ayg_brass, .ref ayg_peg, .ref ayg_has])), (ayg_sort, .inl (cyI, 16, .inl yg_sort)), (ayg_kind, .inl (cyI, 16, .inl yg_kind)), (ayg_tip, .inl (cyI, 16, .inl yg_tip)), (ayg_marks, .inl (cyI, 16, .inl yg_marks)), (ayg_brass, .inl (cyI, 16, .inl yg_brass)), (ayg_peg, .inl (cyI, 16, .inl yg_peg)), (ayg_has, .inl (cyI, 16, .inl yg_has))] sz (nf_Guests_copyFrom g_number.toInt (aI 16 g_sort) (aI 16 g_kind) (aI 16 g_tip) (aI 16 g_marks) (aI 16 g_brass) (aI 16 g_peg) (aI 16 g_has) yg_number.toInt (aI 16 yg_sort) (aI 16 yg_kind) (aI 16 yg_tip) (aI 16 yg_marks) (aI 16 yg_brass) (aI 16 yg_peg) (aI 16 yg_has)  Q))) (va_Qv (fun (u : Int32 × (Nat → Int32) × (Nat → Int32) × (Nat → Int32) × (Nat → Int32) × (Nat → Int32) × (Nat → Int32) × (Nat → Int32)) => Q (u.1).toInt (aI 16 (u.2.1)) (aI 16 (u.2.2.1)) (aI 16 (u.2.2.2.1)) (aI 16 (u.2.2.2.2.1)) (aI 16 (u.2.2.2.2.2.1)) (aI 16 (u.2.2.2.2.2.2.1)) (aI 16 (u.2.2.2.2.2.2.2))) (cPost (dC, dI) vwCl (fun u : Int32 × (Nat → Int32) × (Nat → Int32) × (Nat → Int32) × (Nat → Int32) × (Nat → Int32) × (Nat → Int32) × (Nat → Int32) => [(ag, .inr (2, [.int u.1, .ref ag_sort, .ref ag_kind, .ref ag_tip, .ref ag_marks, .ref ag_brass, .ref ag_peg, .ref ag_has])), (ag_sort, .inl (cyI, 16, .inl (u.2.1))), (ag_kind, .inl (cyI, 16, .inl (u.2.2.1))), (ag_tip, .inl (cyI, 16, .inl (u.2.2.2.1))), (ag_marks, .inl (cyI, 16, .inl (u.2.2.2.2.1))), (ag_brass, .inl (cyI, 16, .inl (u.2.2.2.2.2.1))), (ag_peg, .inl (cyI, 16, .inl (u.2.2.2.2.2.2.1))), (ag_has, .inl (cyI, 16, .inl (u.2.2.2.2.2.2.2))), (ayg, .inr (2, [.int yg_number, .ref ayg_sort, .ref ayg_kind, .ref ayg_tip, .ref ayg_marks, .ref ayg_brass, .ref ayg_peg, .ref ayg_has])), (ayg_sort, .inl (cyI, 16, .inl yg_sort)), (ayg_kind, .inl (cyI, 16, .inl yg_kind)), (ayg_tip, .inl (cyI, 16, .inl yg_tip)), (ayg_marks, .inl (cyI, 16, .inl yg_marks)), (ayg_brass, .inl (cyI, 16, .inl yg_brass)), (ayg_peg, .inl (cyI, 16, .inl yg_peg)), (ayg_has, .inl (cyI, 16, .inl yg_has))]) (va_A [(ag, .inr (2, [.int g_number, .ref ag_sort, .ref ag_kind, .ref ag_tip, .ref ag_marks, .ref ag_brass, .ref ag_peg, .ref ag_has])), (ag_sort, .inl (cyI, 16, .inl g_sort)), (ag_kind, .inl (cyI, 16, .inl g_kind)), (ag_tip, .inl (cyI, 16, .inl g_tip)), (ag_marks, .inl (cyI, 16, .inl g_marks)), (ag_brass, .inl (cyI, 16, .inl g_brass)), (ag_peg, .inl (cyI, 16, .inl g_peg)), (ag_has, .inl (cyI, 16, .inl g_has)), (ayg, .inr (2, [.int yg_number, .ref ayg_sort, .ref ayg_kind, .ref ayg_tip, .ref ayg_marks, .ref ayg_brass, .ref ayg_peg, .ref ayg_has])), (ayg_sort, .inl (cyI, 16, .inl yg_sort)), (ayg_kind, .inl (cyI, 16, .inl yg_kind)), (ayg_tip, .inl (cyI, 16, .inl yg_tip)), (ayg_marks, .inl (cyI, 16, .inl yg_marks)), (ayg_brass, .inl (cyI, 16, .inl yg_brass)), (ayg_peg, .inl (cyI, 16, .inl yg_peg)), (ayg_has, .inl (cyI, 16, .inl yg_has))] sz)) (va_A [(ag, .inr (2, [.int g_number, .ref ag_sort, .ref ag_kind, .ref ag_tip, .ref ag_marks, .ref ag_brass, .ref ag_peg, .ref ag_has])), (ag_sort, .inl (cyI, 16, .inl g_sort)), (ag_kind, .inl (cyI, 16, .inl g_kind)), (ag_tip, .inl (cyI, 16, .inl g_tip)), (ag_marks, .inl (cyI, 16, .inl g_marks)), (ag_brass, .inl (cyI, 16, .inl g_brass)), (ag_peg, .inl (cyI, 16, .inl g_peg)), (ag_has, .inl (cyI, 16, .inl g_has)), (ayg, .inr (2, [.int yg_number, .ref ayg_sort, .ref ayg_kind, .ref ayg_tip, .ref ayg_marks, .ref ayg_brass, .ref ayg_peg, .ref ayg_has])), (ayg_sort, .inl (cyI, 16, .inl yg_sort)), (ayg_kind, .inl (cyI, 16, .inl yg_kind)), (ayg_tip, .inl (cyI, 16, .inl yg_tip)), (ayg_marks, .inl (cyI, 16, .inl yg_marks)), (ayg_brass, .inl (cyI, 16, .inl yg_brass)), (ayg_peg, .inl (cyI, 16, .inl yg_peg)), (ayg_has, .inl (cyI, 16, .inl yg_has))] sz)) 0 0 (va_A [(ag, .inr (2, [.int g_number, .ref ag_sort, .ref ag_kind, .ref ag_tip, .ref ag_marks, .ref ag_brass, .ref ag_peg, .ref ag_has])), (ag_sort, .inl (cyI, 16, .inl g_sort)), (ag_kind, .inl (cyI, 16, .inl g_kind)), (ag_tip, .inl (cyI, 16, .inl g_tip)), (ag_marks, .inl (cyI, 16, .inl g_marks)), (ag_brass, .inl (cyI, 16, .inl g_brass)), (ag_peg, .inl (cyI, 16, .inl g_peg)), (ag_has, .inl (cyI, 16, .inl g_has)), (ayg, .inr (2, [.int yg_number, .ref ayg_sort, .ref ayg_kind, .ref ayg_tip, .ref ayg_marks, .ref ayg_brass, .ref ayg_peg, .ref ayg_has])), (ayg_sort, .inl (cyI, 16, .inl yg_sort)), (ayg_kind, .inl (cyI, 16, .inl yg_kind)), (ayg_tip, .inl (cyI, 16, .inl yg_tip)), (ayg_marks, .inl (cyI, 16, .inl yg_marks)), (ayg_brass, .inl (cyI, 16, .inl yg_brass)), (ayg_peg, .inl (cyI, 16, .inl yg_peg)), (ayg_has, .inl (cyI, 16, .inl yg_has))] sz) := by
  refine Met.ofW (cc := cX2_copyFrom) (maxL := 2) (ret := none) (by decide) rfl ?_
  intro p e s m args below meth c s₁ B hml hv
  obtain ⟨rfl, hsz, hP, hK, hD0, hNw, hw⟩ := hv
  have hx := B.exec
  have hb := B.bytes
  have hr := B.returns
  have hts := atoms_spec (ws := wsX2_copyFrom) B.pre
  have hown : s.vm.findClass RX2 = some m.cls := findClass_of_methodNamed B.named
  have hlocks := B.notSynchronized
  subst hsz
  have hD := hD0.self (sz := s.heap.size)
  generalize hAe : va_A [(ag, .inr (2, [.int g_number, .ref ag_sort, .ref ag_kind, .ref ag_tip, .ref ag_marks, .ref ag_brass, .ref ag_peg, .ref ag_has])), (ag_sort, .inl (cyI, 16, .inl g_sort)), (ag_kind, .inl (cyI, 16, .inl g_kind)), (ag_tip, .inl (cyI, 16, .inl g_tip)), (ag_marks, .inl (cyI, 16, .inl g_marks)), (ag_brass, .inl (cyI, 16, .inl g_brass)), (ag_peg, .inl (cyI, 16, .inl g_peg)), (ag_has, .inl (cyI, 16, .inl g_has)), (ayg, .inr (2, [.int yg_number, .ref ayg_sort, .ref ayg_kind, .ref ayg_tip, .ref ayg_marks, .ref ayg_brass, .ref ayg_peg, .ref ayg_has])), (ayg_sort, .inl (cyI, 16, .inl yg_sort)), (ayg_kind, .inl (cyI, 16, .inl yg_kind)), (ayg_tip, .inl (cyI, 16, .inl yg_tip)), (ayg_marks, .inl (cyI, 16, .inl yg_marks)), (ayg_brass, .inl (cyI, 16, .inl yg_brass)), (ayg_peg, .inl (cyI, 16, .inl yg_peg)), (ayg_has, .inl (cyI, 16, .inl yg_has))] s.heap.size = A at hD ⊢
  have hA : ∀ q : Nat, s.heap.size ≤ q → A q := fun q h => by rw [← hAe]; exact Or.inr h
  have hS : va_S A s.heap s.heap [] := va_S.rf
  have hl := lv_entry ([.ref ag, .ref ayg]) (n := 2) (Nat.le_of_ble_eq_true rfl)
  rw [lg_entry_eq]
  generalize (lg_sl ([.ref ag, .ref ayg]) ++ List.replicate (2 - (lg_sl ([.ref ag, .ref ayg])).length) Slot.unset).toArray = ls at hl ⊢
  have hl : lv_has ls 2 [(0, .ref ag), (1, .ref ayg)] := hl
  refine gx_q (fun Q9 hQ => ?_)
  unfold nf_Guests_copyFrom at hw
  have hi_X2 : ∀ w ∈ wsX20, w ∈ wsX2_copyFrom := (sub_c (nq_m (n := 13) rfl) (sub_c (nq_m (n := 14) rfl) (sub_c (nq_m (n := 15) rfl) (sub_c (nq_m (n := 16) rfl) (sub_c (nq_m (n := 17) rfl) (sub_c (nq_m (n := 18) rfl) (sub_c (nq_m (n := 19) rfl) (sub_c (nq_m (n := 20) rfl) sub_n))))))))
  have hf9 : (Cond.fieldLink RX2 9 "CoatsHall$Guests" (TX2 0).2.1 (TX2 0).2.2.1).before ([.ref ag, .ref ayg] : List Value).toArray s = true := hts (.fieldLink RX2 9 "CoatsHall$Guests" "number" "I") (nq_m (n := 1) rfl)
  have hf15 : (Cond.fieldLink RX2 15 "CoatsHall$Guests" (TX2 1).2.1 (TX2 1).2.2.1).before ([.ref ag, .ref ayg] : List Value).toArray s = true := hts (.fieldLink RX2 15 "CoatsHall$Guests" "sort" "[I") (nq_m (n := 2) rfl)
  have hf19 : (Cond.fieldLink RX2 19 "CoatsHall$Guests" (TX2 2).2.1 (TX2 2).2.2.1).before ([.ref ag, .ref ayg] : List Value).toArray s = true := hts (.fieldLink RX2 19 "CoatsHall$Guests" "kind" "[I") (nq_m (n := 7) rfl)
  have hf22 : (Cond.fieldLink RX2 22 "CoatsHall$Guests" (TX2 3).2.1 (TX2 3).2.2.1).before ([.ref ag, .ref ayg] : List Value).toArray s = true := hts (.fieldLink RX2 22 "CoatsHall$Guests" "tip" "[I") (nq_m (n := 8) rfl)
  have hf25 : (Cond.fieldLink RX2 25 "CoatsHall$Guests" (TX2 4).2.1 (TX2 4).2.2.1).before ([.ref ag, .ref ayg] : List Value).toArray s = true := hts (.fieldLink RX2 25 "CoatsHall$Guests" "marks" "[I") (nq_m (n := 9) rfl)
  have hf28 : (Cond.fieldLink RX2 28 "CoatsHall$Guests" (TX2 5).2.1 (TX2 5).2.2.1).before ([.ref ag, .ref ayg] : List Value).toArray s = true := hts (.fieldLink RX2 28 "CoatsHall$Guests" "brass" "[I") (nq_m (n := 10) rfl)
  have hf31 : (Cond.fieldLink RX2 31 "CoatsHall$Guests" (TX2 6).2.1 (TX2 6).2.2.1).before ([.ref ag, .ref ayg] : List Value).toArray s = true := hts (.fieldLink RX2 31 "CoatsHall$Guests" "peg" "[I") (nq_m (n := 11) rfl)
  have hf34 : (Cond.fieldLink RX2 34 "CoatsHall$Guests" (TX2 7).2.1 (TX2 7).2.2.1).before ([.ref ag, .ref ayg] : List Value).toArray s = true := hts (.fieldLink RX2 34 "CoatsHall$Guests" "has" "[I") (nq_m (n := 12) rfl)
  refine lv_aload_n hx hb (nq_d dX2_copyFrom_0_g (n := 0) rfl) rfl (lv_at hl 0 rfl) ?_
  refine lv_aload_n hx hb (nq_d dX2_copyFrom_0_g (n := 1) rfl) rfl (lv_at hl 1 rfl) ?_
  refine va_get (D := (dC, dI)) (ci := 2) (v := .int yg_number) (C := RX2) (T := TX2) (N := 8) hx hb hts hi_X2 hown hK hP 8 rfl rfl 0 (by decide) hf9 (fun _ h9 => h9) rfl (nq_d dX2_copyFrom_0_g (n := 2) rfl) ?_
  refine gx_put (D := (dC, dI)) (ci := 2) (v := .int yg_number) (ty := .int) (C := RX2) (T := TX2) (N := 8) hx hb hts hi_X2 tyX2 tyX2_ok nmX2 hown hK hP hD hS 0 rfl rfl 0 (by decide) hf9 (fun _ h9 => h9) rfl (by decide +kernel) rfl rfl (Nat.le_of_ble_eq_true rfl) (nq_d dX2_copyFrom_0_g (n := 3) rfl) [(ag, .inr (2, [.int yg_number, .ref ag_sort, .ref ag_kind, .ref ag_tip, .ref ag_marks, .ref ag_brass, .ref ag_peg, .ref ag_has])), (ag_sort, .inl (cyI, 16, .inl g_sort)), (ag_kind, .inl (cyI, 16, .inl g_kind)), (ag_tip, .inl (cyI, 16, .inl g_tip)), (ag_marks, .inl (cyI, 16, .inl g_marks)), (ag_brass, .inl (cyI, 16, .inl g_brass)), (ag_peg, .inl (cyI, 16, .inl g_peg)), (ag_has, .inl (cyI, 16, .inl g_has)), (ayg, .inr (2, [.int yg_number, .ref ayg_sort, .ref ayg_kind, .ref ayg_tip, .ref ayg_marks, .ref ayg_brass, .ref ayg_peg, .ref ayg_has])), (ayg_sort, .inl (cyI, 16, .inl yg_sort)), (ayg_kind, .inl (cyI, 16, .inl yg_kind)), (ayg_tip, .inl (cyI, 16, .inl yg_tip)), (ayg_marks, .inl (cyI, 16, .inl yg_marks)), (ayg_brass, .inl (cyI, 16, .inl yg_brass)), (ayg_peg, .inl (cyI, 16, .inl yg_peg)), (ayg_has, .inl (cyI, 16, .inl yg_has))] rfl (fun H locs hP hD hS => ?_)
  refine lv_aload_n hx hb (nq_d dX2_copyFrom_0_g (n := 4) rfl) rfl (lv_at hl 1 rfl) ?_
  refine va_get (D := (dC, dI)) (ci := 2) (v := .ref ayg_sort) (C := RX2) (T := TX2) (N := 8) hx hb hts hi_X2 hown hK hP 8 rfl rfl 1 (by decide) hf15 (fun _ h9 => h9) rfl (nq_d dX2_copyFrom_0_g (n := 5) rfl) ?_
  refine lv_iconst (v := (0 : Int32)) hx hb (nq_d dX2_copyFrom_0_g (n := 6) rfl) (by decide) ?_
  refine lv_aload_n hx hb (nq_d dX2_copyFrom_0_g (n := 7) rfl) rfl (lv_at hl 0 rfl) ?_
  refine va_get (D := (dC, dI)) (ci := 2) (v := .ref ag_sort) (C := RX2) (T := TX2) (N := 8) hx hb hts hi_X2 hown hK hP 0 rfl rfl 1 (by decide) hf15 (fun _ h9 => h9) rfl (nq_d dX2_copyFrom_0_g (n := 8) rfl) ?_
  refine lv_iconst (v := (0 : Int32)) hx hb (nq_d dX2_copyFrom_0_g (n := 9) rfl) (by decide) ?_
  refine lv_bipush (v := (16 : Int32)) hx hb (nq_d dX2_copyFrom_0_g (n := 10) rfl) (by decide) ?_
  refine gx_copy hx hb (hml.trans hl.1.symm) hown (hts (.methodLink RX2 37 arraycopyName) (nq_m (n := 3) rfl)) (hts (.native arraycopyName) (nq_m (n := 4) rfl)) (hts (.static arraycopyName) (nq_m (n := 5) rfl)) (hts (.initialized "java/lang/System") (nq_m (n := 6) rfl)) hK hP hD hS 9 1 1 rfl rfl rfl rfl (by decide) (by decide) (Nat.le_of_ble_eq_true rfl) (Nat.le_of_ble_eq_true rfl) (nq_d dX2_copyFrom_0_g (n := 11) rfl) (fun f1 => [(ag, .inr (2, [.int yg_number, .ref ag_sort, .ref ag_kind, .ref ag_tip, .ref ag_marks, .ref ag_brass, .ref ag_peg, .ref ag_has])), (ag_sort, .inl (cyI, 16, .inl f1)), (ag_kind, .inl (cyI, 16, .inl g_kind)), (ag_tip, .inl (cyI, 16, .inl g_tip)), (ag_marks, .inl (cyI, 16, .inl g_marks)), (ag_brass, .inl (cyI, 16, .inl g_brass)), (ag_peg, .inl (cyI, 16, .inl g_peg)), (ag_has, .inl (cyI, 16, .inl g_has)), (ayg, .inr (2, [.int yg_number, .ref ayg_sort, .ref ayg_kind, .ref ayg_tip, .ref ayg_marks, .ref ayg_brass, .ref ayg_peg, .ref ayg_has])), (ayg_sort, .inl (cyI, 16, .inl yg_sort)), (ayg_kind, .inl (cyI, 16, .inl yg_kind)), (ayg_tip, .inl (cyI, 16, .inl yg_tip)), (ayg_marks, .inl (cyI, 16, .inl yg_marks)), (ayg_brass, .inl (cyI, 16, .inl yg_brass)), (ayg_peg, .inl (cyI, 16, .inl yg_peg)), (ayg_has, .inl (cyI, 16, .inl yg_has))]) (fun _ => rfl) hw (fun f1 H locs hw hP hD hS => ?_)
  refine lv_aload_n hx hb (nq_d dX2_copyFrom_0_g (n := 12) rfl) rfl (lv_at hl 1 rfl) ?_
  refine va_get (D := (dC, dI)) (ci := 2) (v := .ref ayg_kind) (C := RX2) (T := TX2) (N := 8) hx hb hts hi_X2 hown hK hP 8 rfl rfl 2 (by decide) hf19 (fun _ h9 => h9) rfl (nq_d dX2_copyFrom_0_g (n := 13) rfl) ?_
  refine lv_iconst (v := (0 : Int32)) hx hb (nq_d dX2_copyFrom_0_g (n := 14) rfl) (by decide) ?_
  refine lv_aload_n hx hb (nq_d dX2_copyFrom_0_g (n := 15) rfl) rfl (lv_at hl 0 rfl) ?_
  refine va_get (D := (dC, dI)) (ci := 2) (v := .ref ag_kind) (C := RX2) (T := TX2) (N := 8) hx hb hts hi_X2 hown hK hP 0 rfl rfl 2 (by decide) hf19 (fun _ h9 => h9) rfl (nq_d dX2_copyFrom_0_g (n := 16) rfl) ?_
  refine lv_iconst (v := (0 : Int32)) hx hb (nq_d dX2_copyFrom_0_g (n := 17) rfl) (by decide) ?_
  refine lv_bipush (v := (16 : Int32)) hx hb (nq_d dX2_copyFrom_0_g (n := 18) rfl) (by decide) ?_
  refine gx_copy hx hb (hml.trans hl.1.symm) hown (hts (.methodLink RX2 37 arraycopyName) (nq_m (n := 3) rfl)) (hts (.native arraycopyName) (nq_m (n := 4) rfl)) (hts (.static arraycopyName) (nq_m (n := 5) rfl)) (hts (.initialized "java/lang/System") (nq_m (n := 6) rfl)) hK hP hD hS 10 2 1 rfl rfl rfl rfl (by decide) (by decide) (Nat.le_of_ble_eq_true rfl) (Nat.le_of_ble_eq_true rfl) (nq_d dX2_copyFrom_0_g (n := 19) rfl) (fun f2 => [(ag, .inr (2, [.int yg_number, .ref ag_sort, .ref ag_kind, .ref ag_tip, .ref ag_marks, .ref ag_brass, .ref ag_peg, .ref ag_has])), (ag_sort, .inl (cyI, 16, .inl f1)), (ag_kind, .inl (cyI, 16, .inl f2)), (ag_tip, .inl (cyI, 16, .inl g_tip)), (ag_marks, .inl (cyI, 16, .inl g_marks)), (ag_brass, .inl (cyI, 16, .inl g_brass)), (ag_peg, .inl (cyI, 16, .inl g_peg)), (ag_has, .inl (cyI, 16, .inl g_has)), (ayg, .inr (2, [.int yg_number, .ref ayg_sort, .ref ayg_kind, .ref ayg_tip, .ref ayg_marks, .ref ayg_brass, .ref ayg_peg, .ref ayg_has])), (ayg_sort, .inl (cyI, 16, .inl yg_sort)), (ayg_kind, .inl (cyI, 16, .inl yg_kind)), (ayg_tip, .inl (cyI, 16, .inl yg_tip)), (ayg_marks, .inl (cyI, 16, .inl yg_marks)), (ayg_brass, .inl (cyI, 16, .inl yg_brass)), (ayg_peg, .inl (cyI, 16, .inl yg_peg)), (ayg_has, .inl (cyI, 16, .inl yg_has))]) (fun _ => rfl) hw (fun f2 H locs hw hP hD hS => ?_)
  refine lv_aload_n hx hb (nq_d dX2_copyFrom_0_g (n := 20) rfl) rfl (lv_at hl 1 rfl) ?_
  refine va_get (D := (dC, dI)) (ci := 2) (v := .ref ayg_tip) (C := RX2) (T := TX2) (N := 8) hx hb hts hi_X2 hown hK hP 8 rfl rfl 3 (by decide) hf22 (fun _ h9 => h9) rfl (nq_d dX2_copyFrom_0_g (n := 21) rfl) ?_
  refine lv_iconst (v := (0 : Int32)) hx hb (nq_d dX2_copyFrom_0_g (n := 22) rfl) (by decide) ?_
  refine lv_aload_n hx hb (nq_d dX2_copyFrom_0_g (n := 23) rfl) rfl (lv_at hl 0 rfl) ?_
  refine va_get (D := (dC, dI)) (ci := 2) (v := .ref ag_tip) (C := RX2) (T := TX2) (N := 8) hx hb hts hi_X2 hown hK hP 0 rfl rfl 3 (by decide) hf22 (fun _ h9 => h9) rfl (nq_d dX2_copyFrom_0_g (n := 24) rfl) ?_
  refine lv_iconst (v := (0 : Int32)) hx hb (nq_d dX2_copyFrom_0_g (n := 25) rfl) (by decide) ?_
  refine lv_bipush (v := (16 : Int32)) hx hb (nq_d dX2_copyFrom_0_g (n := 26) rfl) (by decide) ?_
  refine gx_copy hx hb (hml.trans hl.1.symm) hown (hts (.methodLink RX2 37 arraycopyName) (nq_m (n := 3) rfl)) (hts (.native arraycopyName) (nq_m (n := 4) rfl)) (hts (.static arraycopyName) (nq_m (n := 5) rfl)) (hts (.initialized "java/lang/System") (nq_m (n := 6) rfl)) hK hP hD hS 11 3 1 rfl rfl rfl rfl (by decide) (by decide) (Nat.le_of_ble_eq_true rfl) (Nat.le_of_ble_eq_true rfl) (nq_d dX2_copyFrom_0_g (n := 27) rfl) (fun f3 => [(ag, .inr (2, [.int yg_number, .ref ag_sort, .ref ag_kind, .ref ag_tip, .ref ag_marks, .ref ag_brass, .ref ag_peg, .ref ag_has])), (ag_sort, .inl (cyI, 16, .inl f1)), (ag_kind, .inl (cyI, 16, .inl f2)), (ag_tip, .inl (cyI, 16, .inl f3)), (ag_marks, .inl (cyI, 16, .inl g_marks)), (ag_brass, .inl (cyI, 16, .inl g_brass)), (ag_peg, .inl (cyI, 16, .inl g_peg)), (ag_has, .inl (cyI, 16, .inl g_has)), (ayg, .inr (2, [.int yg_number, .ref ayg_sort, .ref ayg_kind, .ref ayg_tip, .ref ayg_marks, .ref ayg_brass, .ref ayg_peg, .ref ayg_has])), (ayg_sort, .inl (cyI, 16, .inl yg_sort)), (ayg_kind, .inl (cyI, 16, .inl yg_kind)), (ayg_tip, .inl (cyI, 16, .inl yg_tip)), (ayg_marks, .inl (cyI, 16, .inl yg_marks)), (ayg_brass, .inl (cyI, 16, .inl yg_brass)), (ayg_peg, .inl (cyI, 16, .inl yg_peg)), (ayg_has, .inl (cyI, 16, .inl yg_has))]) (fun _ => rfl) hw (fun f3 H locs hw hP hD hS => ?_)
  refine lv_aload_n hx hb (nq_d dX2_copyFrom_0_g (n := 28) rfl) rfl (lv_at hl 1 rfl) ?_
  refine va_get (D := (dC, dI)) (ci := 2) (v := .ref ayg_marks) (C := RX2) (T := TX2) (N := 8) hx hb hts hi_X2 hown hK hP 8 rfl rfl 4 (by decide) hf25 (fun _ h9 => h9) rfl (nq_d dX2_copyFrom_0_g (n := 29) rfl) ?_
  refine lv_iconst (v := (0 : Int32)) hx hb (nq_d dX2_copyFrom_0_g (n := 30) rfl) (by decide) ?_
  refine lv_aload_n hx hb (nq_d dX2_copyFrom_0_g (n := 31) rfl) rfl (lv_at hl 0 rfl) ?_
  refine va_get (D := (dC, dI)) (ci := 2) (v := .ref ag_marks) (C := RX2) (T := TX2) (N := 8) hx hb hts hi_X2 hown hK hP 0 rfl rfl 4 (by decide) hf25 (fun _ h9 => h9) rfl (nq_d dX2_copyFrom_0_g (n := 32) rfl) ?_
  refine lv_iconst (v := (0 : Int32)) hx hb (nq_d dX2_copyFrom_0_g (n := 33) rfl) (by decide) ?_
  refine lv_bipush (v := (16 : Int32)) hx hb (nq_d dX2_copyFrom_0_g (n := 34) rfl) (by decide) ?_
  refine gx_copy hx hb (hml.trans hl.1.symm) hown (hts (.methodLink RX2 37 arraycopyName) (nq_m (n := 3) rfl)) (hts (.native arraycopyName) (nq_m (n := 4) rfl)) (hts (.static arraycopyName) (nq_m (n := 5) rfl)) (hts (.initialized "java/lang/System") (nq_m (n := 6) rfl)) hK hP hD hS 12 4 1 rfl rfl rfl rfl (by decide) (by decide) (Nat.le_of_ble_eq_true rfl) (Nat.le_of_ble_eq_true rfl) (nq_d dX2_copyFrom_0_g (n := 35) rfl) (fun f4 => [(ag, .inr (2, [.int yg_number, .ref ag_sort, .ref ag_kind, .ref ag_tip, .ref ag_marks, .ref ag_brass, .ref ag_peg, .ref ag_has])), (ag_sort, .inl (cyI, 16, .inl f1)), (ag_kind, .inl (cyI, 16, .inl f2)), (ag_tip, .inl (cyI, 16, .inl f3)), (ag_marks, .inl (cyI, 16, .inl f4)), (ag_brass, .inl (cyI, 16, .inl g_brass)), (ag_peg, .inl (cyI, 16, .inl g_peg)), (ag_has, .inl (cyI, 16, .inl g_has)), (ayg, .inr (2, [.int yg_number, .ref ayg_sort, .ref ayg_kind, .ref ayg_tip, .ref ayg_marks, .ref ayg_brass, .ref ayg_peg, .ref ayg_has])), (ayg_sort, .inl (cyI, 16, .inl yg_sort)), (ayg_kind, .inl (cyI, 16, .inl yg_kind)), (ayg_tip, .inl (cyI, 16, .inl yg_tip)), (ayg_marks, .inl (cyI, 16, .inl yg_marks)), (ayg_brass, .inl (cyI, 16, .inl yg_brass)), (ayg_peg, .inl (cyI, 16, .inl yg_peg)), (ayg_has, .inl (cyI, 16, .inl yg_has))]) (fun _ => rfl) hw (fun f4 H locs hw hP hD hS => ?_)
  refine lv_aload_n hx hb (nq_d dX2_copyFrom_0_g (n := 36) rfl) rfl (lv_at hl 1 rfl) ?_
  refine va_get (D := (dC, dI)) (ci := 2) (v := .ref ayg_brass) (C := RX2) (T := TX2) (N := 8) hx hb hts hi_X2 hown hK hP 8 rfl rfl 5 (by decide) hf28 (fun _ h9 => h9) rfl (nq_d dX2_copyFrom_0_g (n := 37) rfl) ?_
  refine lv_iconst (v := (0 : Int32)) hx hb (nq_d dX2_copyFrom_0_g (n := 38) rfl) (by decide) ?_
  refine lv_aload_n hx hb (nq_d dX2_copyFrom_0_g (n := 39) rfl) rfl (lv_at hl 0 rfl) ?_
  refine va_get (D := (dC, dI)) (ci := 2) (v := .ref ag_brass) (C := RX2) (T := TX2) (N := 8) hx hb hts hi_X2 hown hK hP 0 rfl rfl 5 (by decide) hf28 (fun _ h9 => h9) rfl (nq_d dX2_copyFrom_74_g (n := 0) rfl) ?_
  refine lv_iconst (v := (0 : Int32)) hx hb (nq_d dX2_copyFrom_74_g (n := 1) rfl) (by decide) ?_
  refine lv_bipush (v := (16 : Int32)) hx hb (nq_d dX2_copyFrom_74_g (n := 2) rfl) (by decide) ?_
  refine gx_copy hx hb (hml.trans hl.1.symm) hown (hts (.methodLink RX2 37 arraycopyName) (nq_m (n := 3) rfl)) (hts (.native arraycopyName) (nq_m (n := 4) rfl)) (hts (.static arraycopyName) (nq_m (n := 5) rfl)) (hts (.initialized "java/lang/System") (nq_m (n := 6) rfl)) hK hP hD hS 13 5 1 rfl rfl rfl rfl (by decide) (by decide) (Nat.le_of_ble_eq_true rfl) (Nat.le_of_ble_eq_true rfl) (nq_d dX2_copyFrom_74_g (n := 3) rfl) (fun f5 => [(ag, .inr (2, [.int yg_number, .ref ag_sort, .ref ag_kind, .ref ag_tip, .ref ag_marks, .ref ag_brass, .ref ag_peg, .ref ag_has])), (ag_sort, .inl (cyI, 16, .inl f1)), (ag_kind, .inl (cyI, 16, .inl f2)), (ag_tip, .inl (cyI, 16, .inl f3)), (ag_marks, .inl (cyI, 16, .inl f4)), (ag_brass, .inl (cyI, 16, .inl f5)), (ag_peg, .inl (cyI, 16, .inl g_peg)), (ag_has, .inl (cyI, 16, .inl g_has)), (ayg, .inr (2, [.int yg_number, .ref ayg_sort, .ref ayg_kind, .ref ayg_tip, .ref ayg_marks, .ref ayg_brass, .ref ayg_peg, .ref ayg_has])), (ayg_sort, .inl (cyI, 16, .inl yg_sort)), (ayg_kind, .inl (cyI, 16, .inl yg_kind)), (ayg_tip, .inl (cyI, 16, .inl yg_tip)), (ayg_marks, .inl (cyI, 16, .inl yg_marks)), (ayg_brass, .inl (cyI, 16, .inl yg_brass)), (ayg_peg, .inl (cyI, 16, .inl yg_peg)), (ayg_has, .inl (cyI, 16, .inl yg_has))]) (fun _ => rfl) hw (fun f5 H locs hw hP hD hS => ?_)
  refine lv_aload_n hx hb (nq_d dX2_copyFrom_74_g (n := 4) rfl) rfl (lv_at hl 1 rfl) ?_
  refine va_get (D := (dC, dI)) (ci := 2) (v := .ref ayg_peg) (C := RX2) (T := TX2) (N := 8) hx hb hts hi_X2 hown hK hP 8 rfl rfl 6 (by decide) hf31 (fun _ h9 => h9) rfl (nq_d dX2_copyFrom_74_g (n := 5) rfl) ?_
  refine lv_iconst (v := (0 : Int32)) hx hb (nq_d dX2_copyFrom_74_g (n := 6) rfl) (by decide) ?_
  refine lv_aload_n hx hb (nq_d dX2_copyFrom_74_g (n := 7) rfl) rfl (lv_at hl 0 rfl) ?_
  refine va_get (D := (dC, dI)) (ci := 2) (v := .ref ag_peg) (C := RX2) (T := TX2) (N := 8) hx hb hts hi_X2 hown hK hP 0 rfl rfl 6 (by decide) hf31 (fun _ h9 => h9) rfl (nq_d dX2_copyFrom_74_g (n := 8) rfl) ?_
  refine lv_iconst (v := (0 : Int32)) hx hb (nq_d dX2_copyFrom_74_g (n := 9) rfl) (by decide) ?_
  refine lv_bipush (v := (16 : Int32)) hx hb (nq_d dX2_copyFrom_74_g (n := 10) rfl) (by decide) ?_
  refine gx_copy hx hb (hml.trans hl.1.symm) hown (hts (.methodLink RX2 37 arraycopyName) (nq_m (n := 3) rfl)) (hts (.native arraycopyName) (nq_m (n := 4) rfl)) (hts (.static arraycopyName) (nq_m (n := 5) rfl)) (hts (.initialized "java/lang/System") (nq_m (n := 6) rfl)) hK hP hD hS 14 6 1 rfl rfl rfl rfl (by decide) (by decide) (Nat.le_of_ble_eq_true rfl) (Nat.le_of_ble_eq_true rfl) (nq_d dX2_copyFrom_74_g (n := 11) rfl) (fun f6 => [(ag, .inr (2, [.int yg_number, .ref ag_sort, .ref ag_kind, .ref ag_tip, .ref ag_marks, .ref ag_brass, .ref ag_peg, .ref ag_has])), (ag_sort, .inl (cyI, 16, .inl f1)), (ag_kind, .inl (cyI, 16, .inl f2)), (ag_tip, .inl (cyI, 16, .inl f3)), (ag_marks, .inl (cyI, 16, .inl f4)), (ag_brass, .inl (cyI, 16, .inl f5)), (ag_peg, .inl (cyI, 16, .inl f6)), (ag_has, .inl (cyI, 16, .inl g_has)), (ayg, .inr (2, [.int yg_number, .ref ayg_sort, .ref ayg_kind, .ref ayg_tip, .ref ayg_marks, .ref ayg_brass, .ref ayg_peg, .ref ayg_has])), (ayg_sort, .inl (cyI, 16, .inl yg_sort)), (ayg_kind, .inl (cyI, 16, .inl yg_kind)), (ayg_tip, .inl (cyI, 16, .inl yg_tip)), (ayg_marks, .inl (cyI, 16, .inl yg_marks)), (ayg_brass, .inl (cyI, 16, .inl yg_brass)), (ayg_peg, .inl (cyI, 16, .inl yg_peg)), (ayg_has, .inl (cyI, 16, .inl yg_has))]) (fun _ => rfl) hw (fun f6 H locs hw hP hD hS => ?_)
  refine lv_aload_n hx hb (nq_d dX2_copyFrom_74_g (n := 12) rfl) rfl (lv_at hl 1 rfl) ?_
  refine va_get (D := (dC, dI)) (ci := 2) (v := .ref ayg_has) (C := RX2) (T := TX2) (N := 8) hx hb hts hi_X2 hown hK hP 8 rfl rfl 7 (by decide) hf34 (fun _ h9 => h9) rfl (nq_d dX2_copyFrom_74_g (n := 13) rfl) ?_
  refine lv_iconst (v := (0 : Int32)) hx hb (nq_d dX2_copyFrom_74_g (n := 14) rfl) (by decide) ?_
  refine lv_aload_n hx hb (nq_d dX2_copyFrom_74_g (n := 15) rfl) rfl (lv_at hl 0 rfl) ?_
  refine va_get (D := (dC, dI)) (ci := 2) (v := .ref ag_has) (C := RX2) (T := TX2) (N := 8) hx hb hts hi_X2 hown hK hP 0 rfl rfl 7 (by decide) hf34 (fun _ h9 => h9) rfl (nq_d dX2_copyFrom_74_g (n := 16) rfl) ?_
  refine lv_iconst (v := (0 : Int32)) hx hb (nq_d dX2_copyFrom_74_g (n := 17) rfl) (by decide) ?_
  refine lv_bipush (v := (16 : Int32)) hx hb (nq_d dX2_copyFrom_74_g (n := 18) rfl) (by decide) ?_
  refine gx_copy hx hb (hml.trans hl.1.symm) hown (hts (.methodLink RX2 37 arraycopyName) (nq_m (n := 3) rfl)) (hts (.native arraycopyName) (nq_m (n := 4) rfl)) (hts (.static arraycopyName) (nq_m (n := 5) rfl)) (hts (.initialized "java/lang/System") (nq_m (n := 6) rfl)) hK hP hD hS 15 7 1 rfl rfl rfl rfl (by decide) (by decide) (Nat.le_of_ble_eq_true rfl) (Nat.le_of_ble_eq_true rfl) (nq_d dX2_copyFrom_74_g (n := 19) rfl) (fun f7 => [(ag, .inr (2, [.int yg_number, .ref ag_sort, .ref ag_kind, .ref ag_tip, .ref ag_marks, .ref ag_brass, .ref ag_peg, .ref ag_has])), (ag_sort, .inl (cyI, 16, .inl f1)), (ag_kind, .inl (cyI, 16, .inl f2)), (ag_tip, .inl (cyI, 16, .inl f3)), (ag_marks, .inl (cyI, 16, .inl f4)), (ag_brass, .inl (cyI, 16, .inl f5)), (ag_peg, .inl (cyI, 16, .inl f6)), (ag_has, .inl (cyI, 16, .inl f7)), (ayg, .inr (2, [.int yg_number, .ref ayg_sort, .ref ayg_kind, .ref ayg_tip, .ref ayg_marks, .ref ayg_brass, .ref ayg_peg, .ref ayg_has])), (ayg_sort, .inl (cyI, 16, .inl yg_sort)), (ayg_kind, .inl (cyI, 16, .inl yg_kind)), (ayg_tip, .inl (cyI, 16, .inl yg_tip)), (ayg_marks, .inl (cyI, 16, .inl yg_marks)), (ayg_brass, .inl (cyI, 16, .inl yg_brass)), (ayg_peg, .inl (cyI, 16, .inl yg_peg)), (ayg_has, .inl (cyI, 16, .inl yg_has))]) (fun _ => rfl) hw (fun f7 H locs hw hP hD hS => ?_)
  exact rt_v (A1 := A) hQ hx hb hr hlocks hP hD hS (yg_number, f1, f2, f3, f4, f5, f6, f7) [0, 1, 2, 3, 4, 5, 6, 7, 8, 9, 10, 11, 12, 13, 14, 15] rfl (by decide +kernel) hw (nq_d dX2_copyFrom_74_g (n := 20) rfl)
abbrev rmX2_add : Room := { frames := 0, cells := 0, slots := 0, locals := 0 }
theorem cd_X2_add : yX2_add.cls = RX2 ∧ yX2_add.cls ≠ "java/lang/invoke/MethodHandle" ∧ yX2_add.cls ≠ "java/lang/invoke/VarHandle" ∧ (parseMethodDescriptor yX2_add.desc).map (fun d => d.parameters.length) = some 4 := by decide +kernel
set_option maxHeartbeats 4000000 in
set_option maxRecDepth 100000 in
theorem ct_Guests_add (l : Launch) (dC : Nat → ClassId) (dI : Nat → Nat → Nat) (cyB cyI cyJ cyZ : ClassId) (ag ag_sort ag_kind ag_tip ag_marks ag_brass ag_peg ag_has : Nat) (sz : Nat) (g_number : Int32) (g_sort : Nat → Int32) (g_kind : Nat → Int32) (g_tip : Nat → Int32) (g_marks : Nat → Int32) (g_brass : Nat → Int32) (g_peg : Nat → Int32) (g_has : Nat → Int32) (x1 : Int32) (x2 : Int32) (x3 : Int32) (x4 : Int32) (Q : Int → Int → (Int → Int) → (Int → Int) → (Int → Int) → (Int → Int) → (Int → Int) → (Int → Int) → (Int → Int) → Prop) : Met l yX2_add wsX2_add rmX2_add (va_Pc [.ref ag, .int x1, .int x2, .int x3, .int x4] (cPre (dC, dI) vwCl (tyS cyB cyI cyJ cyZ) [(ag, .inr (2, [.int g_number, .ref ag_sort, .ref ag_kind, .ref ag_tip, .ref ag_marks, .ref ag_brass, .ref ag_peg, .ref ag_has])), (ag_sort, .inl (cyI, 16, .inl g_sort)), (ag_kind, .inl (cyI, 16, .inl g_kind)), (ag_tip, .inl (cyI, 16, .inl g_tip)), (ag_marks, .inl (cyI, 16, .inl g_marks)), (ag_brass, .inl (cyI, 16, .inl g_brass)), (ag_peg, .inl (cyI, 16, .inl g_peg)), (ag_has, .inl (cyI, 16, .inl g_has))] sz (nf_Guests_add g_number.toInt (aI 16 g_sort) (aI 16 g_kind) (aI 16 g_tip) (aI 16 g_marks) (aI 16 g_brass) (aI 16 g_peg) (aI 16 g_has) x1.toInt x2.toInt x3.toInt x4.toInt Q))) (va_Qi (fun (r : Int32) (u : Int32 × (Nat → Int32) × (Nat → Int32) × (Nat → Int32) × (Nat → Int32) × (Nat → Int32) × (Nat → Int32) × (Nat → Int32)) => Q r.toInt (u.1).toInt (aI 16 (u.2.1)) (aI 16 (u.2.2.1)) (aI 16 (u.2.2.2.1)) (aI 16 (u.2.2.2.2.1)) (aI 16 (u.2.2.2.2.2.1)) (aI 16 (u.2.2.2.2.2.2.1)) (aI 16 (u.2.2.2.2.2.2.2))) (cPost (dC, dI) vwCl (fun u : Int32 × (Nat → Int32) × (Nat → Int32) × (Nat → Int32) × (Nat → Int32) × (Nat → Int32) × (Nat → Int32) × (Nat → Int32) => [(ag, .inr (2, [.int u.1, .ref ag_sort, .ref ag_kind, .ref ag_tip, .ref ag_marks, .ref ag_brass, .ref ag_peg, .ref ag_has])), (ag_sort, .inl (cyI, 16, .inl (u.2.1))), (ag_kind, .inl (cyI, 16, .inl (u.2.2.1))), (ag_tip, .inl (cyI, 16, .inl (u.2.2.2.1))), (ag_marks, .inl (cyI, 16, .inl (u.2.2.2.2.1))), (ag_brass, .inl (cyI, 16, .inl (u.2.2.2.2.2.1))), (ag_peg, .inl (cyI, 16, .inl (u.2.2.2.2.2.2.1))), (ag_has, .inl (cyI, 16, .inl (u.2.2.2.2.2.2.2)))]) (va_A [(ag, .inr (2, [.int g_number, .ref ag_sort, .ref ag_kind, .ref ag_tip, .ref ag_marks, .ref ag_brass, .ref ag_peg, .ref ag_has])), (ag_sort, .inl (cyI, 16, .inl g_sort)), (ag_kind, .inl (cyI, 16, .inl g_kind)), (ag_tip, .inl (cyI, 16, .inl g_tip)), (ag_marks, .inl (cyI, 16, .inl g_marks)), (ag_brass, .inl (cyI, 16, .inl g_brass)), (ag_peg, .inl (cyI, 16, .inl g_peg)), (ag_has, .inl (cyI, 16, .inl g_has))] sz)) (va_A [(ag, .inr (2, [.int g_number, .ref ag_sort, .ref ag_kind, .ref ag_tip, .ref ag_marks, .ref ag_brass, .ref ag_peg, .ref ag_has])), (ag_sort, .inl (cyI, 16, .inl g_sort)), (ag_kind, .inl (cyI, 16, .inl g_kind)), (ag_tip, .inl (cyI, 16, .inl g_tip)), (ag_marks, .inl (cyI, 16, .inl g_marks)), (ag_brass, .inl (cyI, 16, .inl g_brass)), (ag_peg, .inl (cyI, 16, .inl g_peg)), (ag_has, .inl (cyI, 16, .inl g_has))] sz)) 0 0 (va_A [(ag, .inr (2, [.int g_number, .ref ag_sort, .ref ag_kind, .ref ag_tip, .ref ag_marks, .ref ag_brass, .ref ag_peg, .ref ag_has])), (ag_sort, .inl (cyI, 16, .inl g_sort)), (ag_kind, .inl (cyI, 16, .inl g_kind)), (ag_tip, .inl (cyI, 16, .inl g_tip)), (ag_marks, .inl (cyI, 16, .inl g_marks)), (ag_brass, .inl (cyI, 16, .inl g_brass)), (ag_peg, .inl (cyI, 16, .inl g_peg)), (ag_has, .inl (cyI, 16, .inl g_has))] sz) := by
  refine Met.ofW (cc := cX2_add) (maxL := 6) (ret := (some .int)) (by decide) rfl ?_
  intro p e s m args below meth c s₁ B hml hv
  obtain ⟨rfl, hsz, hP, hK, hD0, hNw, hw⟩ := hv
  have hx := B.exec
  have hb := B.bytes
  have hr := B.returns
  have hts := atoms_spec (ws := wsX2_add) B.pre
  have hown : s.vm.findClass RX2 = some m.cls := findClass_of_methodNamed B.named
  have hlocks := B.notSynchronized
  subst hsz
  have hD := hD0.self (sz := s.heap.size)
  generalize hAe : va_A [(ag, .inr (2, [.int g_number, .ref ag_sort, .ref ag_kind, .ref ag_tip, .ref ag_marks, .ref ag_brass, .ref ag_peg, .ref ag_has])), (ag_sort, .inl (cyI, 16, .inl g_sort)), (ag_kind, .inl (cyI, 16, .inl g_kind)), (ag_tip, .inl (cyI, 16, .inl g_tip)), (ag_marks, .inl (cyI, 16, .inl g_marks)), (ag_brass, .inl (cyI, 16, .inl g_brass)), (ag_peg, .inl (cyI, 16, .inl g_peg)), (ag_has, .inl (cyI, 16, .inl g_has))] s.heap.size = A at hD ⊢
  have hA : ∀ q : Nat, s.heap.size ≤ q → A q := fun q h => by rw [← hAe]; exact Or.inr h
  have hS : va_S A s.heap s.heap [] := va_S.rf
  have hl := lv_entry ([.ref ag, .int x1, .int x2, .int x3, .int x4]) (n := 6) (Nat.le_of_ble_eq_true rfl)
  rw [lg_entry_eq]
  generalize (lg_sl ([.ref ag, .int x1, .int x2, .int x3, .int x4]) ++ List.replicate (6 - (lg_sl ([.ref ag, .int x1, .int x2, .int x3, .int x4])).length) Slot.unset).toArray = ls at hl ⊢
  have hl : lv_has ls 6 [(0, .ref ag), (1, .int x1), (2, .int x2), (3, .int x3), (4, .int x4)] := hl
  refine gx_q (fun Q9 hQ => ?_)
  unfold nf_Guests_add at hw
  have hi_X2 : ∀ w ∈ wsX20, w ∈ wsX2_add := (sub_c (nq_m (n := 9) rfl) (sub_c (nq_m (n := 10) rfl) (sub_c (nq_m (n := 11) rfl) (sub_c (nq_m (n := 12) rfl) (sub_c (nq_m (n := 13) rfl) (sub_c (nq_m (n := 14) rfl) (sub_c (nq_m (n := 15) rfl) (sub_c (nq_m (n := 16) rfl) sub_n))))))))
  have hf9 : (Cond.fieldLink RX2 9 "CoatsHall$Guests" (TX2 0).2.1 (TX2 0).2.2.1).before ([.ref ag, .int x1, .int x2, .int x3, .int x4] : List Value).toArray s = true := hts (.fieldLink RX2 9 "CoatsHall$Guests" "number" "I") (nq_m (n := 1) rfl)
  have hf15 : (Cond.fieldLink RX2 15 "CoatsHall$Guests" (TX2 1).2.1 (TX2 1).2.2.1).before ([.ref ag, .int x1, .int x2, .int x3, .int x4] : List Value).toArray s = true := hts (.fieldLink RX2 15 "CoatsHall$Guests" "sort" "[I") (nq_m (n := 2) rfl)
  have hf19 : (Cond.fieldLink RX2 19 "CoatsHall$Guests" (TX2 2).2.1 (TX2 2).2.2.1).before ([.ref ag, .int x1, .int x2, .int x3, .int x4] : List Value).toArray s = true := hts (.fieldLink RX2 19 "CoatsHall$Guests" "kind" "[I") (nq_m (n := 3) rfl)
  have hf22 : (Cond.fieldLink RX2 22 "CoatsHall$Guests" (TX2 3).2.1 (TX2 3).2.2.1).before ([.ref ag, .int x1, .int x2, .int x3, .int x4] : List Value).toArray s = true := hts (.fieldLink RX2 22 "CoatsHall$Guests" "tip" "[I") (nq_m (n := 4) rfl)
  have hf25 : (Cond.fieldLink RX2 25 "CoatsHall$Guests" (TX2 4).2.1 (TX2 4).2.2.1).before ([.ref ag, .int x1, .int x2, .int x3, .int x4] : List Value).toArray s = true := hts (.fieldLink RX2 25 "CoatsHall$Guests" "marks" "[I") (nq_m (n := 5) rfl)
  have hf28 : (Cond.fieldLink RX2 28 "CoatsHall$Guests" (TX2 5).2.1 (TX2 5).2.2.1).before ([.ref ag, .int x1, .int x2, .int x3, .int x4] : List Value).toArray s = true := hts (.fieldLink RX2 28 "CoatsHall$Guests" "brass" "[I") (nq_m (n := 6) rfl)
  have hf31 : (Cond.fieldLink RX2 31 "CoatsHall$Guests" (TX2 6).2.1 (TX2 6).2.2.1).before ([.ref ag, .int x1, .int x2, .int x3, .int x4] : List Value).toArray s = true := hts (.fieldLink RX2 31 "CoatsHall$Guests" "peg" "[I") (nq_m (n := 7) rfl)
  have hf34 : (Cond.fieldLink RX2 34 "CoatsHall$Guests" (TX2 7).2.1 (TX2 7).2.2.1).before ([.ref ag, .int x1, .int x2, .int x3, .int x4] : List Value).toArray s = true := hts (.fieldLink RX2 34 "CoatsHall$Guests" "has" "[I") (nq_m (n := 8) rfl)
  refine lv_aload_n hx hb (nq_d dX2_add_0_g (n := 0) rfl) rfl (lv_at hl 0 rfl) ?_
  refine va_get (D := (dC, dI)) (ci := 2) (v := .int g_number) (C := RX2) (T := TX2) (N := 8) hx hb hts hi_X2 hown hK hP 0 rfl rfl 0 (by decide) hf9 (fun _ h9 => h9) rfl (nq_d dX2_add_0_g (n := 1) rfl) ?_
  refine lv_istore (lv' := [(5, .int g_number), (0, .ref ag), (1, .int x1), (2, .int x2), (3, .int x3), (4, .int x4)]) hx hb (nq_d dX2_add_0_g (n := 2) rfl) hl (by decide) rfl (fun ls hl => ?_)
  refine lv_iload hx hb (nq_d dX2_add_0_g (n := 3) rfl) (lv_at hl 0 rfl) ?_
  refine gx_if_lt (tgt := 18) hx hb (nq_d dX2_add_0_g (n := 4) rfl) (by decide) hw (fun hw => ?_) (fun hw => ?_)
  · refine lv_sipush (v := ((-1004) : Int32)) hx hb (nq_d dX2_add_0_g (n := 8) rfl) (by decide) ?_
    exact rt_i (A1 := A) hQ hx hb hr hlocks hP hD hS (g_number, g_sort, g_kind, g_tip, g_marks, g_brass, g_peg, g_has) [0, 1, 2, 3, 4, 5, 6, 7] rfl (by decide +kernel) hw (nq_d dX2_add_0_g (n := 9) rfl)
  · refine lv_iload hx hb (nq_d dX2_add_0_g (n := 5) rfl) (lv_at hl 0 rfl) ?_
    refine lv_bipush (v := (16 : Int32)) hx hb (nq_d dX2_add_0_g (n := 6) rfl) (by decide) ?_
    refine gx_icmp_lt (tgt := 22) hx hb (nq_d dX2_add_0_g (n := 7) rfl) (by decide) hw (fun hw => ?_) (fun hw => ?_)
    · refine lv_aload_n hx hb (nq_d dX2_add_0_g (n := 10) rfl) rfl (lv_at hl 1 rfl) ?_
      refine va_get (D := (dC, dI)) (ci := 2) (v := .ref ag_sort) (C := RX2) (T := TX2) (N := 8) hx hb hts hi_X2 hown hK hP 0 rfl rfl 1 (by decide) hf15 (fun _ h9 => h9) rfl (nq_d dX2_add_0_g (n := 11) rfl) ?_
      refine lv_iload hx hb (nq_d dX2_add_0_g (n := 12) rfl) (lv_at hl 0 rfl) ?_
      refine lv_iload_n hx hb (nq_d dX2_add_0_g (n := 13) rfl) rfl (lv_at hl 2 rfl) ?_
      refine gx_iast hx hb hK hP hD hS 1 1 rfl rfl (nq_d dX2_add_0_g (n := 14) rfl) (fun f1 => [(ag, .inr (2, [.int g_number, .ref ag_sort, .ref ag_kind, .ref ag_tip, .ref ag_marks, .ref ag_brass, .ref ag_peg, .ref ag_has])), (ag_sort, .inl (cyI, 16, .inl f1)), (ag_kind, .inl (cyI, 16, .inl g_kind)), (ag_tip, .inl (cyI, 16, .inl g_tip)), (ag_marks, .inl (cyI, 16, .inl g_marks)), (ag_brass, .inl (cyI, 16, .inl g_brass)), (ag_peg, .inl (cyI, 16, .inl g_peg)), (ag_has, .inl (cyI, 16, .inl g_has))]) (fun _ => rfl) hw (fun f1 H locs hw hP hD hS => ?_)
      refine lv_aload_n hx hb (nq_d dX2_add_0_g (n := 15) rfl) rfl (lv_at hl 1 rfl) ?_
      refine va_get (D := (dC, dI)) (ci := 2) (v := .ref ag_kind) (C := RX2) (T := TX2) (N := 8) hx hb hts hi_X2 hown hK hP 0 rfl rfl 2 (by decide) hf19 (fun _ h9 => h9) rfl (nq_d dX2_add_0_g (n := 16) rfl) ?_
      refine lv_iload hx hb (nq_d dX2_add_0_g (n := 17) rfl) (lv_at hl 0 rfl) ?_
      refine lv_iload_n hx hb (nq_d dX2_add_0_g (n := 18) rfl) rfl (lv_at hl 3 rfl) ?_
      refine gx_iast hx hb hK hP hD hS 2 1 rfl rfl (nq_d dX2_add_0_g (n := 19) rfl) (fun f2 => [(ag, .inr (2, [.int g_number, .ref ag_sort, .ref ag_kind, .ref ag_tip, .ref ag_marks, .ref ag_brass, .ref ag_peg, .ref ag_has])), (ag_sort, .inl (cyI, 16, .inl f1)), (ag_kind, .inl (cyI, 16, .inl f2)), (ag_tip, .inl (cyI, 16, .inl g_tip)), (ag_marks, .inl (cyI, 16, .inl g_marks)), (ag_brass, .inl (cyI, 16, .inl g_brass)), (ag_peg, .inl (cyI, 16, .inl g_peg)), (ag_has, .inl (cyI, 16, .inl g_has))]) (fun _ => rfl) hw (fun f2 H locs hw hP hD hS => ?_)
      refine lv_aload_n hx hb (nq_d dX2_add_0_g (n := 20) rfl) rfl (lv_at hl 1 rfl) ?_
      refine va_get (D := (dC, dI)) (ci := 2) (v := .ref ag_tip) (C := RX2) (T := TX2) (N := 8) hx hb hts hi_X2 hown hK hP 0 rfl rfl 3 (by decide) hf22 (fun _ h9 => h9) rfl (nq_d dX2_add_0_g (n := 21) rfl) ?_
      refine lv_iload hx hb (nq_d dX2_add_0_g (n := 22) rfl) (lv_at hl 0 rfl) ?_
      refine lv_iload_n hx hb (nq_d dX2_add_0_g (n := 23) rfl) rfl (lv_at hl 4 rfl) ?_
      refine gx_iast hx hb hK hP hD hS 3 1 rfl rfl (nq_d dX2_add_0_g (n := 24) rfl) (fun f3 => [(ag, .inr (2, [.int g_number, .ref ag_sort, .ref ag_kind, .ref ag_tip, .ref ag_marks, .ref ag_brass, .ref ag_peg, .ref ag_has])), (ag_sort, .inl (cyI, 16, .inl f1)), (ag_kind, .inl (cyI, 16, .inl f2)), (ag_tip, .inl (cyI, 16, .inl f3)), (ag_marks, .inl (cyI, 16, .inl g_marks)), (ag_brass, .inl (cyI, 16, .inl g_brass)), (ag_peg, .inl (cyI, 16, .inl g_peg)), (ag_has, .inl (cyI, 16, .inl g_has))]) (fun _ => rfl) hw (fun f3 H locs hw hP hD hS => ?_)
      refine lv_aload_n hx hb (nq_d dX2_add_0_g (n := 25) rfl) rfl (lv_at hl 1 rfl) ?_
      refine va_get (D := (dC, dI)) (ci := 2) (v := .ref ag_marks) (C := RX2) (T := TX2) (N := 8) hx hb hts hi_X2 hown hK hP 0 rfl rfl 4 (by decide) hf25 (fun _ h9 => h9) rfl (nq_d dX2_add_0_g (n := 26) rfl) ?_
      refine lv_iload hx hb (nq_d dX2_add_0_g (n := 27) rfl) (lv_at hl 0 rfl) ?_
      refine lv_iload hx hb (nq_d dX2_add_0_g (n := 28) rfl) (lv_at hl 5 rfl) ?_
      refine gx_iast hx hb hK hP hD hS 4 1 rfl rfl (nq_d dX2_add_0_g (n := 29) rfl) (fun f4 => [(ag, .inr (2, [.int g_number, .ref ag_sort, .ref ag_kind, .ref ag_tip, .ref ag_marks, .ref ag_brass, .ref ag_peg, .ref ag_has])), (ag_sort, .inl (cyI, 16, .inl f1)), (ag_kind, .inl (cyI, 16, .inl f2)), (ag_tip, .inl (cyI, 16, .inl f3)), (ag_marks, .inl (cyI, 16, .inl f4)), (ag_brass, .inl (cyI, 16, .inl g_brass)), (ag_peg, .inl (cyI, 16, .inl g_peg)), (ag_has, .inl (cyI, 16, .inl g_has))]) (fun _ => rfl) hw (fun f4 H locs hw hP hD hS => ?_)
      refine lv_aload_n hx hb (nq_d dX2_add_0_g (n := 30) rfl) rfl (lv_at hl 1 rfl) ?_
      refine va_get (D := (dC, dI)) (ci := 2) (v := .ref ag_brass) (C := RX2) (T := TX2) (N := 8) hx hb hts hi_X2 hown hK hP 0 rfl rfl 5 (by decide) hf28 (fun _ h9 => h9) rfl (nq_d dX2_add_0_g (n := 31) rfl) ?_
      refine lv_iload hx hb (nq_d dX2_add_0_g (n := 32) rfl) (lv_at hl 0 rfl) ?_
      refine lv_iconst (v := ((-1) : Int32)) hx hb (nq_d dX2_add_0_g (n := 33) rfl) (by decide) ?_
      refine gx_iast hx hb hK hP hD hS 5 1 rfl rfl (nq_d dX2_add_0_g (n := 34) rfl) (fun f5 => [(ag, .inr (2, [.int g_number, .ref ag_sort, .ref ag_kind, .ref ag_tip, .ref ag_marks, .ref ag_brass, .ref ag_peg, .ref ag_has])), (ag_sort, .inl (cyI, 16, .inl f1)), (ag_kind, .inl (cyI, 16, .inl f2)), (ag_tip, .inl (cyI, 16, .inl f3)), (ag_marks, .inl (cyI, 16, .inl f4)), (ag_brass, .inl (cyI, 16, .inl f5)), (ag_peg, .inl (cyI, 16, .inl g_peg)), (ag_has, .inl (cyI, 16, .inl g_has))]) (fun _ => rfl) hw (fun f5 H locs hw hP hD hS => ?_)
      refine lv_aload_n hx hb (nq_d dX2_add_0_g (n := 35) rfl) rfl (lv_at hl 1 rfl) ?_
      refine va_get (D := (dC, dI)) (ci := 2) (v := .ref ag_peg) (C := RX2) (T := TX2) (N := 8) hx hb hts hi_X2 hown hK hP 0 rfl rfl 6 (by decide) hf31 (fun _ h9 => h9) rfl (nq_d dX2_add_0_g (n := 36) rfl) ?_
      refine lv_iload hx hb (nq_d dX2_add_0_g (n := 37) rfl) (lv_at hl 0 rfl) ?_
      refine lv_iconst (v := ((-1) : Int32)) hx hb (nq_d dX2_add_0_g (n := 38) rfl) (by decide) ?_
      refine gx_iast hx hb hK hP hD hS 6 1 rfl rfl (nq_d dX2_add_0_g (n := 39) rfl) (fun f6 => [(ag, .inr (2, [.int g_number, .ref ag_sort, .ref ag_kind, .ref ag_tip, .ref ag_marks, .ref ag_brass, .ref ag_peg, .ref ag_has])), (ag_sort, .inl (cyI, 16, .inl f1)), (ag_kind, .inl (cyI, 16, .inl f2)), (ag_tip, .inl (cyI, 16, .inl f3)), (ag_marks, .inl (cyI, 16, .inl f4)), (ag_brass, .inl (cyI, 16, .inl f5)), (ag_peg, .inl (cyI, 16, .inl f6)), (ag_has, .inl (cyI, 16, .inl g_has))]) (fun _ => rfl) hw (fun f6 H locs hw hP hD hS => ?_)
      refine lv_aload_n hx hb (nq_d dX2_add_71_g (n := 0) rfl) rfl (lv_at hl 1 rfl) ?_
      refine va_get (D := (dC, dI)) (ci := 2) (v := .ref ag_has) (C := RX2) (T := TX2) (N := 8) hx hb hts hi_X2 hown hK hP 0 rfl rfl 7 (by decide) hf34 (fun _ h9 => h9) rfl (nq_d dX2_add_71_g (n := 1) rfl) ?_
      refine lv_iload hx hb (nq_d dX2_add_71_g (n := 2) rfl) (lv_at hl 0 rfl) ?_
      refine lv_iconst (v := ((-1) : Int32)) hx hb (nq_d dX2_add_71_g (n := 3) rfl) (by decide) ?_
      refine gx_iast hx hb hK hP hD hS 7 1 rfl rfl (nq_d dX2_add_71_g (n := 4) rfl) (fun f7 => [(ag, .inr (2, [.int g_number, .ref ag_sort, .ref ag_kind, .ref ag_tip, .ref ag_marks, .ref ag_brass, .ref ag_peg, .ref ag_has])), (ag_sort, .inl (cyI, 16, .inl f1)), (ag_kind, .inl (cyI, 16, .inl f2)), (ag_tip, .inl (cyI, 16, .inl f3)), (ag_marks, .inl (cyI, 16, .inl f4)), (ag_brass, .inl (cyI, 16, .inl f5)), (ag_peg, .inl (cyI, 16, .inl f6)), (ag_has, .inl (cyI, 16, .inl f7))]) (fun _ => rfl) hw (fun f7 H locs hw hP hD hS => ?_)
      refine lv_aload_n hx hb (nq_d dX2_add_71_g (n := 5) rfl) rfl (lv_at hl 1 rfl) ?_
      refine lv_dup hx hb (nq_d dX2_add_71_g (n := 6) rfl) rfl ?_
      refine va_get (D := (dC, dI)) (ci := 2) (v := .int g_number) (C := RX2) (T := TX2) (N := 8) hx hb hts hi_X2 hown hK hP 0 rfl rfl 0 (by decide) hf9 (fun _ h9 => h9) rfl (nq_d dX2_add_71_g (n := 7) rfl) ?_
      refine lv_iconst (v := (1 : Int32)) hx hb (nq_d dX2_add_71_g (n := 8) rfl) (by decide) ?_
      refine gx_iadd hx hb (nq_d dX2_add_71_g (n := 9) rfl) hw (fun v8 hw => ?_)
      refine gx_put (D := (dC, dI)) (ci := 2) (v := .int v8) (ty := .int) (C := RX2) (T := TX2) (N := 8) hx hb hts hi_X2 tyX2 tyX2_ok nmX2 hown hK hP hD hS 0 rfl rfl 0 (by decide) hf9 (fun _ h9 => h9) rfl (by decide +kernel) rfl rfl (Nat.le_of_ble_eq_true rfl) (nq_d dX2_add_71_g (n := 10) rfl) [(ag, .inr (2, [.int v8, .ref ag_sort, .ref ag_kind, .ref ag_tip, .ref ag_marks, .ref ag_brass, .ref ag_peg, .ref ag_has])), (ag_sort, .inl (cyI, 16, .inl f1)), (ag_kind, .inl (cyI, 16, .inl f2)), (ag_tip, .inl (cyI, 16, .inl f3)), (ag_marks, .inl (cyI, 16, .inl f4)), (ag_brass, .inl (cyI, 16, .inl f5)), (ag_peg, .inl (cyI, 16, .inl f6)), (ag_has, .inl (cyI, 16, .inl f7))] rfl (fun H locs hP hD hS => ?_)
      refine lv_iload hx hb (nq_d dX2_add_71_g (n := 11) rfl) (lv_at hl 0 rfl) ?_
      exact rt_i (A1 := A) hQ hx hb hr hlocks hP hD hS (v8, f1, f2, f3, f4, f5, f6, f7) [0, 1, 2, 3, 4, 5, 6, 7] rfl (by decide +kernel) hw (nq_d dX2_add_71_g (n := 12) rfl)
    · refine lv_sipush (v := ((-1004) : Int32)) hx hb (nq_d dX2_add_0_g (n := 8) rfl) (by decide) ?_
      exact rt_i (A1 := A) hQ hx hb hr hlocks hP hD hS (g_number, g_sort, g_kind, g_tip, g_marks, g_brass, g_peg, g_has) [0, 1, 2, 3, 4, 5, 6, 7] rfl (by decide +kernel) hw (nq_d dX2_add_0_g (n := 9) rfl)
abbrev rmX2_ownerOn : Room := { frames := 0, cells := 0, slots := 0, locals := 0 }
theorem cd_X2_ownerOn : yX2_ownerOn.cls = RX2 ∧ yX2_ownerOn.cls ≠ "java/lang/invoke/MethodHandle" ∧ yX2_ownerOn.cls ≠ "java/lang/invoke/VarHandle" ∧ (parseMethodDescriptor yX2_ownerOn.desc).map (fun d => d.parameters.length) = some 1 := by decide +kernel
set_option maxHeartbeats 4000000 in
set_option maxRecDepth 100000 in
theorem ct_Guests_ownerOn (l : Launch) (dC : Nat → ClassId) (dI : Nat → Nat → Nat) (cyB cyI cyJ cyZ : ClassId) (ag ag_sort ag_kind ag_tip ag_marks ag_brass ag_peg ag_has : Nat) (sz : Nat) (g_number : Int32) (g_peg : Nat → Int32) (x1 : Int32) (Q : Int → Prop) : Met l yX2_ownerOn wsX2_ownerOn rmX2_ownerOn (va_Pc [.ref ag, .int x1] (cPre (dC, dI) vwCl (tyS cyB cyI cyJ cyZ) [(ag, .inr (2, [.int g_number, .ref ag_sort, .ref ag_kind, .ref ag_tip, .ref ag_marks, .ref ag_brass, .ref ag_peg, .ref ag_has])), (ag_peg, .inl (cyI, 16, .inl g_peg))] sz (nf_Guests_ownerOn g_number.toInt (aI 16 g_peg) x1.toInt Q))) (va_Qi (fun (r : Int32) (_ : Unit) => Q r.toInt ) (cPost (dC, dI) vwCl (fun _ : Unit => [(ag, .inr (2, [.int g_number, .ref ag_sort, .ref ag_kind, .ref ag_tip, .ref ag_marks, .ref ag_brass, .ref ag_peg, .ref ag_has])), (ag_peg, .inl (cyI, 16, .inl g_peg))]) (va_A [(ag, .inr (2, [.int g_number, .ref ag_sort, .ref ag_kind, .ref ag_tip, .ref ag_marks, .ref ag_brass, .ref ag_peg, .ref ag_has])), (ag_peg, .inl (cyI, 16, .inl g_peg))] sz)) (va_A [(ag, .inr (2, [.int g_number, .ref ag_sort, .ref ag_kind, .ref ag_tip, .ref ag_marks, .ref ag_brass, .ref ag_peg, .ref ag_has])), (ag_peg, .inl (cyI, 16, .inl g_peg))] sz)) 0 0 (va_A [(ag, .inr (2, [.int g_number, .ref ag_sort, .ref ag_kind, .ref ag_tip, .ref ag_marks, .ref ag_brass, .ref ag_peg, .ref ag_has])), (ag_peg, .inl (cyI, 16, .inl g_peg))] sz) := by
  refine Met.ofW (cc := cX2_ownerOn) (maxL := 3) (ret := (some .int)) (by decide) rfl ?_
  intro p e s m args below meth c s₁ B hml hv
  obtain ⟨rfl, hsz, hP, hK, hD0, hNw, hw⟩ := hv
  have hx := B.exec
  have hb := B.bytes
  have hr := B.returns
  have hts := atoms_spec (ws := wsX2_ownerOn) B.pre
  have hown : s.vm.findClass RX2 = some m.cls := findClass_of_methodNamed B.named
  have hlocks := B.notSynchronized
  subst hsz
  have hD := hD0.self (sz := s.heap.size)
  generalize hAe : va_A [(ag, .inr (2, [.int g_number, .ref ag_sort, .ref ag_kind, .ref ag_tip, .ref ag_marks, .ref ag_brass, .ref ag_peg, .ref ag_has])), (ag_peg, .inl (cyI, 16, .inl g_peg))] s.heap.size = A at hD ⊢
  have hA : ∀ q : Nat, s.heap.size ≤ q → A q := fun q h => by rw [← hAe]; exact Or.inr h
  have hS : va_S A s.heap s.heap [] := va_S.rf
  have hl := lv_entry ([.ref ag, .int x1]) (n := 3) (Nat.le_of_ble_eq_true rfl)
  rw [lg_entry_eq]
  generalize (lg_sl ([.ref ag, .int x1]) ++ List.replicate (3 - (lg_sl ([.ref ag, .int x1])).length) Slot.unset).toArray = ls at hl ⊢
  have hl : lv_has ls 3 [(0, .ref ag), (1, .int x1)] := hl
  refine gx_q (fun Q9 hQ => ?_)
  unfold nf_Guests_ownerOn at hw
  have hi_X2 : ∀ w ∈ wsX20, w ∈ wsX2_ownerOn := (sub_c (nq_m (n := 3) rfl) (sub_c (nq_m (n := 4) rfl) (sub_c (nq_m (n := 5) rfl) (sub_c (nq_m (n := 6) rfl) (sub_c (nq_m (n := 7) rfl) (sub_c (nq_m (n := 8) rfl) (sub_c (nq_m (n := 9) rfl) (sub_c (nq_m (n := 10) rfl) sub_n))))))))
  have hf9 : (Cond.fieldLink RX2 9 "CoatsHall$Guests" (TX2 0).2.1 (TX2 0).2.2.1).before ([.ref ag, .int x1] : List Value).toArray s = true := hts (.fieldLink RX2 9 "CoatsHall$Guests" "number" "I") (nq_m (n := 1) rfl)
  have hf31 : (Cond.fieldLink RX2 31 "CoatsHall$Guests" (TX2 6).2.1 (TX2 6).2.2.1).before ([.ref ag, .int x1] : List Value).toArray s = true := hts (.fieldLink RX2 31 "CoatsHall$Guests" "peg" "[I") (nq_m (n := 2) rfl)
  refine lv_iconst (v := (0 : Int32)) hx hb (nq_d dX2_ownerOn_0_g (n := 0) rfl) (by decide) ?_
  refine lv_istore_n (lv' := [(2, .int (0 : Int32)), (0, .ref ag), (1, .int x1)]) hx hb (nq_d dX2_ownerOn_0_g (n := 1) rfl) rfl hl (by decide) rfl (fun ls hl => ?_)
  refine nlp1_el hw (fun X0_4 => ∀ (l2_1 : Int32), X0_4 = l2_1.toInt → ∀ (H : Heap) (locs : List Loc) (ls : Array Slot), va_P (dC, dI) vwCl [(ag, .inr (2, [.int g_number, .ref ag_sort, .ref ag_kind, .ref ag_tip, .ref ag_marks, .ref ag_brass, .ref ag_peg, .ref ag_has])), (ag_peg, .inl (cyI, 16, .inl g_peg))] H → va_D A [(ag, .inr (2, [.int g_number, .ref ag_sort, .ref ag_kind, .ref ag_tip, .ref ag_marks, .ref ag_brass, .ref ag_peg, .ref ag_has])), (ag_peg, .inl (cyI, 16, .inl g_peg))] → va_S A s.heap H locs → lv_has ls 3 [(0, .ref ag), (1, .int x1), (2, .int l2_1)] → W p l e (headSpec wsX2_ownerOn rmX2_ownerOn).room s m ([.ref ag, .int x1] : List Value).toArray below meth c H locs 0 0 Q9 (F0 m 2 ls [])) (fun self2 hPself2 X0_4 hw l2_1 eX0_4 H locs ls hP hD hS hl => ?_) (0 : Int32) rfl _ _ _ hP hD hS (lv_sub hl [1, 2, 0] rfl)
  subst eX0_4
  refine lv_iload_n hx hb (nq_d dX2_ownerOn_0_g (n := 2) rfl) rfl (lv_at hl 2 rfl) ?_
  refine lv_aload_n hx hb (nq_d dX2_ownerOn_0_g (n := 3) rfl) rfl (lv_at hl 0 rfl) ?_
  refine va_get (D := (dC, dI)) (ci := 2) (v := .int g_number) (C := RX2) (T := TX2) (N := 8) hx hb hts hi_X2 hown hK hP 0 rfl rfl 0 (by decide) hf9 (fun _ h9 => h9) rfl (nq_d dX2_ownerOn_0_g (n := 4) rfl) ?_
  refine gx_icmp_ge (tgt := 28) hx hb (nq_d dX2_ownerOn_0_g (n := 5) rfl) (by decide) hw (fun hw => ?_) (fun hw => ?_)
  · refine lv_iconst (v := ((-1) : Int32)) hx hb (nq_d dX2_ownerOn_0_g (n := 16) rfl) (by decide) ?_
    exact rt_i (A1 := A) hQ hx hb hr hlocks hP hD hS () [0, 1] rfl (by decide +kernel) hw (nq_d dX2_ownerOn_0_g (n := 17) rfl)
  · refine lv_aload_n hx hb (nq_d dX2_ownerOn_0_g (n := 6) rfl) rfl (lv_at hl 0 rfl) ?_
    refine va_get (D := (dC, dI)) (ci := 2) (v := .ref ag_peg) (C := RX2) (T := TX2) (N := 8) hx hb hts hi_X2 hown hK hP 0 rfl rfl 6 (by decide) hf31 (fun _ h9 => h9) rfl (nq_d dX2_ownerOn_0_g (n := 7) rfl) ?_
    refine lv_iload_n hx hb (nq_d dX2_ownerOn_0_g (n := 8) rfl) rfl (lv_at hl 2 rfl) ?_
    refine gx_iald hx hb hK hP 1 1 rfl rfl (nq_d dX2_ownerOn_0_g (n := 9) rfl) hw (fun v3 hw => ?_)
    refine lv_iload_n hx hb (nq_d dX2_ownerOn_0_g (n := 10) rfl) rfl (lv_at hl 1 rfl) ?_
    refine gx_icmp_ne (tgt := 22) hx hb (nq_d dX2_ownerOn_0_g (n := 11) rfl) (by decide) hw (fun hw => ?_) (fun hw => ?_)
    · refine gx_iinc (k := 2) (z := (1 : Int32)) (lv' := fun v4 => [(2, .int v4), (0, .ref ag), (1, .int x1)]) hx hb (nq_d dX2_ownerOn_0_g (n := 14) rfl) hl rfl (by decide) (by decide) (fun _ => rfl) hw (fun v4 ls hw hl => ?_)
      refine lv_goto (tgt := 2) hx hb (nq_d dX2_ownerOn_0_g (n := 15) rfl) (by decide) ?_
      exact hPself2 _ hw v4 rfl _ _ _ hP hD hS (lv_sub hl [1, 2, 0] rfl)
    · refine lv_iload_n hx hb (nq_d dX2_ownerOn_0_g (n := 12) rfl) rfl (lv_at hl 2 rfl) ?_
      exact rt_i (A1 := A) hQ hx hb hr hlocks hP hD hS () [0, 1] rfl (by decide +kernel) hw (nq_d dX2_ownerOn_0_g (n := 13) rfl)
abbrev rmX2_holderOf : Room := { frames := 0, cells := 0, slots := 0, locals := 0 }
theorem cd_X2_holderOf : yX2_holderOf.cls = RX2 ∧ yX2_holderOf.cls ≠ "java/lang/invoke/MethodHandle" ∧ yX2_holderOf.cls ≠ "java/lang/invoke/VarHandle" ∧ (parseMethodDescriptor yX2_holderOf.desc).map (fun d => d.parameters.length) = some 1 := by decide +kernel
set_option maxHeartbeats 4000000 in
set_option maxRecDepth 100000 in
theorem ct_Guests_holderOf (l : Launch) (dC : Nat → ClassId) (dI : Nat → Nat → Nat) (cyB cyI cyJ cyZ : ClassId) (ag ag_sort ag_kind ag_tip ag_marks ag_brass ag_peg ag_has : Nat) (sz : Nat) (g_number : Int32) (g_has : Nat → Int32) (x1 : Int32) (Q : Int → Prop) : Met l yX2_holderOf wsX2_holderOf rmX2_holderOf (va_Pc [.ref ag, .int x1] (cPre (dC, dI) vwCl (tyS cyB cyI cyJ cyZ) [(ag, .inr (2, [.int g_number, .ref ag_sort, .ref ag_kind, .ref ag_tip, .ref ag_marks, .ref ag_brass, .ref ag_peg, .ref ag_has])), (ag_has, .inl (cyI, 16, .inl g_has))] sz (nf_Guests_holderOf g_number.toInt (aI 16 g_has) x1.toInt Q))) (va_Qi (fun (r : Int32) (_ : Unit) => Q r.toInt ) (cPost (dC, dI) vwCl (fun _ : Unit => [(ag, .inr (2, [.int g_number, .ref ag_sort, .ref ag_kind, .ref ag_tip, .ref ag_marks, .ref ag_brass, .ref ag_peg, .ref ag_has])), (ag_has, .inl (cyI, 16, .inl g_has))]) (va_A [(ag, .inr (2, [.int g_number, .ref ag_sort, .ref ag_kind, .ref ag_tip, .ref ag_marks, .ref ag_brass, .ref ag_peg, .ref ag_has])), (ag_has, .inl (cyI, 16, .inl g_has))] sz)) (va_A [(ag, .inr (2, [.int g_number, .ref ag_sort, .ref ag_kind, .ref ag_tip, .ref ag_marks, .ref ag_brass, .ref ag_peg, .ref ag_has])), (ag_has, .inl (cyI, 16, .inl g_has))] sz)) 0 0 (va_A [(ag, .inr (2, [.int g_number, .ref ag_sort, .ref ag_kind, .ref ag_tip, .ref ag_marks, .ref ag_brass, .ref ag_peg, .ref ag_has])), (ag_has, .inl (cyI, 16, .inl g_has))] sz) := by
  refine Met.ofW (cc := cX2_holderOf) (maxL := 3) (ret := (some .int)) (by decide) rfl ?_
  intro p e s m args below meth c s₁ B hml hv
  obtain ⟨rfl, hsz, hP, hK, hD0, hNw, hw⟩ := hv
  have hx := B.exec
  have hb := B.bytes
  have hr := B.returns
  have hts := atoms_spec (ws := wsX2_holderOf) B.pre
  have hown : s.vm.findClass RX2 = some m.cls := findClass_of_methodNamed B.named
  have hlocks := B.notSynchronized
  subst hsz
  have hD := hD0.self (sz := s.heap.size)
  generalize hAe : va_A [(ag, .inr (2, [.int g_number, .ref ag_sort, .ref ag_kind, .ref ag_tip, .ref ag_marks, .ref ag_brass, .ref ag_peg, .ref ag_has])), (ag_has, .inl (cyI, 16, .inl g_has))] s.heap.size = A at hD ⊢
  have hA : ∀ q : Nat, s.heap.size ≤ q → A q := fun q h => by rw [← hAe]; exact Or.inr h
  have hS : va_S A s.heap s.heap [] := va_S.rf
  have hl := lv_entry ([.ref ag, .int x1]) (n := 3) (Nat.le_of_ble_eq_true rfl)
  rw [lg_entry_eq]
  generalize (lg_sl ([.ref ag, .int x1]) ++ List.replicate (3 - (lg_sl ([.ref ag, .int x1])).length) Slot.unset).toArray = ls at hl ⊢
  have hl : lv_has ls 3 [(0, .ref ag), (1, .int x1)] := hl
  refine gx_q (fun Q9 hQ => ?_)
  unfold nf_Guests_holderOf at hw
  have hi_X2 : ∀ w ∈ wsX20, w ∈ wsX2_holderOf := (sub_c (nq_m (n := 3) rfl) (sub_c (nq_m (n := 4) rfl) (sub_c (nq_m (n := 5) rfl) (sub_c (nq_m (n := 6) rfl) (sub_c (nq_m (n := 7) rfl) (sub_c (nq_m (n := 8) rfl) (sub_c (nq_m (n := 9) rfl) (sub_c (nq_m (n := 10) rfl) sub_n))))))))
  have hf9 : (Cond.fieldLink RX2 9 "CoatsHall$Guests" (TX2 0).2.1 (TX2 0).2.2.1).before ([.ref ag, .int x1] : List Value).toArray s = true := hts (.fieldLink RX2 9 "CoatsHall$Guests" "number" "I") (nq_m (n := 1) rfl)
  have hf34 : (Cond.fieldLink RX2 34 "CoatsHall$Guests" (TX2 7).2.1 (TX2 7).2.2.1).before ([.ref ag, .int x1] : List Value).toArray s = true := hts (.fieldLink RX2 34 "CoatsHall$Guests" "has" "[I") (nq_m (n := 2) rfl)
  refine lv_iconst (v := (0 : Int32)) hx hb (nq_d dX2_holderOf_0_g (n := 0) rfl) (by decide) ?_
  refine lv_istore_n (lv' := [(2, .int (0 : Int32)), (0, .ref ag), (1, .int x1)]) hx hb (nq_d dX2_holderOf_0_g (n := 1) rfl) rfl hl (by decide) rfl (fun ls hl => ?_)
  refine nlp1_el hw (fun X0_4 => ∀ (l2_1 : Int32), X0_4 = l2_1.toInt → ∀ (H : Heap) (locs : List Loc) (ls : Array Slot), va_P (dC, dI) vwCl [(ag, .inr (2, [.int g_number, .ref ag_sort, .ref ag_kind, .ref ag_tip, .ref ag_marks, .ref ag_brass, .ref ag_peg, .ref ag_has])), (ag_has, .inl (cyI, 16, .inl g_has))] H → va_D A [(ag, .inr (2, [.int g_number, .ref ag_sort, .ref ag_kind, .ref ag_tip, .ref ag_marks, .ref ag_brass, .ref ag_peg, .ref ag_has])), (ag_has, .inl (cyI, 16, .inl g_has))] → va_S A s.heap H locs → lv_has ls 3 [(0, .ref ag), (1, .int x1), (2, .int l2_1)] → W p l e (headSpec wsX2_holderOf rmX2_holderOf).room s m ([.ref ag, .int x1] : List Value).toArray below meth c H locs 0 0 Q9 (F0 m 2 ls [])) (fun self2 hPself2 X0_4 hw l2_1 eX0_4 H locs ls hP hD hS hl => ?_) (0 : Int32) rfl _ _ _ hP hD hS (lv_sub hl [1, 2, 0] rfl)
  subst eX0_4
  refine lv_iload_n hx hb (nq_d dX2_holderOf_0_g (n := 2) rfl) rfl (lv_at hl 2 rfl) ?_
  refine lv_aload_n hx hb (nq_d dX2_holderOf_0_g (n := 3) rfl) rfl (lv_at hl 0 rfl) ?_
  refine va_get (D := (dC, dI)) (ci := 2) (v := .int g_number) (C := RX2) (T := TX2) (N := 8) hx hb hts hi_X2 hown hK hP 0 rfl rfl 0 (by decide) hf9 (fun _ h9 => h9) rfl (nq_d dX2_holderOf_0_g (n := 4) rfl) ?_
  refine gx_icmp_ge (tgt := 28) hx hb (nq_d dX2_holderOf_0_g (n := 5) rfl) (by decide) hw (fun hw => ?_) (fun hw => ?_)
  · refine lv_iconst (v := ((-1) : Int32)) hx hb (nq_d dX2_holderOf_0_g (n := 16) rfl) (by decide) ?_
    exact rt_i (A1 := A) hQ hx hb hr hlocks hP hD hS () [0, 1] rfl (by decide +kernel) hw (nq_d dX2_holderOf_0_g (n := 17) rfl)
  · refine lv_aload_n hx hb (nq_d dX2_holderOf_0_g (n := 6) rfl) rfl (lv_at hl 0 rfl) ?_
    refine va_get (D := (dC, dI)) (ci := 2) (v := .ref ag_has) (C := RX2) (T := TX2) (N := 8) hx hb hts hi_X2 hown hK hP 0 rfl rfl 7 (by decide) hf34 (fun _ h9 => h9) rfl (nq_d dX2_holderOf_0_g (n := 7) rfl) ?_
    refine lv_iload_n hx hb (nq_d dX2_holderOf_0_g (n := 8) rfl) rfl (lv_at hl 2 rfl) ?_
    refine gx_iald hx hb hK hP 1 1 rfl rfl (nq_d dX2_holderOf_0_g (n := 9) rfl) hw (fun v3 hw => ?_)
    refine lv_iload_n hx hb (nq_d dX2_holderOf_0_g (n := 10) rfl) rfl (lv_at hl 1 rfl) ?_
    refine gx_icmp_ne (tgt := 22) hx hb (nq_d dX2_holderOf_0_g (n := 11) rfl) (by decide) hw (fun hw => ?_) (fun hw => ?_)
    · refine gx_iinc (k := 2) (z := (1 : Int32)) (lv' := fun v4 => [(2, .int v4), (0, .ref ag), (1, .int x1)]) hx hb (nq_d dX2_holderOf_0_g (n := 14) rfl) hl rfl (by decide) (by decide) (fun _ => rfl) hw (fun v4 ls hw hl => ?_)
      refine lv_goto (tgt := 2) hx hb (nq_d dX2_holderOf_0_g (n := 15) rfl) (by decide) ?_
      exact hPself2 _ hw v4 rfl _ _ _ hP hD hS (lv_sub hl [1, 2, 0] rfl)
    · refine lv_iload_n hx hb (nq_d dX2_holderOf_0_g (n := 12) rfl) rfl (lv_at hl 2 rfl) ?_
      exact rt_i (A1 := A) hQ hx hb hr hlocks hP hD hS () [0, 1] rfl (by decide +kernel) hw (nq_d dX2_holderOf_0_g (n := 13) rfl)
abbrev rmX2_brassIsOut : Room := { frames := 0, cells := 0, slots := 0, locals := 0 }
theorem cd_X2_brassIsOut : yX2_brassIsOut.cls = RX2 ∧ yX2_brassIsOut.cls ≠ "java/lang/invoke/MethodHandle" ∧ yX2_brassIsOut.cls ≠ "java/lang/invoke/VarHandle" ∧ (parseMethodDescriptor yX2_brassIsOut.desc).map (fun d => d.parameters.length) = some 1 := by decide +kernel
set_option maxHeartbeats 4000000 in
set_option maxRecDepth 100000 in
theorem ct_Guests_brassIsOut (l : Launch) (dC : Nat → ClassId) (dI : Nat → Nat → Nat) (cyB cyI cyJ cyZ : ClassId) (ag ag_sort ag_kind ag_tip ag_marks ag_brass ag_peg ag_has : Nat) (sz : Nat) (g_number : Int32) (g_brass : Nat → Int32) (x1 : Int32) (Q : Int → Prop) : Met l yX2_brassIsOut wsX2_brassIsOut rmX2_brassIsOut (va_Pc [.ref ag, .int x1] (cPre (dC, dI) vwCl (tyS cyB cyI cyJ cyZ) [(ag, .inr (2, [.int g_number, .ref ag_sort, .ref ag_kind, .ref ag_tip, .ref ag_marks, .ref ag_brass, .ref ag_peg, .ref ag_has])), (ag_brass, .inl (cyI, 16, .inl g_brass))] sz (nf_Guests_brassIsOut g_number.toInt (aI 16 g_brass) x1.toInt Q))) (va_Qi (fun (r : Int32) (_ : Unit) => Q r.toInt ) (cPost (dC, dI) vwCl (fun _ : Unit => [(ag, .inr (2, [.int g_number, .ref ag_sort, .ref ag_kind, .ref ag_tip, .ref ag_marks, .ref ag_brass, .ref ag_peg, .ref ag_has])), (ag_brass, .inl (cyI, 16, .inl g_brass))]) (va_A [(ag, .inr (2, [.int g_number, .ref ag_sort, .ref ag_kind, .ref ag_tip, .ref ag_marks, .ref ag_brass, .ref ag_peg, .ref ag_has])), (ag_brass, .inl (cyI, 16, .inl g_brass))] sz)) (va_A [(ag, .inr (2, [.int g_number, .ref ag_sort, .ref ag_kind, .ref ag_tip, .ref ag_marks, .ref ag_brass, .ref ag_peg, .ref ag_has])), (ag_brass, .inl (cyI, 16, .inl g_brass))] sz)) 0 0 (va_A [(ag, .inr (2, [.int g_number, .ref ag_sort, .ref ag_kind, .ref ag_tip, .ref ag_marks, .ref ag_brass, .ref ag_peg, .ref ag_has])), (ag_brass, .inl (cyI, 16, .inl g_brass))] sz) := by
  refine Met.ofW (cc := cX2_brassIsOut) (maxL := 3) (ret := (some .boolean)) (by decide) rfl ?_
  intro p e s m args below meth c s₁ B hml hv
  obtain ⟨rfl, hsz, hP, hK, hD0, hNw, hw⟩ := hv
  have hx := B.exec
  have hb := B.bytes
  have hr := B.returns
  have hts := atoms_spec (ws := wsX2_brassIsOut) B.pre
  have hown : s.vm.findClass RX2 = some m.cls := findClass_of_methodNamed B.named
  have hlocks := B.notSynchronized
  subst hsz
  have hD := hD0.self (sz := s.heap.size)
  generalize hAe : va_A [(ag, .inr (2, [.int g_number, .ref ag_sort, .ref ag_kind, .ref ag_tip, .ref ag_marks, .ref ag_brass, .ref ag_peg, .ref ag_has])), (ag_brass, .inl (cyI, 16, .inl g_brass))] s.heap.size = A at hD ⊢
  have hA : ∀ q : Nat, s.heap.size ≤ q → A q := fun q h => by rw [← hAe]; exact Or.inr h
  have hS : va_S A s.heap s.heap [] := va_S.rf
  have hl := lv_entry ([.ref ag, .int x1]) (n := 3) (Nat.le_of_ble_eq_true rfl)
  rw [lg_entry_eq]
  generalize (lg_sl ([.ref ag, .int x1]) ++ List.replicate (3 - (lg_sl ([.ref ag, .int x1])).length) Slot.unset).toArray = ls at hl ⊢
  have hl : lv_has ls 3 [(0, .ref ag), (1, .int x1)] := hl
  refine gx_q (fun Q9 hQ => ?_)
  unfold nf_Guests_brassIsOut at hw
  have hi_X2 : ∀ w ∈ wsX20, w ∈ wsX2_brassIsOut := (sub_c (nq_m (n := 3) rfl) (sub_c (nq_m (n := 4) rfl) (sub_c (nq_m (n := 5) rfl) (sub_c (nq_m (n := 6) rfl) (sub_c (nq_m (n := 7) rfl) (sub_c (nq_m (n := 8) rfl) (sub_c (nq_m (n := 9) rfl) (sub_c (nq_m (n := 10) rfl) sub_n))))))))
  have hf9 : (Cond.fieldLink RX2 9 "CoatsHall$Guests" (TX2 0).2.1 (TX2 0).2.2.1).before ([.ref ag, .int x1] : List Value).toArray s = true := hts (.fieldLink RX2 9 "CoatsHall$Guests" "number" "I") (nq_m (n := 1) rfl)
  have hf28 : (Cond.fieldLink RX2 28 "CoatsHall$Guests" (TX2 5).2.1 (TX2 5).2.2.1).before ([.ref ag, .int x1] : List Value).toArray s = true := hts (.fieldLink RX2 28 "CoatsHall$Guests" "brass" "[I") (nq_m (n := 2) rfl)
  refine lv_iconst (v := (0 : Int32)) hx hb (nq_d dX2_brassIsOut_0_g (n := 0) rfl) (by decide) ?_
  refine lv_istore_n (lv' := [(2, .int (0 : Int32)), (0, .ref ag), (1, .int x1)]) hx hb (nq_d dX2_brassIsOut_0_g (n := 1) rfl) rfl hl (by decide) rfl (fun ls hl => ?_)
  refine nlp1_el hw (fun X0_4 => ∀ (l2_1 : Int32), X0_4 = l2_1.toInt → ∀ (H : Heap) (locs : List Loc) (ls : Array Slot), va_P (dC, dI) vwCl [(ag, .inr (2, [.int g_number, .ref ag_sort, .ref ag_kind, .ref ag_tip, .ref ag_marks, .ref ag_brass, .ref ag_peg, .ref ag_has])), (ag_brass, .inl (cyI, 16, .inl g_brass))] H → va_D A [(ag, .inr (2, [.int g_number, .ref ag_sort, .ref ag_kind, .ref ag_tip, .ref ag_marks, .ref ag_brass, .ref ag_peg, .ref ag_has])), (ag_brass, .inl (cyI, 16, .inl g_brass))] → va_S A s.heap H locs → lv_has ls 3 [(0, .ref ag), (1, .int x1), (2, .int l2_1)] → W p l e (headSpec wsX2_brassIsOut rmX2_brassIsOut).room s m ([.ref ag, .int x1] : List Value).toArray below meth c H locs 0 0 Q9 (F0 m 2 ls [])) (fun self2 hPself2 X0_4 hw l2_1 eX0_4 H locs ls hP hD hS hl => ?_) (0 : Int32) rfl _ _ _ hP hD hS (lv_sub hl [1, 2, 0] rfl)
  subst eX0_4
  refine lv_iload_n hx hb (nq_d dX2_brassIsOut_0_g (n := 2) rfl) rfl (lv_at hl 2 rfl) ?_
  refine lv_aload_n hx hb (nq_d dX2_brassIsOut_0_g (n := 3) rfl) rfl (lv_at hl 0 rfl) ?_
  refine va_get (D := (dC, dI)) (ci := 2) (v := .int g_number) (C := RX2) (T := TX2) (N := 8) hx hb hts hi_X2 hown hK hP 0 rfl rfl 0 (by decide) hf9 (fun _ h9 => h9) rfl (nq_d dX2_brassIsOut_0_g (n := 4) rfl) ?_
  refine gx_icmp_ge (tgt := 28) hx hb (nq_d dX2_brassIsOut_0_g (n := 5) rfl) (by decide) hw (fun hw => ?_) (fun hw => ?_)
  · refine lv_iconst (v := (0 : Int32)) hx hb (nq_d dX2_brassIsOut_0_g (n := 16) rfl) (by decide) ?_
    exact rt_zl (A1 := A) hQ hx hb hr hlocks hP hD hS () [0, 1] rfl (by decide +kernel) rfl hw (nq_d dX2_brassIsOut_0_g (n := 17) rfl)
  · refine lv_aload_n hx hb (nq_d dX2_brassIsOut_0_g (n := 6) rfl) rfl (lv_at hl 0 rfl) ?_
    refine va_get (D := (dC, dI)) (ci := 2) (v := .ref ag_brass) (C := RX2) (T := TX2) (N := 8) hx hb hts hi_X2 hown hK hP 0 rfl rfl 5 (by decide) hf28 (fun _ h9 => h9) rfl (nq_d dX2_brassIsOut_0_g (n := 7) rfl) ?_
    refine lv_iload_n hx hb (nq_d dX2_brassIsOut_0_g (n := 8) rfl) rfl (lv_at hl 2 rfl) ?_
    refine gx_iald hx hb hK hP 1 1 rfl rfl (nq_d dX2_brassIsOut_0_g (n := 9) rfl) hw (fun v3 hw => ?_)
    refine lv_iload_n hx hb (nq_d dX2_brassIsOut_0_g (n := 10) rfl) rfl (lv_at hl 1 rfl) ?_
    refine gx_icmp_ne (tgt := 22) hx hb (nq_d dX2_brassIsOut_0_g (n := 11) rfl) (by decide) hw (fun hw => ?_) (fun hw => ?_)
    · refine gx_iinc (k := 2) (z := (1 : Int32)) (lv' := fun v4 => [(2, .int v4), (0, .ref ag), (1, .int x1)]) hx hb (nq_d dX2_brassIsOut_0_g (n := 14) rfl) hl rfl (by decide) (by decide) (fun _ => rfl) hw (fun v4 ls hw hl => ?_)
      refine lv_goto (tgt := 2) hx hb (nq_d dX2_brassIsOut_0_g (n := 15) rfl) (by decide) ?_
      exact hPself2 _ hw v4 rfl _ _ _ hP hD hS (lv_sub hl [1, 2, 0] rfl)
    · refine lv_iconst (v := (1 : Int32)) hx hb (nq_d dX2_brassIsOut_0_g (n := 12) rfl) (by decide) ?_
      exact rt_zl (A1 := A) hQ hx hb hr hlocks hP hD hS () [0, 1] rfl (by decide +kernel) rfl hw (nq_d dX2_brassIsOut_0_g (n := 13) rfl)
