/-! CONTRACTS, printed by program: the machine does what the nice form says -/
abbrev rmX0_copyFrom : Room := { frames := 1, cells := 0, slots := 0, locals := 24 }
theorem cd_X0_copyFrom : yX0_copyFrom.cls = RX0 ∧ yX0_copyFrom.cls ≠ "java/lang/invoke/MethodHandle" ∧ yX0_copyFrom.cls ≠ "java/lang/invoke/VarHandle" ∧ (parseMethodDescriptor yX0_copyFrom.desc).map (fun d => d.parameters.length) = some 1 := by decide +kernel
set_option maxHeartbeats 4000000 in
set_option maxRecDepth 100000 in
theorem ct_Claims_copyFrom (l : Launch) (dC : Nat → ClassId) (dI : Nat → Nat → Nat) (cyB cyI cyJ cyZ : ClassId) (ac ac_guest ac_yes ac_no ayc ayc_guest ayc_yes ayc_no : Nat) (sz : Nat) (c_number : Int32) (yc_number : Int32) (c_guest : Nat → Int32) (c_yes : Nat → Int32) (c_no : Nat → Int32) (yc_guest : Nat → Int32) (yc_yes : Nat → Int32) (yc_no : Nat → Int32) (Q : Int → (Int → Int) → (Int → Int) → (Int → Int) → Prop) : Met l yX0_copyFrom wsX0_copyFrom rmX0_copyFrom (va_Pc [.ref ac, .ref ayc] (cPre (dC, dI) vwCl (tyS cyB cyI cyJ cyZ) [(ac, .inr (0, [.int c_number, .ref ac_guest, .ref ac_yes, .ref ac_no])), (ac_guest, .inl (cyI, 6, .inl c_guest)), (ac_yes, .inl (cyI, 6, .inl c_yes)), (ac_no, .inl (cyI, 6, .inl c_no)), (ayc, .inr (0, [.int yc_number, .ref ayc_guest, .ref ayc_yes, .ref ayc_no])), (ayc_guest, .inl (cyI, 6, .inl yc_guest)), (ayc_yes, .inl (cyI, 6, .inl yc_yes)), (ayc_no, .inl (cyI, 6, .inl yc_no))] sz (nf_Claims_copyFrom c_number.toInt (aI 6 c_guest) (aI 6 c_yes) (aI 6 c_no) yc_number.toInt (aI 6 yc_guest) (aI 6 yc_yes) (aI 6 yc_no)  Q))) (va_Qv (fun (u : Int32 × (Nat → Int32) × (Nat → Int32) × (Nat → Int32)) => Q (u.1).toInt (aI 6 (u.2.1)) (aI 6 (u.2.2.1)) (aI 6 (u.2.2.2))) (cPost (dC, dI) vwCl (fun u : Int32 × (Nat → Int32) × (Nat → Int32) × (Nat → Int32) => [(ac, .inr (0, [.int u.1, .ref ac_guest, .ref ac_yes, .ref ac_no])), (ac_guest, .inl (cyI, 6, .inl (u.2.1))), (ac_yes, .inl (cyI, 6, .inl (u.2.2.1))), (ac_no, .inl (cyI, 6, .inl (u.2.2.2))), (ayc, .inr (0, [.int yc_number, .ref ayc_guest, .ref ayc_yes, .ref ayc_no])), (ayc_guest, .inl (cyI, 6, .inl yc_guest)), (ayc_yes, .inl (cyI, 6, .inl yc_yes)), (ayc_no, .inl (cyI, 6, .inl yc_no))]) (va_A [(ac, .inr (0, [.int c_number, .ref ac_guest, .ref ac_yes, .ref ac_no])), (ac_guest, .inl (cyI, 6, .inl c_guest)), (ac_yes, .inl (cyI, 6, .inl c_yes)), (ac_no, .inl (cyI, 6, .inl c_no)), (ayc, .inr (0, [.int yc_number, .ref ayc_guest, .ref ayc_yes, .ref ayc_no])), (ayc_guest, .inl (cyI, 6, .inl yc_guest)), (ayc_yes, .inl (cyI, 6, .inl yc_yes)), (ayc_no, .inl (cyI, 6, .inl yc_no))] sz)) (va_A [(ac, .inr (0, [.int c_number, .ref ac_guest, .ref ac_yes, .ref ac_no])), (ac_guest, .inl (cyI, 6, .inl c_guest)), (ac_yes, .inl (cyI, 6, .inl c_yes)), (ac_no, .inl (cyI, 6, .inl c_no)), (ayc, .inr (0, [.int yc_number, .ref ayc_guest, .ref ayc_yes, .ref ayc_no])), (ayc_guest, .inl (cyI, 6, .inl yc_guest)), (ayc_yes, .inl (cyI, 6, .inl yc_yes)), (ayc_no, .inl (cyI, 6, .inl yc_no))] sz)) 0 0 (va_A [(ac, .inr (0, [.int c_number, .ref ac_guest, .ref ac_yes, .ref ac_no])), (ac_guest, .inl (cyI, 6, .inl c_guest)), (ac_yes, .inl (cyI, 6, .inl c_yes)), (ac_no, .inl (cyI, 6, .inl c_no)), (ayc, .inr (0, [.int yc_number, .ref ayc_guest, .ref ayc_yes, .ref ayc_no])), (ayc_guest, .inl (cyI, 6, .inl yc_guest)), (ayc_yes, .inl (cyI, 6, .inl yc_yes)), (ayc_no, .inl (cyI, 6, .inl yc_no))] sz) := by
  refine Met.ofW (cc := cX0_copyFrom) (maxL := 2) (ret := none) (by decide) rfl ?_
  intro p e s m args below meth c s₁ B hml hv
  obtain ⟨rfl, hsz, hP, hK, hD0, hNw, hw⟩ := hv
  have hx := B.exec
  have hb := B.bytes
  have hr := B.returns
  have hts := atoms_spec (ws := wsX0_copyFrom) B.pre
  have hown : s.vm.findClass RX0 = some m.cls := findClass_of_methodNamed B.named
  have hlocks := B.notSynchronized
  subst hsz
  have hD := hD0.self (sz := s.heap.size)
  generalize hAe : va_A [(ac, .inr (0, [.int c_number, .ref ac_guest, .ref ac_yes, .ref ac_no])), (ac_guest, .inl (cyI, 6, .inl c_guest)), (ac_yes, .inl (cyI, 6, .inl c_yes)), (ac_no, .inl (cyI, 6, .inl c_no)), (ayc, .inr (0, [.int yc_number, .ref ayc_guest, .ref ayc_yes, .ref ayc_no])), (ayc_guest, .inl (cyI, 6, .inl yc_guest)), (ayc_yes, .inl (cyI, 6, .inl yc_yes)), (ayc_no, .inl (cyI, 6, .inl yc_no))] s.heap.size = A at hD ⊢
  have hA : ∀ q : Nat, s.heap.size ≤ q → A q := fun q h => by rw [← hAe]; exact Or.inr h
  have hS : va_S A s.heap s.heap [] := va_S.rf
  have hl := lv_entry ([.ref ac, .ref ayc]) (n := 2) (Nat.le_of_ble_eq_true rfl)
  rw [lg_entry_eq]
  generalize (lg_sl ([.ref ac, .ref ayc]) ++ List.replicate (2 - (lg_sl ([.ref ac, .ref ayc])).length) Slot.unset).toArray = ls at hl ⊢
  have hl : lv_has ls 2 [(0, .ref ac), (1, .ref ayc)] := hl
  refine gx_q (fun Q9 hQ => ?_)
  unfold nf_Claims_copyFrom at hw
  have hi_X0 : ∀ w ∈ wsX00, w ∈ wsX0_copyFrom := (sub_c (nq_m (n := 9) rfl) (sub_c (nq_m (n := 10) rfl) (sub_c (nq_m (n := 11) rfl) (sub_c (nq_m (n := 12) rfl) sub_n))))
  have hf9 : (Cond.fieldLink RX0 9 "CoatsHall$Claims" (TX0 0).2.1 (TX0 0).2.2.1).before ([.ref ac, .ref ayc] : List Value).toArray s = true := hts (.fieldLink RX0 9 "CoatsHall$Claims" "number" "I") (nq_m (n := 1) rfl)
  have hf15 : (Cond.fieldLink RX0 15 "CoatsHall$Claims" (TX0 1).2.1 (TX0 1).2.2.1).before ([.ref ac, .ref ayc] : List Value).toArray s = true := hts (.fieldLink RX0 15 "CoatsHall$Claims" "guest" "[I") (nq_m (n := 2) rfl)
  have hf19 : (Cond.fieldLink RX0 19 "CoatsHall$Claims" (TX0 2).2.1 (TX0 2).2.2.1).before ([.ref ac, .ref ayc] : List Value).toArray s = true := hts (.fieldLink RX0 19 "CoatsHall$Claims" "yes" "[I") (nq_m (n := 7) rfl)
  have hf22 : (Cond.fieldLink RX0 22 "CoatsHall$Claims" (TX0 3).2.1 (TX0 3).2.2.1).before ([.ref ac, .ref ayc] : List Value).toArray s = true := hts (.fieldLink RX0 22 "CoatsHall$Claims" "no" "[I") (nq_m (n := 8) rfl)
  refine lv_aload_n hx hb (nq_d dX0_copyFrom_0_g (n := 0) rfl) rfl (lv_at hl 0 rfl) ?_
  refine lv_aload_n hx hb (nq_d dX0_copyFrom_0_g (n := 1) rfl) rfl (lv_at hl 1 rfl) ?_
  refine va_get (D := (dC, dI)) (ci := 0) (v := .int yc_number) (C := RX0) (T := TX0) (N := 4) hx hb hts hi_X0 hown hK hP 4 rfl rfl 0 (by decide) hf9 (fun _ h9 => h9) rfl (nq_d dX0_copyFrom_0_g (n := 2) rfl) ?_
  refine gx_put (D := (dC, dI)) (ci := 0) (v := .int yc_number) (ty := .int) (C := RX0) (T := TX0) (N := 4) hx hb hts hi_X0 tyX0 tyX0_ok nmX0 hown hK hP hD hS 0 rfl rfl 0 (by decide) hf9 (fun _ h9 => h9) rfl (by decide +kernel) rfl rfl (Nat.le_of_ble_eq_true rfl) (nq_d dX0_copyFrom_0_g (n := 3) rfl) [(ac, .inr (0, [.int yc_number, .ref ac_guest, .ref ac_yes, .ref ac_no])), (ac_guest, .inl (cyI, 6, .inl c_guest)), (ac_yes, .inl (cyI, 6, .inl c_yes)), (ac_no, .inl (cyI, 6, .inl c_no)), (ayc, .inr (0, [.int yc_number, .ref ayc_guest, .ref ayc_yes, .ref ayc_no])), (ayc_guest, .inl (cyI, 6, .inl yc_guest)), (ayc_yes, .inl (cyI, 6, .inl yc_yes)), (ayc_no, .inl (cyI, 6, .inl yc_no))] rfl (fun H locs hP hD hS => ?_)
  refine lv_aload_n hx hb (nq_d dX0_copyFrom_0_g (n := 4) rfl) rfl (lv_at hl 1 rfl) ?_
  refine va_get (D := (dC, dI)) (ci := 0) (v := .ref ayc_guest) (C := RX0) (T := TX0) (N := 4) hx hb hts hi_X0 hown hK hP 4 rfl rfl 1 (by decide) hf15 (fun _ h9 => h9) rfl (nq_d dX0_copyFrom_0_g (n := 5) rfl) ?_
  refine lv_iconst (v := (0 : Int32)) hx hb (nq_d dX0_copyFrom_0_g (n := 6) rfl) (by decide) ?_
  refine lv_aload_n hx hb (nq_d dX0_copyFrom_0_g (n := 7) rfl) rfl (lv_at hl 0 rfl) ?_
  refine va_get (D := (dC, dI)) (ci := 0) (v := .ref ac_guest) (C := RX0) (T := TX0) (N := 4) hx hb hts hi_X0 hown hK hP 0 rfl rfl 1 (by decide) hf15 (fun _ h9 => h9) rfl (nq_d dX0_copyFrom_0_g (n := 8) rfl) ?_
  refine lv_iconst (v := (0 : Int32)) hx hb (nq_d dX0_copyFrom_0_g (n := 9) rfl) (by decide) ?_
  refine lv_bipush (v := (6 : Int32)) hx hb (nq_d dX0_copyFrom_0_g (n := 10) rfl) (by decide) ?_
  refine gx_copy hx hb (hml.trans hl.1.symm) hown (hts (.methodLink RX0 25 arraycopyName) (nq_m (n := 3) rfl)) (hts (.native arraycopyName) (nq_m (n := 4) rfl)) (hts (.static arraycopyName) (nq_m (n := 5) rfl)) (hts (.initialized "java/lang/System") (nq_m (n := 6) rfl)) hK hP hD hS 5 1 1 rfl rfl rfl rfl (by decide) (by decide) (Nat.le_of_ble_eq_true rfl) (Nat.le_of_ble_eq_true rfl) (nq_d dX0_copyFrom_0_g (n := 11) rfl) (fun f1 => [(ac, .inr (0, [.int yc_number, .ref ac_guest, .ref ac_yes, .ref ac_no])), (ac_guest, .inl (cyI, 6, .inl f1)), (ac_yes, .inl (cyI, 6, .inl c_yes)), (ac_no, .inl (cyI, 6, .inl c_no)), (ayc, .inr (0, [.int yc_number, .ref ayc_guest, .ref ayc_yes, .ref ayc_no])), (ayc_guest, .inl (cyI, 6, .inl yc_guest)), (ayc_yes, .inl (cyI, 6, .inl yc_yes)), (ayc_no, .inl (cyI, 6, .inl yc_no))]) (fun _ => rfl) hw (fun f1 H locs hw hP hD hS => ?_)
  refine lv_aload_n hx hb (nq_d dX0_copyFrom_0_g (n := 12) rfl) rfl (lv_at hl 1 rfl) ?_
  refine va_get (D := (dC, dI)) (ci := 0) (v := .ref ayc_yes) (C := RX0) (T := TX0) (N := 4) hx hb hts hi_X0 hown hK hP 4 rfl rfl 2 (by decide) hf19 (fun _ h9 => h9) rfl (nq_d dX0_copyFrom_0_g (n := 13) rfl) ?_
  refine lv_iconst (v := (0 : Int32)) hx hb (nq_d dX0_copyFrom_0_g (n := 14) rfl) (by decide) ?_
  refine lv_aload_n hx hb (nq_d dX0_copyFrom_0_g (n := 15) rfl) rfl (lv_at hl 0 rfl) ?_
  refine va_get (D := (dC, dI)) (ci := 0) (v := .ref ac_yes) (C := RX0) (T := TX0) (N := 4) hx hb hts hi_X0 hown hK hP 0 rfl rfl 2 (by decide) hf19 (fun _ h9 => h9) rfl (nq_d dX0_copyFrom_0_g (n := 16) rfl) ?_
  refine lv_iconst (v := (0 : Int32)) hx hb (nq_d dX0_copyFrom_0_g (n := 17) rfl) (by decide) ?_
  refine lv_bipush (v := (6 : Int32)) hx hb (nq_d dX0_copyFrom_0_g (n := 18) rfl) (by decide) ?_
  refine gx_copy hx hb (hml.trans hl.1.symm) hown (hts (.methodLink RX0 25 arraycopyName) (nq_m (n := 3) rfl)) (hts (.native arraycopyName) (nq_m (n := 4) rfl)) (hts (.static arraycopyName) (nq_m (n := 5) rfl)) (hts (.initialized "java/lang/System") (nq_m (n := 6) rfl)) hK hP hD hS 6 2 1 rfl rfl rfl rfl (by decide) (by decide) (Nat.le_of_ble_eq_true rfl) (Nat.le_of_ble_eq_true rfl) (nq_d dX0_copyFrom_0_g (n := 19) rfl) (fun f2 => [(ac, .inr (0, [.int yc_number, .ref ac_guest, .ref ac_yes, .ref ac_no])), (ac_guest, .inl (cyI, 6, .inl f1)), (ac_yes, .inl (cyI, 6, .inl f2)), (ac_no, .inl (cyI, 6, .inl c_no)), (ayc, .inr (0, [.int yc_number, .ref ayc_guest, .ref ayc_yes, .ref ayc_no])), (ayc_guest, .inl (cyI, 6, .inl yc_guest)), (ayc_yes, .inl (cyI, 6, .inl yc_yes)), (ayc_no, .inl (cyI, 6, .inl yc_no))]) (fun _ => rfl) hw (fun f2 H locs hw hP hD hS => ?_)
  refine lv_aload_n hx hb (nq_d dX0_copyFrom_0_g (n := 20) rfl) rfl (lv_at hl 1 rfl) ?_
  refine va_get (D := (dC, dI)) (ci := 0) (v := .ref ayc_no) (C := RX0) (T := TX0) (N := 4) hx hb hts hi_X0 hown hK hP 4 rfl rfl 3 (by decide) hf22 (fun _ h9 => h9) rfl (nq_d dX0_copyFrom_0_g (n := 21) rfl) ?_
  refine lv_iconst (v := (0 : Int32)) hx hb (nq_d dX0_copyFrom_0_g (n := 22) rfl) (by decide) ?_
  refine lv_aload_n hx hb (nq_d dX0_copyFrom_0_g (n := 23) rfl) rfl (lv_at hl 0 rfl) ?_
  refine va_get (D := (dC, dI)) (ci := 0) (v := .ref ac_no) (C := RX0) (T := TX0) (N := 4) hx hb hts hi_X0 hown hK hP 0 rfl rfl 3 (by decide) hf22 (fun _ h9 => h9) rfl (nq_d dX0_copyFrom_0_g (n := 24) rfl) ?_
  refine lv_iconst (v := (0 : Int32)) hx hb (nq_d dX0_copyFrom_0_g (n := 25) rfl) (by decide) ?_
  refine lv_bipush (v := (6 : Int32)) hx hb (nq_d dX0_copyFrom_0_g (n := 26) rfl) (by decide) ?_
  refine gx_copy hx hb (hml.trans hl.1.symm) hown (hts (.methodLink RX0 25 arraycopyName) (nq_m (n := 3) rfl)) (hts (.native arraycopyName) (nq_m (n := 4) rfl)) (hts (.static arraycopyName) (nq_m (n := 5) rfl)) (hts (.initialized "java/lang/System") (nq_m (n := 6) rfl)) hK hP hD hS 7 3 1 rfl rfl rfl rfl (by decide) (by decide) (Nat.le_of_ble_eq_true rfl) (Nat.le_of_ble_eq_true rfl) (nq_d dX0_copyFrom_0_g (n := 27) rfl) (fun f3 => [(ac, .inr (0, [.int yc_number, .ref ac_guest, .ref ac_yes, .ref ac_no])), (ac_guest, .inl (cyI, 6, .inl f1)), (ac_yes, .inl (cyI, 6, .inl f2)), (ac_no, .inl (cyI, 6, .inl f3)), (ayc, .inr (0, [.int yc_number, .ref ayc_guest, .ref ayc_yes, .ref ayc_no])), (ayc_guest, .inl (cyI, 6, .inl yc_guest)), (ayc_yes, .inl (cyI, 6, .inl yc_yes)), (ayc_no, .inl (cyI, 6, .inl yc_no))]) (fun _ => rfl) hw (fun f3 H locs hw hP hD hS => ?_)
  exact rt_v (A1 := A) hQ hx hb hr hlocks hP hD hS (yc_number, f1, f2, f3) [0, 1, 2, 3, 4, 5, 6, 7] rfl (by decide +kernel) hw (nq_d dX0_copyFrom_0_g (n := 28) rfl)
abbrev rmX0_knows : Room := { frames := 0, cells := 0, slots := 0, locals := 0 }
theorem cd_X0_knows : yX0_knows.cls = RX0 ∧ yX0_knows.cls ≠ "java/lang/invoke/MethodHandle" ∧ yX0_knows.cls ≠ "java/lang/invoke/VarHandle" ∧ (parseMethodDescriptor yX0_knows.desc).map (fun d => d.parameters.length) = some 1 := by decide +kernel
set_option maxHeartbeats 4000000 in
set_option maxRecDepth 100000 in
theorem ct_Claims_knows (l : Launch) (dC : Nat → ClassId) (dI : Nat → Nat → Nat) (cyB cyI cyJ cyZ : ClassId) (ac ac_guest ac_yes ac_no : Nat) (sz : Nat) (c_number : Int32) (x1 : Int32) (Q : Int → Prop) : Met l yX0_knows wsX0_knows rmX0_knows (va_Pc [.ref ac, .int x1] (cPre (dC, dI) vwCl (tyS cyB cyI cyJ cyZ) [(ac, .inr (0, [.int c_number, .ref ac_guest, .ref ac_yes, .ref ac_no]))] sz (nf_Claims_knows c_number.toInt x1.toInt Q))) (va_Qi (fun (r : Int32) (_ : Unit) => Q r.toInt ) (cPost (dC, dI) vwCl (fun _ : Unit => [(ac, .inr (0, [.int c_number, .ref ac_guest, .ref ac_yes, .ref ac_no]))]) (va_A [(ac, .inr (0, [.int c_number, .ref ac_guest, .ref ac_yes, .ref ac_no]))] sz)) (va_A [(ac, .inr (0, [.int c_number, .ref ac_guest, .ref ac_yes, .ref ac_no]))] sz)) 0 0 (va_A [(ac, .inr (0, [.int c_number, .ref ac_guest, .ref ac_yes, .ref ac_no]))] sz) := by
  refine Met.ofW (cc := cX0_knows) (maxL := 2) (ret := (some .boolean)) (by decide) rfl ?_
  intro p e s m args below meth c s₁ B hml hv
  obtain ⟨rfl, hsz, hP, hK, hD0, hNw, hw⟩ := hv
  have hx := B.exec
  have hb := B.bytes
  have hr := B.returns
  have hts := atoms_spec (ws := wsX0_knows) B.pre
  have hown : s.vm.findClass RX0 = some m.cls := findClass_of_methodNamed B.named
  have hlocks := B.notSynchronized
  subst hsz
  have hD := hD0.self (sz := s.heap.size)
  generalize hAe : va_A [(ac, .inr (0, [.int c_number, .ref ac_guest, .ref ac_yes, .ref ac_no]))] s.heap.size = A at hD ⊢
  have hA : ∀ q : Nat, s.heap.size ≤ q → A q := fun q h => by rw [← hAe]; exact Or.inr h
  have hS : va_S A s.heap s.heap [] := va_S.rf
  have hl := lv_entry ([.ref ac, .int x1]) (n := 2) (Nat.le_of_ble_eq_true rfl)
  rw [lg_entry_eq]
  generalize (lg_sl ([.ref ac, .int x1]) ++ List.replicate (2 - (lg_sl ([.ref ac, .int x1])).length) Slot.unset).toArray = ls at hl ⊢
  have hl : lv_has ls 2 [(0, .ref ac), (1, .int x1)] := hl
  refine gx_q (fun Q9 hQ => ?_)
  unfold nf_Claims_knows at hw
  have hi_X0 : ∀ w ∈ wsX00, w ∈ wsX0_knows := (sub_c (nq_m (n := 2) rfl) (sub_c (nq_m (n := 3) rfl) (sub_c (nq_m (n := 4) rfl) (sub_c (nq_m (n := 5) rfl) sub_n))))
  have hf9 : (Cond.fieldLink RX0 9 "CoatsHall$Claims" (TX0 0).2.1 (TX0 0).2.2.1).before ([.ref ac, .int x1] : List Value).toArray s = true := hts (.fieldLink RX0 9 "CoatsHall$Claims" "number" "I") (nq_m (n := 1) rfl)
  refine lv_iload_n hx hb (nq_d dX0_knows_0_g (n := 0) rfl) rfl (lv_at hl 1 rfl) ?_
  refine gx_if_lt (tgt := 22) hx hb (nq_d dX0_knows_0_g (n := 1) rfl) (by decide) hw (fun hw => ?_) (fun hw => ?_)
  · refine lv_iconst (v := (0 : Int32)) hx hb (nq_d dX0_knows_0_g (n := 11) rfl) (by decide) ?_
    exact rt_zl (A1 := A) hQ hx hb hr hlocks hP hD hS () [0] rfl (by decide +kernel) rfl hw (nq_d dX0_knows_0_g (n := 12) rfl)
  · refine lv_iload_n hx hb (nq_d dX0_knows_0_g (n := 2) rfl) rfl (lv_at hl 1 rfl) ?_
    refine lv_aload_n hx hb (nq_d dX0_knows_0_g (n := 3) rfl) rfl (lv_at hl 0 rfl) ?_
    refine va_get (D := (dC, dI)) (ci := 0) (v := .int c_number) (C := RX0) (T := TX0) (N := 4) hx hb hts hi_X0 hown hK hP 0 rfl rfl 0 (by decide) hf9 (fun _ h9 => h9) rfl (nq_d dX0_knows_0_g (n := 4) rfl) ?_
    refine gx_icmp_ge (tgt := 22) hx hb (nq_d dX0_knows_0_g (n := 5) rfl) (by decide) hw (fun hw => ?_) (fun hw => ?_)
    · refine lv_iconst (v := (0 : Int32)) hx hb (nq_d dX0_knows_0_g (n := 11) rfl) (by decide) ?_
      exact rt_zl (A1 := A) hQ hx hb hr hlocks hP hD hS () [0] rfl (by decide +kernel) rfl hw (nq_d dX0_knows_0_g (n := 12) rfl)
    · refine lv_iload_n hx hb (nq_d dX0_knows_0_g (n := 6) rfl) rfl (lv_at hl 1 rfl) ?_
      refine lv_bipush (v := (6 : Int32)) hx hb (nq_d dX0_knows_0_g (n := 7) rfl) (by decide) ?_
      refine gx_icmp_ge (tgt := 22) hx hb (nq_d dX0_knows_0_g (n := 8) rfl) (by decide) hw (fun hw => ?_) (fun hw => ?_)
      · refine lv_iconst (v := (0 : Int32)) hx hb (nq_d dX0_knows_0_g (n := 11) rfl) (by decide) ?_
        exact rt_zl (A1 := A) hQ hx hb hr hlocks hP hD hS () [0] rfl (by decide +kernel) rfl hw (nq_d dX0_knows_0_g (n := 12) rfl)
      · refine lv_iconst (v := (1 : Int32)) hx hb (nq_d dX0_knows_0_g (n := 9) rfl) (by decide) ?_
        refine lv_goto (tgt := 23) hx hb (nq_d dX0_knows_0_g (n := 10) rfl) (by decide) ?_
        exact rt_zl (A1 := A) hQ hx hb hr hlocks hP hD hS () [0] rfl (by decide +kernel) rfl hw (nq_d dX0_knows_0_g (n := 12) rfl)
abbrev rmX0_isOf : Room := { frames := 0, cells := 0, slots := 0, locals := 0 }
theorem cd_X0_isOf : yX0_isOf.cls = RX0 ∧ yX0_isOf.cls ≠ "java/lang/invoke/MethodHandle" ∧ yX0_isOf.cls ≠ "java/lang/invoke/VarHandle" ∧ (parseMethodDescriptor yX0_isOf.desc).map (fun d => d.parameters.length) = some 1 := by decide +kernel
set_option maxHeartbeats 4000000 in
set_option maxRecDepth 100000 in
theorem ct_Claims_isOf (l : Launch) (dC : Nat → ClassId) (dI : Nat → Nat → Nat) (cyB cyI cyJ cyZ : ClassId) (ac ac_guest ac_yes ac_no : Nat) (sz : Nat) (c_number : Int32) (c_guest : Nat → Int32) (x1 : Int32) (Q : Int → Prop) : Met l yX0_isOf wsX0_isOf rmX0_isOf (va_Pc [.ref ac, .int x1] (cPre (dC, dI) vwCl (tyS cyB cyI cyJ cyZ) [(ac, .inr (0, [.int c_number, .ref ac_guest, .ref ac_yes, .ref ac_no])), (ac_guest, .inl (cyI, 6, .inl c_guest))] sz (nf_Claims_isOf c_number.toInt (aI 6 c_guest) x1.toInt Q))) (va_Qi (fun (r : Int32) (_ : Unit) => Q r.toInt ) (cPost (dC, dI) vwCl (fun _ : Unit => [(ac, .inr (0, [.int c_number, .ref ac_guest, .ref ac_yes, .ref ac_no])), (ac_guest, .inl (cyI, 6, .inl c_guest))]) (va_A [(ac, .inr (0, [.int c_number, .ref ac_guest, .ref ac_yes, .ref ac_no])), (ac_guest, .inl (cyI, 6, .inl c_guest))] sz)) (va_A [(ac, .inr (0, [.int c_number, .ref ac_guest, .ref ac_yes, .ref ac_no])), (ac_guest, .inl (cyI, 6, .inl c_guest))] sz)) 0 0 (va_A [(ac, .inr (0, [.int c_number, .ref ac_guest, .ref ac_yes, .ref ac_no])), (ac_guest, .inl (cyI, 6, .inl c_guest))] sz) := by
  refine Met.ofW (cc := cX0_isOf) (maxL := 3) (ret := (some .boolean)) (by decide) rfl ?_
  intro p e s m args below meth c s₁ B hml hv
  obtain ⟨rfl, hsz, hP, hK, hD0, hNw, hw⟩ := hv
  have hx := B.exec
  have hb := B.bytes
  have hr := B.returns
  have hts := atoms_spec (ws := wsX0_isOf) B.pre
  have hown : s.vm.findClass RX0 = some m.cls := findClass_of_methodNamed B.named
  have hlocks := B.notSynchronized
  subst hsz
  have hD := hD0.self (sz := s.heap.size)
  generalize hAe : va_A [(ac, .inr (0, [.int c_number, .ref ac_guest, .ref ac_yes, .ref ac_no])), (ac_guest, .inl (cyI, 6, .inl c_guest))] s.heap.size = A at hD ⊢
  have hA : ∀ q : Nat, s.heap.size ≤ q → A q := fun q h => by rw [← hAe]; exact Or.inr h
  have hS : va_S A s.heap s.heap [] := va_S.rf
  have hl := lv_entry ([.ref ac, .int x1]) (n := 3) (Nat.le_of_ble_eq_true rfl)
  rw [lg_entry_eq]
  generalize (lg_sl ([.ref ac, .int x1]) ++ List.replicate (3 - (lg_sl ([.ref ac, .int x1])).length) Slot.unset).toArray = ls at hl ⊢
  have hl : lv_has ls 3 [(0, .ref ac), (1, .int x1)] := hl
  refine gx_q (fun Q9 hQ => ?_)
  unfold nf_Claims_isOf at hw
  have hi_X0 : ∀ w ∈ wsX00, w ∈ wsX0_isOf := (sub_c (nq_m (n := 3) rfl) (sub_c (nq_m (n := 4) rfl) (sub_c (nq_m (n := 5) rfl) (sub_c (nq_m (n := 6) rfl) sub_n))))
  have hf9 : (Cond.fieldLink RX0 9 "CoatsHall$Claims" (TX0 0).2.1 (TX0 0).2.2.1).before ([.ref ac, .int x1] : List Value).toArray s = true := hts (.fieldLink RX0 9 "CoatsHall$Claims" "number" "I") (nq_m (n := 1) rfl)
  have hf15 : (Cond.fieldLink RX0 15 "CoatsHall$Claims" (TX0 1).2.1 (TX0 1).2.2.1).before ([.ref ac, .int x1] : List Value).toArray s = true := hts (.fieldLink RX0 15 "CoatsHall$Claims" "guest" "[I") (nq_m (n := 2) rfl)
  refine lv_iconst (v := (0 : Int32)) hx hb (nq_d dX0_isOf_0_g (n := 0) rfl) (by decide) ?_
  refine lv_istore_n (lv' := [(2, .int (0 : Int32)), (0, .ref ac), (1, .int x1)]) hx hb (nq_d dX0_isOf_0_g (n := 1) rfl) rfl hl (by decide) rfl (fun ls hl => ?_)
  refine nlp1_el hw (fun X0_4 => ∀ (l2_1 : Int32), X0_4 = l2_1.toInt → ∀ (H : Heap) (locs : List Loc) (ls : Array Slot), va_P (dC, dI) vwCl [(ac, .inr (0, [.int c_number, .ref ac_guest, .ref ac_yes, .ref ac_no])), (ac_guest, .inl (cyI, 6, .inl c_guest))] H → va_D A [(ac, .inr (0, [.int c_number, .ref ac_guest, .ref ac_yes, .ref ac_no])), (ac_guest, .inl (cyI, 6, .inl c_guest))] → va_S A s.heap H locs → lv_has ls 3 [(0, .ref ac), (1, .int x1), (2, .int l2_1)] → W p l e (headSpec wsX0_isOf rmX0_isOf).room s m ([.ref ac, .int x1] : List Value).toArray below meth c H locs 0 0 Q9 (F0 m 2 ls [])) (fun self2 hPself2 X0_4 hw l2_1 eX0_4 H locs ls hP hD hS hl => ?_) (0 : Int32) rfl _ _ _ hP hD hS (lv_sub hl [1, 2, 0] rfl)
  subst eX0_4
  refine lv_iload_n hx hb (nq_d dX0_isOf_0_g (n := 2) rfl) rfl (lv_at hl 2 rfl) ?_
  refine lv_aload_n hx hb (nq_d dX0_isOf_0_g (n := 3) rfl) rfl (lv_at hl 0 rfl) ?_
  refine va_get (D := (dC, dI)) (ci := 0) (v := .int c_number) (C := RX0) (T := TX0) (N := 4) hx hb hts hi_X0 hown hK hP 0 rfl rfl 0 (by decide) hf9 (fun _ h9 => h9) rfl (nq_d dX0_isOf_0_g (n := 4) rfl) ?_
  refine gx_icmp_ge (tgt := 28) hx hb (nq_d dX0_isOf_0_g (n := 5) rfl) (by decide) hw (fun hw => ?_) (fun hw => ?_)
  · refine lv_iconst (v := (0 : Int32)) hx hb (nq_d dX0_isOf_0_g (n := 16) rfl) (by decide) ?_
    exact rt_zl (A1 := A) hQ hx hb hr hlocks hP hD hS () [0, 1] rfl (by decide +kernel) rfl hw (nq_d dX0_isOf_0_g (n := 17) rfl)
  · refine lv_aload_n hx hb (nq_d dX0_isOf_0_g (n := 6) rfl) rfl (lv_at hl 0 rfl) ?_
    refine va_get (D := (dC, dI)) (ci := 0) (v := .ref ac_guest) (C := RX0) (T := TX0) (N := 4) hx hb hts hi_X0 hown hK hP 0 rfl rfl 1 (by decide) hf15 (fun _ h9 => h9) rfl (nq_d dX0_isOf_0_g (n := 7) rfl) ?_
    refine lv_iload_n hx hb (nq_d dX0_isOf_0_g (n := 8) rfl) rfl (lv_at hl 2 rfl) ?_
    refine gx_iald hx hb hK hP 1 1 rfl rfl (nq_d dX0_isOf_0_g (n := 9) rfl) hw (fun v3 hw => ?_)
    refine lv_iload_n hx hb (nq_d dX0_isOf_0_g (n := 10) rfl) rfl (lv_at hl 1 rfl) ?_
    refine gx_icmp_ne (tgt := 22) hx hb (nq_d dX0_isOf_0_g (n := 11) rfl) (by decide) hw (fun hw => ?_) (fun hw => ?_)
    · refine gx_iinc (k := 2) (z := (1 : Int32)) (lv' := fun v4 => [(2, .int v4), (0, .ref ac), (1, .int x1)]) hx hb (nq_d dX0_isOf_0_g (n := 14) rfl) hl rfl (by decide) (by decide) (fun _ => rfl) hw (fun v4 ls hw hl => ?_)
      refine lv_goto (tgt := 2) hx hb (nq_d dX0_isOf_0_g (n := 15) rfl) (by decide) ?_
      exact hPself2 _ hw v4 rfl _ _ _ hP hD hS (lv_sub hl [1, 2, 0] rfl)
    · refine lv_iconst (v := (1 : Int32)) hx hb (nq_d dX0_isOf_0_g (n := 12) rfl) (by decide) ?_
      exact rt_zl (A1 := A) hQ hx hb hr hlocks hP hD hS () [0, 1] rfl (by decide +kernel) rfl hw (nq_d dX0_isOf_0_g (n := 13) rfl)
abbrev rmX0_guestOf : Room := { frames := 1, cells := 0, slots := 0, locals := 21 }
theorem cd_X0_guestOf : yX0_guestOf.cls = RX0 ∧ yX0_guestOf.cls ≠ "java/lang/invoke/MethodHandle" ∧ yX0_guestOf.cls ≠ "java/lang/invoke/VarHandle" ∧ (parseMethodDescriptor yX0_guestOf.desc).map (fun d => d.parameters.length) = some 1 := by decide +kernel
set_option maxHeartbeats 4000000 in
set_option maxRecDepth 100000 in
theorem ct_Claims_guestOf (l : Launch) (dC : Nat → ClassId) (dI : Nat → Nat → Nat) (cyB cyI cyJ cyZ : ClassId) (ac ac_guest ac_yes ac_no : Nat) (sz : Nat) (c_number : Int32) (c_guest : Nat → Int32) (x1 : Int32) (Q : Int → Prop) : Met l yX0_guestOf wsX0_guestOf rmX0_guestOf (va_Pc [.ref ac, .int x1] (cPre (dC, dI) vwCl (tyS cyB cyI cyJ cyZ) [(ac, .inr (0, [.int c_number, .ref ac_guest, .ref ac_yes, .ref ac_no])), (ac_guest, .inl (cyI, 6, .inl c_guest))] sz (nf_Claims_guestOf c_number.toInt (aI 6 c_guest) x1.toInt Q))) (va_Qi (fun (r : Int32) (_ : Unit) => Q r.toInt ) (cPost (dC, dI) vwCl (fun _ : Unit => [(ac, .inr (0, [.int c_number, .ref ac_guest, .ref ac_yes, .ref ac_no])), (ac_guest, .inl (cyI, 6, .inl c_guest))]) (va_A [(ac, .inr (0, [.int c_number, .ref ac_guest, .ref ac_yes, .ref ac_no])), (ac_guest, .inl (cyI, 6, .inl c_guest))] sz)) (va_A [(ac, .inr (0, [.int c_number, .ref ac_guest, .ref ac_yes, .ref ac_no])), (ac_guest, .inl (cyI, 6, .inl c_guest))] sz)) 0 0 (va_A [(ac, .inr (0, [.int c_number, .ref ac_guest, .ref ac_yes, .ref ac_no])), (ac_guest, .inl (cyI, 6, .inl c_guest))] sz) := by
  refine Met.ofW (cc := cX0_guestOf) (maxL := 2) (ret := (some .int)) (by decide) rfl ?_
  intro p e s m args below meth c s₁ B hml hv
  obtain ⟨rfl, hsz, hP, hK, hD0, hNw, hw⟩ := hv
  have hx := B.exec
  have hb := B.bytes
  have hr := B.returns
  have hts := atoms_spec (ws := wsX0_guestOf) B.pre
  have hown : s.vm.findClass RX0 = some m.cls := findClass_of_methodNamed B.named
  have hlocks := B.notSynchronized
  subst hsz
  have hD := hD0.self (sz := s.heap.size)
  generalize hAe : va_A [(ac, .inr (0, [.int c_number, .ref ac_guest, .ref ac_yes, .ref ac_no])), (ac_guest, .inl (cyI, 6, .inl c_guest))] s.heap.size = A at hD ⊢
  have hA : ∀ q : Nat, s.heap.size ≤ q → A q := fun q h => by rw [← hAe]; exact Or.inr h
  have hS : va_S A s.heap s.heap [] := va_S.rf
  have hl := lv_entry ([.ref ac, .int x1]) (n := 2) (Nat.le_of_ble_eq_true rfl)
  rw [lg_entry_eq]
  generalize (lg_sl ([.ref ac, .int x1]) ++ List.replicate (2 - (lg_sl ([.ref ac, .int x1])).length) Slot.unset).toArray = ls at hl ⊢
  have hl : lv_has ls 2 [(0, .ref ac), (1, .int x1)] := hl
  refine gx_q (fun Q9 hQ => ?_)
  unfold nf_Claims_guestOf at hw
  have hi_X0 : ∀ w ∈ wsX00, w ∈ wsX0_guestOf := (sub_c (nq_m (n := 8) rfl) (sub_c (nq_m (n := 9) rfl) (sub_c (nq_m (n := 10) rfl) (sub_c (nq_m (n := 11) rfl) sub_n))))
  have hf15 : (Cond.fieldLink RX0 15 "CoatsHall$Claims" (TX0 1).2.1 (TX0 1).2.2.1).before ([.ref ac, .int x1] : List Value).toArray s = true := hts (.fieldLink RX0 15 "CoatsHall$Claims" "guest" "[I") (nq_m (n := 1) rfl)
  refine lv_aload_n hx hb (nq_d dX0_guestOf_0_g (n := 0) rfl) rfl (lv_at hl 0 rfl) ?_
  refine lv_iload_n hx hb (nq_d dX0_guestOf_0_g (n := 1) rfl) rfl (lv_at hl 1 rfl) ?_
  refine gx_ri (wr := [(ac_guest, .inl (cyI, 6, .inl c_guest))]) (va_runV (As := [.int x1]) (rest := []) ⟨hx, hb, hml, hown, hts⟩ (ct_Claims_knows l dC dI cyB cyI cyJ cyZ ac ac_guest ac_yes ac_no _ c_number x1 _) (cwV 1 hts gX0_guestOf_X0_knows rfl rfl rfl cd_X0_knows ⟨Nat.le_of_ble_eq_true rfl, Nat.le_of_ble_eq_true rfl⟩) (gx_preV hK hP hD hNw [0] rfl (by decide +kernel) hw 0 (ci := 0) rfl rfl rfl) rfl rfl hl.1 rfl (lv_room (Nat.le_of_ble_eq_true rfl)) (nq_d dX0_guestOf_0_g (n := 2) rfl) ⟨Nat.zero_le _, Nat.zero_le _⟩) hP hD hS hA [0] [1] [1, 0] rfl rfl (by decide) (by decide) (by decide) (fun _ => [(ac, .inr (0, [.int c_number, .ref ac_guest, .ref ac_yes, .ref ac_no])), (ac_guest, .inl (cyI, 6, .inl c_guest))]) (fun _ => rfl) (fun r1 u H locs hw hP hD hS => ?_)
  try dsimp only at hw hP hD
  refine gx_if_eq (tgt := 17) hx hb (nq_d dX0_guestOf_0_g (n := 3) rfl) (by decide) hw (fun hw => ?_) (fun hw => ?_)
  · refine lv_iconst (v := ((-1) : Int32)) hx hb (nq_d dX0_guestOf_0_g (n := 9) rfl) (by decide) ?_
    exact rt_i (A1 := A) hQ hx hb hr hlocks hP hD hS () [0, 1] rfl (by decide +kernel) hw (nq_d dX0_guestOf_0_g (n := 10) rfl)
  · refine lv_aload_n hx hb (nq_d dX0_guestOf_0_g (n := 4) rfl) rfl (lv_at hl 0 rfl) ?_
    refine va_get (D := (dC, dI)) (ci := 0) (v := .ref ac_guest) (C := RX0) (T := TX0) (N := 4) hx hb hts hi_X0 hown hK hP 0 rfl rfl 1 (by decide) hf15 (fun _ h9 => h9) rfl (nq_d dX0_guestOf_0_g (n := 5) rfl) ?_
    refine lv_iload_n hx hb (nq_d dX0_guestOf_0_g (n := 6) rfl) rfl (lv_at hl 1 rfl) ?_
    refine gx_iald hx hb hK hP 1 1 rfl rfl (nq_d dX0_guestOf_0_g (n := 7) rfl) hw (fun v2 hw => ?_)
    refine lv_goto (tgt := 18) hx hb (nq_d dX0_guestOf_0_g (n := 8) rfl) (by decide) ?_
    exact rt_i (A1 := A) hQ hx hb hr hlocks hP hD hS () [0, 1] rfl (by decide +kernel) hw (nq_d dX0_guestOf_0_g (n := 10) rfl)
abbrev rmX0_add : Room := { frames := 0, cells := 0, slots := 0, locals := 0 }
theorem cd_X0_add : yX0_add.cls = RX0 ∧ yX0_add.cls ≠ "java/lang/invoke/MethodHandle" ∧ yX0_add.cls ≠ "java/lang/invoke/VarHandle" ∧ (parseMethodDescriptor yX0_add.desc).map (fun d => d.parameters.length) = some 3 := by decide +kernel
set_option maxHeartbeats 4000000 in
set_option maxRecDepth 100000 in
theorem ct_Claims_add (l : Launch) (dC : Nat → ClassId) (dI : Nat → Nat → Nat) (cyB cyI cyJ cyZ : ClassId) (ac ac_guest ac_yes ac_no : Nat) (sz : Nat) (c_number : Int32) (c_guest : Nat → Int32) (c_yes : Nat → Int32) (c_no : Nat → Int32) (x1 : Int32) (x2 : Int32) (x3 : Int32) (Q : Int → Int → (Int → Int) → (Int → Int) → (Int → Int) → Prop) : Met l yX0_add wsX0_add rmX0_add (va_Pc [.ref ac, .int x1, .int x2, .int x3] (cPre (dC, dI) vwCl (tyS cyB cyI cyJ cyZ) [(ac, .inr (0, [.int c_number, .ref ac_guest, .ref ac_yes, .ref ac_no])), (ac_guest, .inl (cyI, 6, .inl c_guest)), (ac_yes, .inl (cyI, 6, .inl c_yes)), (ac_no, .inl (cyI, 6, .inl c_no))] sz (nf_Claims_add c_number.toInt (aI 6 c_guest) (aI 6 c_yes) (aI 6 c_no) x1.toInt x2.toInt x3.toInt Q))) (va_Qi (fun (r : Int32) (u : Int32 × (Nat → Int32) × (Nat → Int32) × (Nat → Int32)) => Q r.toInt (u.1).toInt (aI 6 (u.2.1)) (aI 6 (u.2.2.1)) (aI 6 (u.2.2.2))) (cPost (dC, dI) vwCl (fun u : Int32 × (Nat → Int32) × (Nat → Int32) × (Nat → Int32) => [(ac, .inr (0, [.int u.1, .ref ac_guest, .ref ac_yes, .ref ac_no])), (ac_guest, .inl (cyI, 6, .inl (u.2.1))), (ac_yes, .inl (cyI, 6, .inl (u.2.2.1))), (ac_no, .inl (cyI, 6, .inl (u.2.2.2)))]) (va_A [(ac, .inr (0, [.int c_number, .ref ac_guest, .ref ac_yes, .ref ac_no])), (ac_guest, .inl (cyI, 6, .inl c_guest)), (ac_yes, .inl (cyI, 6, .inl c_yes)), (ac_no, .inl (cyI, 6, .inl c_no))] sz)) (va_A [(ac, .inr (0, [.int c_number, .ref ac_guest, .ref ac_yes, .ref ac_no])), (ac_guest, .inl (cyI, 6, .inl c_guest)), (ac_yes, .inl (cyI, 6, .inl c_yes)), (ac_no, .inl (cyI, 6, .inl c_no))] sz)) 0 0 (va_A [(ac, .inr (0, [.int c_number, .ref ac_guest, .ref ac_yes, .ref ac_no])), (ac_guest, .inl (cyI, 6, .inl c_guest)), (ac_yes, .inl (cyI, 6, .inl c_yes)), (ac_no, .inl (cyI, 6, .inl c_no))] sz) := by
  refine Met.ofW (cc := cX0_add) (maxL := 5) (ret := (some .int)) (by decide) rfl ?_
  intro p e s m args below meth c s₁ B hml hv
  obtain ⟨rfl, hsz, hP, hK, hD0, hNw, hw⟩ := hv
  have hx := B.exec
  have hb := B.bytes
  have hr := B.returns
  have hts := atoms_spec (ws := wsX0_add) B.pre
  have hown : s.vm.findClass RX0 = some m.cls := findClass_of_methodNamed B.named
  have hlocks := B.notSynchronized
  subst hsz
  have hD := hD0.self (sz := s.heap.size)
  generalize hAe : va_A [(ac, .inr (0, [.int c_number, .ref ac_guest, .ref ac_yes, .ref ac_no])), (ac_guest, .inl (cyI, 6, .inl c_guest)), (ac_yes, .inl (cyI, 6, .inl c_yes)), (ac_no, .inl (cyI, 6, .inl c_no))] s.heap.size = A at hD ⊢
  have hA : ∀ q : Nat, s.heap.size ≤ q → A q := fun q h => by rw [← hAe]; exact Or.inr h
  have hS : va_S A s.heap s.heap [] := va_S.rf
  have hl := lv_entry ([.ref ac, .int x1, .int x2, .int x3]) (n := 5) (Nat.le_of_ble_eq_true rfl)
  rw [lg_entry_eq]
  generalize (lg_sl ([.ref ac, .int x1, .int x2, .int x3]) ++ List.replicate (5 - (lg_sl ([.ref ac, .int x1, .int x2, .int x3])).length) Slot.unset).toArray = ls at hl ⊢
  have hl : lv_has ls 5 [(0, .ref ac), (1, .int x1), (2, .int x2), (3, .int x3)] := hl
  refine gx_q (fun Q9 hQ => ?_)
  unfold nf_Claims_add at hw
  have hi_X0 : ∀ w ∈ wsX00, w ∈ wsX0_add := (sub_c (nq_m (n := 5) rfl) (sub_c (nq_m (n := 6) rfl) (sub_c (nq_m (n := 7) rfl) (sub_c (nq_m (n := 8) rfl) sub_n))))
  have hf9 : (Cond.fieldLink RX0 9 "CoatsHall$Claims" (TX0 0).2.1 (TX0 0).2.2.1).before ([.ref ac, .int x1, .int x2, .int x3] : List Value).toArray s = true := hts (.fieldLink RX0 9 "CoatsHall$Claims" "number" "I") (nq_m (n := 1) rfl)
  have hf15 : (Cond.fieldLink RX0 15 "CoatsHall$Claims" (TX0 1).2.1 (TX0 1).2.2.1).before ([.ref ac, .int x1, .int x2, .int x3] : List Value).toArray s = true := hts (.fieldLink RX0 15 "CoatsHall$Claims" "guest" "[I") (nq_m (n := 2) rfl)
  have hf19 : (Cond.fieldLink RX0 19 "CoatsHall$Claims" (TX0 2).2.1 (TX0 2).2.2.1).before ([.ref ac, .int x1, .int x2, .int x3] : List Value).toArray s = true := hts (.fieldLink RX0 19 "CoatsHall$Claims" "yes" "[I") (nq_m (n := 3) rfl)
  have hf22 : (Cond.fieldLink RX0 22 "CoatsHall$Claims" (TX0 3).2.1 (TX0 3).2.2.1).before ([.ref ac, .int x1, .int x2, .int x3] : List Value).toArray s = true := hts (.fieldLink RX0 22 "CoatsHall$Claims" "no" "[I") (nq_m (n := 4) rfl)
  refine lv_aload_n hx hb (nq_d dX0_add_0_g (n := 0) rfl) rfl (lv_at hl 0 rfl) ?_
  refine va_get (D := (dC, dI)) (ci := 0) (v := .int c_number) (C := RX0) (T := TX0) (N := 4) hx hb hts hi_X0 hown hK hP 0 rfl rfl 0 (by decide) hf9 (fun _ h9 => h9) rfl (nq_d dX0_add_0_g (n := 1) rfl) ?_
  refine lv_istore (lv' := [(4, .int c_number), (0, .ref ac), (1, .int x1), (2, .int x2), (3, .int x3)]) hx hb (nq_d dX0_add_0_g (n := 2) rfl) hl (by decide) rfl (fun ls hl => ?_)
  refine lv_iload hx hb (nq_d dX0_add_0_g (n := 3) rfl) (lv_at hl 0 rfl) ?_
  refine gx_if_lt (tgt := 18) hx hb (nq_d dX0_add_0_g (n := 4) rfl) (by decide) hw (fun hw => ?_) (fun hw => ?_)
  · refine lv_sipush (v := ((-1004) : Int32)) hx hb (nq_d dX0_add_0_g (n := 8) rfl) (by decide) ?_
    exact rt_i (A1 := A) hQ hx hb hr hlocks hP hD hS (c_number, c_guest, c_yes, c_no) [0, 1, 2, 3] rfl (by decide +kernel) hw (nq_d dX0_add_0_g (n := 9) rfl)
  · refine lv_iload hx hb (nq_d dX0_add_0_g (n := 5) rfl) (lv_at hl 0 rfl) ?_
    refine lv_bipush (v := (6 : Int32)) hx hb (nq_d dX0_add_0_g (n := 6) rfl) (by decide) ?_
    refine gx_icmp_lt (tgt := 22) hx hb (nq_d dX0_add_0_g (n := 7) rfl) (by decide) hw (fun hw => ?_) (fun hw => ?_)
    · refine lv_aload_n hx hb (nq_d dX0_add_0_g (n := 10) rfl) rfl (lv_at hl 1 rfl) ?_
      refine va_get (D := (dC, dI)) (ci := 0) (v := .ref ac_guest) (C := RX0) (T := TX0) (N := 4) hx hb hts hi_X0 hown hK hP 0 rfl rfl 1 (by decide) hf15 (fun _ h9 => h9) rfl (nq_d dX0_add_0_g (n := 11) rfl) ?_
      refine lv_iload hx hb (nq_d dX0_add_0_g (n := 12) rfl) (lv_at hl 0 rfl) ?_
      refine lv_iload_n hx hb (nq_d dX0_add_0_g (n := 13) rfl) rfl (lv_at hl 2 rfl) ?_
      refine gx_iast hx hb hK hP hD hS 1 1 rfl rfl (nq_d dX0_add_0_g (n := 14) rfl) (fun f1 => [(ac, .inr (0, [.int c_number, .ref ac_guest, .ref ac_yes, .ref ac_no])), (ac_guest, .inl (cyI, 6, .inl f1)), (ac_yes, .inl (cyI, 6, .inl c_yes)), (ac_no, .inl (cyI, 6, .inl c_no))]) (fun _ => rfl) hw (fun f1 H locs hw hP hD hS => ?_)
      refine lv_aload_n hx hb (nq_d dX0_add_0_g (n := 15) rfl) rfl (lv_at hl 1 rfl) ?_
      refine va_get (D := (dC, dI)) (ci := 0) (v := .ref ac_yes) (C := RX0) (T := TX0) (N := 4) hx hb hts hi_X0 hown hK hP 0 rfl rfl 2 (by decide) hf19 (fun _ h9 => h9) rfl (nq_d dX0_add_0_g (n := 16) rfl) ?_
      refine lv_iload hx hb (nq_d dX0_add_0_g (n := 17) rfl) (lv_at hl 0 rfl) ?_
      refine lv_iload_n hx hb (nq_d dX0_add_0_g (n := 18) rfl) rfl (lv_at hl 3 rfl) ?_
      refine gx_iast hx hb hK hP hD hS 2 1 rfl rfl (nq_d dX0_add_0_g (n := 19) rfl) (fun f2 => [(ac, .inr (0, [.int c_number, .ref ac_guest, .ref ac_yes, .ref ac_no])), (ac_guest, .inl (cyI, 6, .inl f1)), (ac_yes, .inl (cyI, 6, .inl f2)), (ac_no, .inl (cyI, 6, .inl c_no))]) (fun _ => rfl) hw (fun f2 H locs hw hP hD hS => ?_)
      refine lv_aload_n hx hb (nq_d dX0_add_0_g (n := 20) rfl) rfl (lv_at hl 1 rfl) ?_
      refine va_get (D := (dC, dI)) (ci := 0) (v := .ref ac_no) (C := RX0) (T := TX0) (N := 4) hx hb hts hi_X0 hown hK hP 0 rfl rfl 3 (by decide) hf22 (fun _ h9 => h9) rfl (nq_d dX0_add_0_g (n := 21) rfl) ?_
      refine lv_iload hx hb (nq_d dX0_add_0_g (n := 22) rfl) (lv_at hl 0 rfl) ?_
      refine lv_iload_n hx hb (nq_d dX0_add_0_g (n := 23) rfl) rfl (lv_at hl 4 rfl) ?_
      refine gx_iast hx hb hK hP hD hS 3 1 rfl rfl (nq_d dX0_add_0_g (n := 24) rfl) (fun f3 => [(ac, .inr (0, [.int c_number, .ref ac_guest, .ref ac_yes, .ref ac_no])), (ac_guest, .inl (cyI, 6, .inl f1)), (ac_yes, .inl (cyI, 6, .inl f2)), (ac_no, .inl (cyI, 6, .inl f3))]) (fun _ => rfl) hw (fun f3 H locs hw hP hD hS => ?_)
      refine lv_aload_n hx hb (nq_d dX0_add_0_g (n := 25) rfl) rfl (lv_at hl 1 rfl) ?_
      refine lv_dup hx hb (nq_d dX0_add_0_g (n := 26) rfl) rfl ?_
      refine va_get (D := (dC, dI)) (ci := 0) (v := .int c_number) (C := RX0) (T := TX0) (N := 4) hx hb hts hi_X0 hown hK hP 0 rfl rfl 0 (by decide) hf9 (fun _ h9 => h9) rfl (nq_d dX0_add_0_g (n := 27) rfl) ?_
      refine lv_iconst (v := (1 : Int32)) hx hb (nq_d dX0_add_0_g (n := 28) rfl) (by decide) ?_
      refine gx_iadd hx hb (nq_d dX0_add_0_g (n := 29) rfl) hw (fun v4 hw => ?_)
      refine gx_put (D := (dC, dI)) (ci := 0) (v := .int v4) (ty := .int) (C := RX0) (T := TX0) (N := 4) hx hb hts hi_X0 tyX0 tyX0_ok nmX0 hown hK hP hD hS 0 rfl rfl 0 (by decide) hf9 (fun _ h9 => h9) rfl (by decide +kernel) rfl rfl (Nat.le_of_ble_eq_true rfl) (nq_d dX0_add_0_g (n := 30) rfl) [(ac, .inr (0, [.int v4, .ref ac_guest, .ref ac_yes, .ref ac_no])), (ac_guest, .inl (cyI, 6, .inl f1)), (ac_yes, .inl (cyI, 6, .inl f2)), (ac_no, .inl (cyI, 6, .inl f3))] rfl (fun H locs hP hD hS => ?_)
      refine lv_iload hx hb (nq_d dX0_add_0_g (n := 31) rfl) (lv_at hl 0 rfl) ?_
      exact rt_i (A1 := A) hQ hx hb hr hlocks hP hD hS (v4, f1, f2, f3) [0, 1, 2, 3] rfl (by decide +kernel) hw (nq_d dX0_add_0_g (n := 32) rfl)
    · refine lv_sipush (v := ((-1004) : Int32)) hx hb (nq_d dX0_add_0_g (n := 8) rfl) (by decide) ?_
      exact rt_i (A1 := A) hQ hx hb hr hlocks hP hD hS (c_number, c_guest, c_yes, c_no) [0, 1, 2, 3] rfl (by decide +kernel) hw (nq_d dX0_add_0_g (n := 9) rfl)
abbrev rmX0_remove : Room := { frames := 1, cells := 0, slots := 0, locals := 21 }
theorem cd_X0_remove : yX0_remove.cls = RX0 ∧ yX0_remove.cls ≠ "java/lang/invoke/MethodHandle" ∧ yX0_remove.cls ≠ "java/lang/invoke/VarHandle" ∧ (parseMethodDescriptor yX0_remove.desc).map (fun d => d.parameters.length) = some 1 := by decide +kernel
set_option maxHeartbeats 4000000 in
set_option maxRecDepth 100000 in
theorem ct_Claims_remove (l : Launch) (dC : Nat → ClassId) (dI : Nat → Nat → Nat) (cyB cyI cyJ cyZ : ClassId) (ac ac_guest ac_yes ac_no : Nat) (sz : Nat) (c_number : Int32) (c_guest : Nat → Int32) (c_yes : Nat → Int32) (c_no : Nat → Int32) (x1 : Int32) (Q : Int → (Int → Int) → (Int → Int) → (Int → Int) → Prop) : Met l yX0_remove wsX0_remove rmX0_remove (va_Pc [.ref ac, .int x1] (cPre (dC, dI) vwCl (tyS cyB cyI cyJ cyZ) [(ac, .inr (0, [.int c_number, .ref ac_guest, .ref ac_yes, .ref ac_no])), (ac_guest, .inl (cyI, 6, .inl c_guest)), (ac_yes, .inl (cyI, 6, .inl c_yes)), (ac_no, .inl (cyI, 6, .inl c_no))] sz (nf_Claims_remove c_number.toInt (aI 6 c_guest) (aI 6 c_yes) (aI 6 c_no) x1.toInt Q))) (va_Qv (fun (u : Int32 × (Nat → Int32) × (Nat → Int32) × (Nat → Int32)) => Q (u.1).toInt (aI 6 (u.2.1)) (aI 6 (u.2.2.1)) (aI 6 (u.2.2.2))) (cPost (dC, dI) vwCl (fun u : Int32 × (Nat → Int32) × (Nat → Int32) × (Nat → Int32) => [(ac, .inr (0, [.int u.1, .ref ac_guest, .ref ac_yes, .ref ac_no])), (ac_guest, .inl (cyI, 6, .inl (u.2.1))), (ac_yes, .inl (cyI, 6, .inl (u.2.2.1))), (ac_no, .inl (cyI, 6, .inl (u.2.2.2)))]) (va_A [(ac, .inr (0, [.int c_number, .ref ac_guest, .ref ac_yes, .ref ac_no])), (ac_guest, .inl (cyI, 6, .inl c_guest)), (ac_yes, .inl (cyI, 6, .inl c_yes)), (ac_no, .inl (cyI, 6, .inl c_no))] sz)) (va_A [(ac, .inr (0, [.int c_number, .ref ac_guest, .ref ac_yes, .ref ac_no])), (ac_guest, .inl (cyI, 6, .inl c_guest)), (ac_yes, .inl (cyI, 6, .inl c_yes)), (ac_no, .inl (cyI, 6, .inl c_no))] sz)) 0 0 (va_A [(ac, .inr (0, [.int c_number, .ref ac_guest, .ref ac_yes, .ref ac_no])), (ac_guest, .inl (cyI, 6, .inl c_guest)), (ac_yes, .inl (cyI, 6, .inl c_yes)), (ac_no, .inl (cyI, 6, .inl c_no))] sz) := by
  refine Met.ofW (cc := cX0_remove) (maxL := 3) (ret := none) (by decide) rfl ?_
  intro p e s m args below meth c s₁ B hml hv
  obtain ⟨rfl, hsz, hP, hK, hD0, hNw, hw⟩ := hv
  have hx := B.exec
  have hb := B.bytes
  have hr := B.returns
  have hts := atoms_spec (ws := wsX0_remove) B.pre
  have hown : s.vm.findClass RX0 = some m.cls := findClass_of_methodNamed B.named
  have hlocks := B.notSynchronized
  subst hsz
  have hD := hD0.self (sz := s.heap.size)
  generalize hAe : va_A [(ac, .inr (0, [.int c_number, .ref ac_guest, .ref ac_yes, .ref ac_no])), (ac_guest, .inl (cyI, 6, .inl c_guest)), (ac_yes, .inl (cyI, 6, .inl c_yes)), (ac_no, .inl (cyI, 6, .inl c_no))] s.heap.size = A at hD ⊢
  have hA : ∀ q : Nat, s.heap.size ≤ q → A q := fun q h => by rw [← hAe]; exact Or.inr h
  have hS : va_S A s.heap s.heap [] := va_S.rf
  have hl := lv_entry ([.ref ac, .int x1]) (n := 3) (Nat.le_of_ble_eq_true rfl)
  rw [lg_entry_eq]
  generalize (lg_sl ([.ref ac, .int x1]) ++ List.replicate (3 - (lg_sl ([.ref ac, .int x1])).length) Slot.unset).toArray = ls at hl ⊢
  have hl : lv_has ls 3 [(0, .ref ac), (1, .int x1)] := hl
  refine gx_q (fun Q9 hQ => ?_)
  unfold nf_Claims_remove at hw
  have hi_X0 : ∀ w ∈ wsX00, w ∈ wsX0_remove := (sub_c (nq_m (n := 10) rfl) (sub_c (nq_m (n := 11) rfl) (sub_c (nq_m (n := 12) rfl) (sub_c (nq_m (n := 13) rfl) sub_n))))
  have hf9 : (Cond.fieldLink RX0 9 "CoatsHall$Claims" (TX0 0).2.1 (TX0 0).2.2.1).before ([.ref ac, .int x1] : List Value).toArray s = true := hts (.fieldLink RX0 9 "CoatsHall$Claims" "number" "I") (nq_m (n := 1) rfl)
  have hf15 : (Cond.fieldLink RX0 15 "CoatsHall$Claims" (TX0 1).2.1 (TX0 1).2.2.1).before ([.ref ac, .int x1] : List Value).toArray s = true := hts (.fieldLink RX0 15 "CoatsHall$Claims" "guest" "[I") (nq_m (n := 2) rfl)
  have hf19 : (Cond.fieldLink RX0 19 "CoatsHall$Claims" (TX0 2).2.1 (TX0 2).2.2.1).before ([.ref ac, .int x1] : List Value).toArray s = true := hts (.fieldLink RX0 19 "CoatsHall$Claims" "yes" "[I") (nq_m (n := 3) rfl)
  have hf22 : (Cond.fieldLink RX0 22 "CoatsHall$Claims" (TX0 3).2.1 (TX0 3).2.2.1).before ([.ref ac, .int x1] : List Value).toArray s = true := hts (.fieldLink RX0 22 "CoatsHall$Claims" "no" "[I") (nq_m (n := 4) rfl)
  refine lv_aload_n hx hb (nq_d dX0_remove_0_g (n := 0) rfl) rfl (lv_at hl 0 rfl) ?_
  refine lv_iload_n hx hb (nq_d dX0_remove_0_g (n := 1) rfl) rfl (lv_at hl 1 rfl) ?_
  refine gx_ri (wr := [(ac_guest, .inl (cyI, 6, .inl c_guest)), (ac_yes, .inl (cyI, 6, .inl c_yes)), (ac_no, .inl (cyI, 6, .inl c_no))]) (va_runV (As := [.int x1]) (rest := []) ⟨hx, hb, hml, hown, hts⟩ (ct_Claims_knows l dC dI cyB cyI cyJ cyZ ac ac_guest ac_yes ac_no _ c_number x1 _) (cwV 1 hts gX0_remove_X0_knows rfl rfl rfl cd_X0_knows ⟨Nat.le_of_ble_eq_true rfl, Nat.le_of_ble_eq_true rfl⟩) (gx_preV hK hP hD hNw [0] rfl (by decide +kernel) hw 0 (ci := 0) rfl rfl rfl) rfl rfl hl.1 rfl (lv_room (Nat.le_of_ble_eq_true rfl)) (nq_d dX0_remove_0_g (n := 2) rfl) ⟨Nat.zero_le _, Nat.zero_le _⟩) hP hD hS hA [0] [1, 2, 3] [3, 0, 1, 2] rfl rfl (by decide) (by decide) (by decide) (fun _ => [(ac, .inr (0, [.int c_number, .ref ac_guest, .ref ac_yes, .ref ac_no])), (ac_guest, .inl (cyI, 6, .inl c_guest)), (ac_yes, .inl (cyI, 6, .inl c_yes)), (ac_no, .inl (cyI, 6, .inl c_no))]) (fun _ => rfl) (fun r1 u H locs hw hP hD hS => ?_)
  try dsimp only at hw hP hD
  refine gx_if_ne (tgt := 9) hx hb (nq_d dX0_remove_0_g (n := 3) rfl) (by decide) hw (fun hw => ?_) (fun hw => ?_)
  · refine lv_iload_n hx hb (nq_d dX0_remove_0_g (n := 5) rfl) rfl (lv_at hl 1 rfl) ?_
    refine lv_istore_n (lv' := [(2, .int x1), (0, .ref ac), (1, .int x1)]) hx hb (nq_d dX0_remove_0_g (n := 6) rfl) rfl hl (by decide) rfl (fun ls hl => ?_)
    refine nlp4_el hw (fun X0_20 X1_20 X2_20 X3_20 => ∀ (l2_2 : Int32) (z3 : (Nat → Int32)) (z4 : (Nat → Int32)) (z5 : (Nat → Int32)), X0_20 = l2_2.toInt → X1_20 = (aI 6 z3) → X2_20 = (aI 6 z4) → X3_20 = (aI 6 z5) → ∀ (H : Heap) (locs : List Loc) (ls : Array Slot), va_P (dC, dI) vwCl [(ac, .inr (0, [.int c_number, .ref ac_guest, .ref ac_yes, .ref ac_no])), (ac_guest, .inl (cyI, 6, .inl z3)), (ac_yes, .inl (cyI, 6, .inl z4)), (ac_no, .inl (cyI, 6, .inl z5))] H → va_D A [(ac, .inr (0, [.int c_number, .ref ac_guest, .ref ac_yes, .ref ac_no])), (ac_guest, .inl (cyI, 6, .inl z3)), (ac_yes, .inl (cyI, 6, .inl z4)), (ac_no, .inl (cyI, 6, .inl z5))] → va_S A s.heap H locs → lv_has ls 3 [(0, .ref ac), (2, .int l2_2)] → W p l e (headSpec wsX0_remove rmX0_remove).room s m ([.ref ac, .int x1] : List Value).toArray below meth c H locs 0 0 Q9 (F0 m 11 ls [])) (fun self6 hPself6 X0_20 X1_20 X2_20 X3_20 hw l2_2 z3 z4 z5 eX0_20 eX1_20 eX2_20 eX3_20 H locs ls hP hD hS hl => ?_) x1 c_guest c_yes c_no rfl rfl rfl rfl _ _ _ hP hD hS (lv_sub hl [1, 0] rfl)
    subst eX0_20
    subst eX1_20
    subst eX2_20
    subst eX3_20
    refine lv_iload_n hx hb (nq_d dX0_remove_0_g (n := 7) rfl) rfl (lv_at hl 1 rfl) ?_
    refine lv_iconst (v := (1 : Int32)) hx hb (nq_d dX0_remove_0_g (n := 8) rfl) (by decide) ?_
    refine gx_iadd hx hb (nq_d dX0_remove_0_g (n := 9) rfl) hw (fun v7 hw => ?_)
    refine lv_aload_n hx hb (nq_d dX0_remove_0_g (n := 10) rfl) rfl (lv_at hl 0 rfl) ?_
    refine va_get (D := (dC, dI)) (ci := 0) (v := .int c_number) (C := RX0) (T := TX0) (N := 4) hx hb hts hi_X0 hown hK hP 0 rfl rfl 0 (by decide) hf9 (fun _ h9 => h9) rfl (nq_d dX0_remove_0_g (n := 11) rfl) ?_
    refine jn0_el hw (fun j8 hj8 hw => ?_)
    have Jj8 : ∀  (H : Heap) (locs : List Loc) (ls : Array Slot), va_P (dC, dI) vwCl [(ac, .inr (0, [.int c_number, .ref ac_guest, .ref ac_yes, .ref ac_no])), (ac_guest, .inl (cyI, 6, .inl z3)), (ac_yes, .inl (cyI, 6, .inl z4)), (ac_no, .inl (cyI, 6, .inl z5))] H → va_D A [(ac, .inr (0, [.int c_number, .ref ac_guest, .ref ac_yes, .ref ac_no])), (ac_guest, .inl (cyI, 6, .inl z3)), (ac_yes, .inl (cyI, 6, .inl z4)), (ac_no, .inl (cyI, 6, .inl z5))] → va_S A s.heap H locs → lv_has ls 3 [(0, .ref ac)] → j8  → W p l e (headSpec wsX0_remove rmX0_remove).room s m ([.ref ac, .int x1] : List Value).toArray below meth c H locs 0 0 Q9 (F0 m 77 ls []) := by
      intro  H locs ls hP hD hS hl hw
      have hw := hj8  hw
      refine lv_aload_n hx hb (nq_d dX0_remove_61_g (n := 10) rfl) rfl (lv_at hl 0 rfl) ?_
      refine lv_dup hx hb (nq_d dX0_remove_61_g (n := 11) rfl) rfl ?_
      refine va_get (D := (dC, dI)) (ci := 0) (v := .int c_number) (C := RX0) (T := TX0) (N := 4) hx hb hts hi_X0 hown hK hP 0 rfl rfl 0 (by decide) hf9 (fun _ h9 => h9) rfl (nq_d dX0_remove_61_g (n := 12) rfl) ?_
      refine lv_iconst (v := (1 : Int32)) hx hb (nq_d dX0_remove_61_g (n := 13) rfl) (by decide) ?_
      refine gx_isub hx hb (nq_d dX0_remove_61_g (n := 14) rfl) hw (fun v9 hw => ?_)
      refine gx_put (D := (dC, dI)) (ci := 0) (v := .int v9) (ty := .int) (C := RX0) (T := TX0) (N := 4) hx hb hts hi_X0 tyX0 tyX0_ok nmX0 hown hK hP hD hS 0 rfl rfl 0 (by decide) hf9 (fun _ h9 => h9) rfl (by decide +kernel) rfl rfl (Nat.le_of_ble_eq_true rfl) (nq_d dX0_remove_61_g (n := 15) rfl) [(ac, .inr (0, [.int v9, .ref ac_guest, .ref ac_yes, .ref ac_no])), (ac_guest, .inl (cyI, 6, .inl z3)), (ac_yes, .inl (cyI, 6, .inl z4)), (ac_no, .inl (cyI, 6, .inl z5))] rfl (fun H locs hP hD hS => ?_)
      exact rt_v (A1 := A) hQ hx hb hr hlocks hP hD hS (v9, z3, z4, z5) [0, 1, 2, 3] rfl (by decide +kernel) hw (nq_d dX0_remove_61_g (n := 16) rfl)
    refine gx_icmp_ge (tgt := 77) hx hb (nq_d dX0_remove_0_g (n := 12) rfl) (by decide) hw (fun hw => ?_) (fun hw => ?_)
    · exact Jj8  _ _ _ hP hD hS (lv_sub hl [0] rfl) hw
    · refine lv_iload_n hx hb (nq_d dX0_remove_0_g (n := 13) rfl) rfl (lv_at hl 1 rfl) ?_
      refine lv_iconst (v := (1 : Int32)) hx hb (nq_d dX0_remove_0_g (n := 14) rfl) (by decide) ?_
      refine gx_iadd hx hb (nq_d dX0_remove_0_g (n := 15) rfl) hw (fun v10 hw => ?_)
      refine lv_bipush (v := (6 : Int32)) hx hb (nq_d dX0_remove_0_g (n := 16) rfl) (by decide) ?_
      refine gx_icmp_ge (tgt := 77) hx hb (nq_d dX0_remove_0_g (n := 17) rfl) (by decide) hw (fun hw => ?_) (fun hw => ?_)
      · exact Jj8  _ _ _ hP hD hS (lv_sub hl [0] rfl) hw
      · refine lv_aload_n hx hb (nq_d dX0_remove_0_g (n := 18) rfl) rfl (lv_at hl 0 rfl) ?_
        refine va_get (D := (dC, dI)) (ci := 0) (v := .ref ac_guest) (C := RX0) (T := TX0) (N := 4) hx hb hts hi_X0 hown hK hP 0 rfl rfl 1 (by decide) hf15 (fun _ h9 => h9) rfl (nq_d dX0_remove_0_g (n := 19) rfl) ?_
        refine lv_iload_n hx hb (nq_d dX0_remove_0_g (n := 20) rfl) rfl (lv_at hl 1 rfl) ?_
        refine lv_aload_n hx hb (nq_d dX0_remove_0_g (n := 21) rfl) rfl (lv_at hl 0 rfl) ?_
        refine va_get (D := (dC, dI)) (ci := 0) (v := .ref ac_guest) (C := RX0) (T := TX0) (N := 4) hx hb hts hi_X0 hown hK hP 0 rfl rfl 1 (by decide) hf15 (fun _ h9 => h9) rfl (nq_d dX0_remove_0_g (n := 22) rfl) ?_
        refine lv_iload_n hx hb (nq_d dX0_remove_0_g (n := 23) rfl) rfl (lv_at hl 1 rfl) ?_
        refine lv_iconst (v := (1 : Int32)) hx hb (nq_d dX0_remove_0_g (n := 24) rfl) (by decide) ?_
        refine gx_iadd hx hb (nq_d dX0_remove_0_g (n := 25) rfl) hw (fun v11 hw => ?_)
        refine gx_iald hx hb hK hP 1 1 rfl rfl (nq_d dX0_remove_0_g (n := 26) rfl) hw (fun v12 hw => ?_)
        refine gx_iast hx hb hK hP hD hS 1 1 rfl rfl (nq_d dX0_remove_0_g (n := 27) rfl) (fun f13 => [(ac, .inr (0, [.int c_number, .ref ac_guest, .ref ac_yes, .ref ac_no])), (ac_guest, .inl (cyI, 6, .inl f13)), (ac_yes, .inl (cyI, 6, .inl z4)), (ac_no, .inl (cyI, 6, .inl z5))]) (fun _ => rfl) hw (fun f13 H locs hw hP hD hS => ?_)
        refine lv_aload_n hx hb (nq_d dX0_remove_0_g (n := 28) rfl) rfl (lv_at hl 0 rfl) ?_
        refine va_get (D := (dC, dI)) (ci := 0) (v := .ref ac_yes) (C := RX0) (T := TX0) (N := 4) hx hb hts hi_X0 hown hK hP 0 rfl rfl 2 (by decide) hf19 (fun _ h9 => h9) rfl (nq_d dX0_remove_0_g (n := 29) rfl) ?_
        refine lv_iload_n hx hb (nq_d dX0_remove_0_g (n := 30) rfl) rfl (lv_at hl 1 rfl) ?_
        refine lv_aload_n hx hb (nq_d dX0_remove_0_g (n := 31) rfl) rfl (lv_at hl 0 rfl) ?_
        refine va_get (D := (dC, dI)) (ci := 0) (v := .ref ac_yes) (C := RX0) (T := TX0) (N := 4) hx hb hts hi_X0 hown hK hP 0 rfl rfl 2 (by decide) hf19 (fun _ h9 => h9) rfl (nq_d dX0_remove_0_g (n := 32) rfl) ?_
        refine lv_iload_n hx hb (nq_d dX0_remove_0_g (n := 33) rfl) rfl (lv_at hl 1 rfl) ?_
        refine lv_iconst (v := (1 : Int32)) hx hb (nq_d dX0_remove_0_g (n := 34) rfl) (by decide) ?_
        refine gx_iadd hx hb (nq_d dX0_remove_0_g (n := 35) rfl) hw (fun v14 hw => ?_)
        refine gx_iald hx hb hK hP 2 1 rfl rfl (nq_d dX0_remove_0_g (n := 36) rfl) hw (fun v15 hw => ?_)
        refine gx_iast hx hb hK hP hD hS 2 1 rfl rfl (nq_d dX0_remove_0_g (n := 37) rfl) (fun f16 => [(ac, .inr (0, [.int c_number, .ref ac_guest, .ref ac_yes, .ref ac_no])), (ac_guest, .inl (cyI, 6, .inl f13)), (ac_yes, .inl (cyI, 6, .inl f16)), (ac_no, .inl (cyI, 6, .inl z5))]) (fun _ => rfl) hw (fun f16 H locs hw hP hD hS => ?_)
        refine lv_aload_n hx hb (nq_d dX0_remove_0_g (n := 38) rfl) rfl (lv_at hl 0 rfl) ?_
        refine va_get (D := (dC, dI)) (ci := 0) (v := .ref ac_no) (C := RX0) (T := TX0) (N := 4) hx hb hts hi_X0 hown hK hP 0 rfl rfl 3 (by decide) hf22 (fun _ h9 => h9) rfl (nq_d dX0_remove_0_g (n := 39) rfl) ?_
        refine lv_iload_n hx hb (nq_d dX0_remove_61_g (n := 0) rfl) rfl (lv_at hl 1 rfl) ?_
        refine lv_aload_n hx hb (nq_d dX0_remove_61_g (n := 1) rfl) rfl (lv_at hl 0 rfl) ?_
        refine va_get (D := (dC, dI)) (ci := 0) (v := .ref ac_no) (C := RX0) (T := TX0) (N := 4) hx hb hts hi_X0 hown hK hP 0 rfl rfl 3 (by decide) hf22 (fun _ h9 => h9) rfl (nq_d dX0_remove_61_g (n := 2) rfl) ?_
        refine lv_iload_n hx hb (nq_d dX0_remove_61_g (n := 3) rfl) rfl (lv_at hl 1 rfl) ?_
        refine lv_iconst (v := (1 : Int32)) hx hb (nq_d dX0_remove_61_g (n := 4) rfl) (by decide) ?_
        refine gx_iadd hx hb (nq_d dX0_remove_61_g (n := 5) rfl) hw (fun v17 hw => ?_)
        refine gx_iald hx hb hK hP 3 1 rfl rfl (nq_d dX0_remove_61_g (n := 6) rfl) hw (fun v18 hw => ?_)
        refine gx_iast hx hb hK hP hD hS 3 1 rfl rfl (nq_d dX0_remove_61_g (n := 7) rfl) (fun f19 => [(ac, .inr (0, [.int c_number, .ref ac_guest, .ref ac_yes, .ref ac_no])), (ac_guest, .inl (cyI, 6, .inl f13)), (ac_yes, .inl (cyI, 6, .inl f16)), (ac_no, .inl (cyI, 6, .inl f19))]) (fun _ => rfl) hw (fun f19 H locs hw hP hD hS => ?_)
        refine gx_iinc (k := 1) (z := (1 : Int32)) (lv' := fun v20 => [(2, .int v20), (0, .ref ac)]) hx hb (nq_d dX0_remove_61_g (n := 8) rfl) hl rfl (by decide) (by decide) (fun _ => rfl) hw (fun v20 ls hw hl => ?_)
        refine lv_goto (tgt := 11) hx hb (nq_d dX0_remove_61_g (n := 9) rfl) (by decide) ?_
        exact hPself6 _ _ _ _ hw v20 f13 f16 f19 rfl rfl rfl rfl _ _ _ hP hD hS (lv_sub hl [1, 0] rfl)
  · exact rt_v (A1 := A) hQ hx hb hr hlocks hP hD hS (c_number, c_guest, c_yes, c_no) [0, 1, 2, 3] rfl (by decide +kernel) hw (nq_d dX0_remove_0_g (n := 4) rfl)
abbrev rmX2_knows : Room := { frames := 0, cells := 0, slots := 0, locals := 0 }
theorem cd_X2_knows : yX2_knows.cls = RX2 ∧ yX2_knows.cls ≠ "java/lang/invoke/MethodHandle" ∧ yX2_knows.cls ≠ "java/lang/invoke/VarHandle" ∧ (parseMethodDescriptor yX2_knows.desc).map (fun d => d.parameters.length) = some 1 := by decide +kernel
set_option maxHeartbeats 4000000 in
set_option maxRecDepth 100000 in
theorem ct_Guests_knows (l : Launch) (dC : Nat → ClassId) (dI : Nat → Nat → Nat) (cyB cyI cyJ cyZ : ClassId) (ag ag_sort ag_kind ag_tip ag_marks ag_brass ag_peg ag_has : Nat) (sz : Nat) (g_number : Int32) (x1 : Int32) (Q : Int → Prop) : Met l yX2_knows wsX2_knows rmX2_knows (va_Pc [.ref ag, .int x1] (cPre (dC, dI) vwCl (tyS cyB cyI cyJ cyZ) [(ag, .inr (2, [.int g_number, .ref ag_sort, .ref ag_kind, .ref ag_tip, .ref ag_marks, .ref ag_brass, .ref ag_peg, .ref ag_has]))] sz (nf_Guests_knows g_number.toInt x1.toInt Q))) (va_Qi (fun (r : Int32) (_ : Unit) => Q r.toInt ) (cPost (dC, dI) vwCl (fun _ : Unit => [(ag, .inr (2, [.int g_number, .ref ag_sort, .ref ag_kind, .ref ag_tip, .ref ag_marks, .ref ag_brass, .ref ag_peg, .ref ag_has]))]) (va_A [(ag, .inr (2, [.int g_number, .ref ag_sort, .ref ag_kind, .ref ag_tip, .ref ag_marks, .ref ag_brass, .ref ag_peg, .ref ag_has]))] sz)) (va_A [(ag, .inr (2, [.int g_number, .ref ag_sort, .ref ag_kind, .ref ag_tip, .ref ag_marks, .ref ag_brass, .ref ag_peg, .ref ag_has]))] sz)) 0 0 (va_A [(ag, .inr (2, [.int g_number, .ref ag_sort, .ref ag_kind, .ref ag_tip, .ref ag_marks, .ref ag_brass, .ref ag_peg, .ref ag_has]))] sz) := by
  refine Met.ofW (cc := cX2_knows) (maxL := 2) (ret := (some .boolean)) (by decide) rfl ?_
  intro p e s m args below meth c s₁ B hml hv
  obtain ⟨rfl, hsz, hP, hK, hD0, hNw, hw⟩ := hv
  have hx := B.exec
  have hb := B.bytes
  have hr := B.returns
  have hts := atoms_spec (ws := wsX2_knows) B.pre
  have hown : s.vm.findClass RX2 = some m.cls := findClass_of_methodNamed B.named
  have hlocks := B.notSynchronized
  subst hsz
  have hD := hD0.self (sz := s.heap.size)
  generalize hAe : va_A [(ag, .inr (2, [.int g_number, .ref ag_sort, .ref ag_kind, .ref ag_tip, .ref ag_marks, .ref ag_brass, .ref ag_peg, .ref ag_has]))] s.heap.size = A at hD ⊢
  have hA : ∀ q : Nat, s.heap.size ≤ q → A q := fun q h => by rw [← hAe]; exact Or.inr h
  have hS : va_S A s.heap s.heap [] := va_S.rf
  have hl := lv_entry ([.ref ag, .int x1]) (n := 2) (Nat.le_of_ble_eq_true rfl)
  rw [lg_entry_eq]
  generalize (lg_sl ([.ref ag, .int x1]) ++ List.replicate (2 - (lg_sl ([.ref ag, .int x1])).length) Slot.unset).toArray = ls at hl ⊢
  have hl : lv_has ls 2 [(0, .ref ag), (1, .int x1)] := hl
  refine gx_q (fun Q9 hQ => ?_)
  unfold nf_Guests_knows at hw
  have hi_X2 : ∀ w ∈ wsX20, w ∈ wsX2_knows := (sub_c (nq_m (n := 2) rfl) (sub_c (nq_m (n := 3) rfl) (sub_c (nq_m (n := 4) rfl) (sub_c (nq_m (n := 5) rfl) (sub_c (nq_m (n := 6) rfl) (sub_c (nq_m (n := 7) rfl) (sub_c (nq_m (n := 8) rfl) (sub_c (nq_m (n := 9) rfl) sub_n))))))))
  have hf9 : (Cond.fieldLink RX2 9 "CoatsHall$Guests" (TX2 0).2.1 (TX2 0).2.2.1).before ([.ref ag, .int x1] : List Value).toArray s = true := hts (.fieldLink RX2 9 "CoatsHall$Guests" "number" "I") (nq_m (n := 1) rfl)
  refine lv_iload_n hx hb (nq_d dX2_knows_0_g (n := 0) rfl) rfl (lv_at hl 1 rfl) ?_
  refine gx_if_lt (tgt := 22) hx hb (nq_d dX2_knows_0_g (n := 1) rfl) (by decide) hw (fun hw => ?_) (fun hw => ?_)
  · refine lv_iconst (v := (0 : Int32)) hx hb (nq_d dX2_knows_0_g (n := 11) rfl) (by decide) ?_
    exact rt_zl (A1 := A) hQ hx hb hr hlocks hP hD hS () [0] rfl (by decide +kernel) rfl hw (nq_d dX2_knows_0_g (n := 12) rfl)
  · refine lv_iload_n hx hb (nq_d dX2_knows_0_g (n := 2) rfl) rfl (lv_at hl 1 rfl) ?_
    refine lv_aload_n hx hb (nq_d dX2_knows_0_g (n := 3) rfl) rfl (lv_at hl 0 rfl) ?_
    refine va_get (D := (dC, dI)) (ci := 2) (v := .int g_number) (C := RX2) (T := TX2) (N := 8) hx hb hts hi_X2 hown hK hP 0 rfl rfl 0 (by decide) hf9 (fun _ h9 => h9) rfl (nq_d dX2_knows_0_g (n := 4) rfl) ?_
    refine gx_icmp_ge (tgt := 22) hx hb (nq_d dX2_knows_0_g (n := 5) rfl) (by decide) hw (fun hw => ?_) (fun hw => ?_)
    · refine lv_iconst (v := (0 : Int32)) hx hb (nq_d dX2_knows_0_g (n := 11) rfl) (by decide) ?_
      exact rt_zl (A1 := A) hQ hx hb hr hlocks hP hD hS () [0] rfl (by decide +kernel) rfl hw (nq_d dX2_knows_0_g (n := 12) rfl)
    · refine lv_iload_n hx hb (nq_d dX2_knows_0_g (n := 6) rfl) rfl (lv_at hl 1 rfl) ?_
      refine lv_bipush (v := (16 : Int32)) hx hb (nq_d dX2_knows_0_g (n := 7) rfl) (by decide) ?_
      refine gx_icmp_ge (tgt := 22) hx hb (nq_d dX2_knows_0_g (n := 8) rfl) (by decide) hw (fun hw => ?_) (fun hw => ?_)
      · refine lv_iconst (v := (0 : Int32)) hx hb (nq_d dX2_knows_0_g (n := 11) rfl) (by decide) ?_
        exact rt_zl (A1 := A) hQ hx hb hr hlocks hP hD hS () [0] rfl (by decide +kernel) rfl hw (nq_d dX2_knows_0_g (n := 12) rfl)
      · refine lv_iconst (v := (1 : Int32)) hx hb (nq_d dX2_knows_0_g (n := 9) rfl) (by decide) ?_
        refine lv_goto (tgt := 23) hx hb (nq_d dX2_knows_0_g (n := 10) rfl) (by decide) ?_
        exact rt_zl (A1 := A) hQ hx hb hr hlocks hP hD hS () [0] rfl (by decide +kernel) rfl hw (nq_d dX2_knows_0_g (n := 12) rfl)
abbrev rmX2_kindOf : Room := { frames := 1, cells := 0, slots := 0, locals := 21 }
theorem cd_X2_kindOf : yX2_kindOf.cls = RX2 ∧ yX2_kindOf.cls ≠ "java/lang/invoke/MethodHandle" ∧ yX2_kindOf.cls ≠ "java/lang/invoke/VarHandle" ∧ (parseMethodDescriptor yX2_kindOf.desc).map (fun d => d.parameters.length) = some 1 := by decide +kernel
set_option maxHeartbeats 4000000 in
set_option maxRecDepth 100000 in
theorem ct_Guests_kindOf (l : Launch) (dC : Nat → ClassId) (dI : Nat → Nat → Nat) (cyB cyI cyJ cyZ : ClassId) (ag ag_sort ag_kind ag_tip ag_marks ag_brass ag_peg ag_has : Nat) (sz : Nat) (g_number : Int32) (g_kind : Nat → Int32) (x1 : Int32) (Q : Int → Prop) : Met l yX2_kindOf wsX2_kindOf rmX2_kindOf (va_Pc [.ref ag, .int x1] (cPre (dC, dI) vwCl (tyS cyB cyI cyJ cyZ) [(ag, .inr (2, [.int g_number, .ref ag_sort, .ref ag_kind, .ref ag_tip, .ref ag_marks, .ref ag_brass, .ref ag_peg, .ref ag_has])), (ag_kind, .inl (cyI, 16, .inl g_kind))] sz (nf_Guests_kindOf g_number.toInt (aI 16 g_kind) x1.toInt Q))) (va_Qi (fun (r : Int32) (_ : Unit) => Q r.toInt ) (cPost (dC, dI) vwCl (fun _ : Unit => [(ag, .inr (2, [.int g_number, .ref ag_sort, .ref ag_kind, .ref ag_tip, .ref ag_marks, .ref ag_brass, .ref ag_peg, .ref ag_has])), (ag_kind, .inl (cyI, 16, .inl g_kind))]) (va_A [(ag, .inr (2, [.int g_number, .ref ag_sort, .ref ag_kind, .ref ag_tip, .ref ag_marks, .ref ag_brass, .ref ag_peg, .ref ag_has])), (ag_kind, .inl (cyI, 16, .inl g_kind))] sz)) (va_A [(ag, .inr (2, [.int g_number, .ref ag_sort, .ref ag_kind, .ref ag_tip, .ref ag_marks, .ref ag_brass, .ref ag_peg, .ref ag_has])), (ag_kind, .inl (cyI, 16, .inl g_kind))] sz)) 0 0 (va_A [(ag, .inr (2, [.int g_number, .ref ag_sort, .ref ag_kind, .ref ag_tip, .ref ag_marks, .ref ag_brass, .ref ag_peg, .ref ag_has])), (ag_kind, .inl (cyI, 16, .inl g_kind))] sz) := by
  refine Met.ofW (cc := cX2_kindOf) (maxL := 2) (ret := (some .int)) (by decide) rfl ?_
  intro p e s m args below meth c s₁ B hml hv
  obtain ⟨rfl, hsz, hP, hK, hD0, hNw, hw⟩ := hv
  have hx := B.exec
  have hb := B.bytes
  have hr := B.returns
  have hts := atoms_spec (ws := wsX2_kindOf) B.pre
  have hown : s.vm.findClass RX2 = some m.cls := findClass_of_methodNamed B.named
  have hlocks := B.notSynchronized
  subst hsz
  have hD := hD0.self (sz := s.heap.size)
  generalize hAe : va_A [(ag, .inr (2, [.int g_number, .ref ag_sort, .ref ag_kind, .ref ag_tip, .ref ag_marks, .ref ag_brass, .ref ag_peg, .ref ag_has])), (ag_kind, .inl (cyI, 16, .inl g_kind))] s.heap.size = A at hD ⊢
  have hA : ∀ q : Nat, s.heap.size ≤ q → A q := fun q h => by rw [← hAe]; exact Or.inr h
  have hS : va_S A s.heap s.heap [] := va_S.rf
  have hl := lv_entry ([.ref ag, .int x1]) (n := 2) (Nat.le_of_ble_eq_true rfl)
  rw [lg_entry_eq]
  generalize (lg_sl ([.ref ag, .int x1]) ++ List.replicate (2 - (lg_sl ([.ref ag, .int x1])).length) Slot.unset).toArray = ls at hl ⊢
  have hl : lv_has ls 2 [(0, .ref ag), (1, .int x1)] := hl
  refine gx_q (fun Q9 hQ => ?_)
  unfold nf_Guests_kindOf at hw
  have hi_X2 : ∀ w ∈ wsX20, w ∈ wsX2_kindOf := (sub_c (nq_m (n := 8) rfl) (sub_c (nq_m (n := 9) rfl) (sub_c (nq_m (n := 10) rfl) (sub_c (nq_m (n := 11) rfl) (sub_c (nq_m (n := 12) rfl) (sub_c (nq_m (n := 13) rfl) (sub_c (nq_m (n := 14) rfl) (sub_c (nq_m (n := 15) rfl) sub_n))))))))
  have hf19 : (Cond.fieldLink RX2 19 "CoatsHall$Guests" (TX2 2).2.1 (TX2 2).2.2.1).before ([.ref ag, .int x1] : List Value).toArray s = true := hts (.fieldLink RX2 19 "CoatsHall$Guests" "kind" "[I") (nq_m (n := 1) rfl)
  refine lv_aload_n hx hb (nq_d dX2_kindOf_0_g (n := 0) rfl) rfl (lv_at hl 0 rfl) ?_
  refine lv_iload_n hx hb (nq_d dX2_kindOf_0_g (n := 1) rfl) rfl (lv_at hl 1 rfl) ?_
  refine gx_ri (wr := [(ag_kind, .inl (cyI, 16, .inl g_kind))]) (va_runV (As := [.int x1]) (rest := []) ⟨hx, hb, hml, hown, hts⟩ (ct_Guests_knows l dC dI cyB cyI cyJ cyZ ag ag_sort ag_kind ag_tip ag_marks ag_brass ag_peg ag_has _ g_number x1 _) (cwV 1 hts gX2_kindOf_X2_knows rfl rfl rfl cd_X2_knows ⟨Nat.le_of_ble_eq_true rfl, Nat.le_of_ble_eq_true rfl⟩) (gx_preV hK hP hD hNw [0] rfl (by decide +kernel) hw 0 (ci := 2) rfl rfl rfl) rfl rfl hl.1 rfl (lv_room (Nat.le_of_ble_eq_true rfl)) (nq_d dX2_kindOf_0_g (n := 2) rfl) ⟨Nat.zero_le _, Nat.zero_le _⟩) hP hD hS hA [0] [1] [1, 0] rfl rfl (by decide) (by decide) (by decide) (fun _ => [(ag, .inr (2, [.int g_number, .ref ag_sort, .ref ag_kind, .ref ag_tip, .ref ag_marks, .ref ag_brass, .ref ag_peg, .ref ag_has])), (ag_kind, .inl (cyI, 16, .inl g_kind))]) (fun _ => rfl) (fun r1 u H locs hw hP hD hS => ?_)
  try dsimp only at hw hP hD
  refine gx_if_eq (tgt := 17) hx hb (nq_d dX2_kindOf_0_g (n := 3) rfl) (by decide) hw (fun hw => ?_) (fun hw => ?_)
  · refine lv_iconst (v := ((-1) : Int32)) hx hb (nq_d dX2_kindOf_0_g (n := 9) rfl) (by decide) ?_
    exact rt_i (A1 := A) hQ hx hb hr hlocks hP hD hS () [0, 1] rfl (by decide +kernel) hw (nq_d dX2_kindOf_0_g (n := 10) rfl)
  · refine lv_aload_n hx hb (nq_d dX2_kindOf_0_g (n := 4) rfl) rfl (lv_at hl 0 rfl) ?_
    refine va_get (D := (dC, dI)) (ci := 2) (v := .ref ag_kind) (C := RX2) (T := TX2) (N := 8) hx hb hts hi_X2 hown hK hP 0 rfl rfl 2 (by decide) hf19 (fun _ h9 => h9) rfl (nq_d dX2_kindOf_0_g (n := 5) rfl) ?_
    refine lv_iload_n hx hb (nq_d dX2_kindOf_0_g (n := 6) rfl) rfl (lv_at hl 1 rfl) ?_
    refine gx_iald hx hb hK hP 1 1 rfl rfl (nq_d dX2_kindOf_0_g (n := 7) rfl) hw (fun v2 hw => ?_)
    refine lv_goto (tgt := 18) hx hb (nq_d dX2_kindOf_0_g (n := 8) rfl) (by decide) ?_
    exact rt_i (A1 := A) hQ hx hb hr hlocks hP hD hS () [0, 1] rfl (by decide +kernel) hw (nq_d dX2_kindOf_0_g (n := 10) rfl)
abbrev rmX2_marksOf : Room := { frames := 1, cells := 0, slots := 0, locals := 21 }
theorem cd_X2_marksOf : yX2_marksOf.cls = RX2 ∧ yX2_marksOf.cls ≠ "java/lang/invoke/MethodHandle" ∧ yX2_marksOf.cls ≠ "java/lang/invoke/VarHandle" ∧ (parseMethodDescriptor yX2_marksOf.desc).map (fun d => d.parameters.length) = some 1 := by decide +kernel
set_option maxHeartbeats 4000000 in
set_option maxRecDepth 100000 in
theorem ct_Guests_marksOf (l : Launch) (dC : Nat → ClassId) (dI : Nat → Nat → Nat) (cyB cyI cyJ cyZ : ClassId) (ag ag_sort ag_kind ag_tip ag_marks ag_brass ag_peg ag_has : Nat) (sz : Nat) (g_number : Int32) (g_marks : Nat → Int32) (x1 : Int32) (Q : Int → Prop) : Met l yX2_marksOf wsX2_marksOf rmX2_marksOf (va_Pc [.ref ag, .int x1] (cPre (dC, dI) vwCl (tyS cyB cyI cyJ cyZ) [(ag, .inr (2, [.int g_number, .ref ag_sort, .ref ag_kind, .ref ag_tip, .ref ag_marks, .ref ag_brass, .ref ag_peg, .ref ag_has])), (ag_marks, .inl (cyI, 16, .inl g_marks))] sz (nf_Guests_marksOf g_number.toInt (aI 16 g_marks) x1.toInt Q))) (va_Qi (fun (r : Int32) (_ : Unit) => Q r.toInt ) (cPost (dC, dI) vwCl (fun _ : Unit => [(ag, .inr (2, [.int g_number, .ref ag_sort, .ref ag_kind, .ref ag_tip, .ref ag_marks, .ref ag_brass, .ref ag_peg, .ref ag_has])), (ag_marks, .inl (cyI, 16, .inl g_marks))]) (va_A [(ag, .inr (2, [.int g_number, .ref ag_sort, .ref ag_kind, .ref ag_tip, .ref ag_marks, .ref ag_brass, .ref ag_peg, .ref ag_has])), (ag_marks, .inl (cyI, 16, .inl g_marks))] sz)) (va_A [(ag, .inr (2, [.int g_number, .ref ag_sort, .ref ag_kind, .ref ag_tip, .ref ag_marks, .ref ag_brass, .ref ag_peg, .ref ag_has])), (ag_marks, .inl (cyI, 16, .inl g_marks))] sz)) 0 0 (va_A [(ag, .inr (2, [.int g_number, .ref ag_sort, .ref ag_kind, .ref ag_tip, .ref ag_marks, .ref ag_brass, .ref ag_peg, .ref ag_has])), (ag_marks, .inl (cyI, 16, .inl g_marks))] sz) := by
  refine Met.ofW (cc := cX2_marksOf) (maxL := 2) (ret := (some .int)) (by decide) rfl ?_
  intro p e s m args below meth c s₁ B hml hv
  obtain ⟨rfl, hsz, hP, hK, hD0, hNw, hw⟩ := hv
  have hx := B.exec
  have hb := B.bytes
  have hr := B.returns
  have hts := atoms_spec (ws := wsX2_marksOf) B.pre
  have hown : s.vm.findClass RX2 = some m.cls := findClass_of_methodNamed B.named
  have hlocks := B.notSynchronized
  subst hsz
  have hD := hD0.self (sz := s.heap.size)
  generalize hAe : va_A [(ag, .inr (2, [.int g_number, .ref ag_sort, .ref ag_kind, .ref ag_tip, .ref ag_marks, .ref ag_brass, .ref ag_peg, .ref ag_has])), (ag_marks, .inl (cyI, 16, .inl g_marks))] s.heap.size = A at hD ⊢
  have hA : ∀ q : Nat, s.heap.size ≤ q → A q := fun q h => by rw [← hAe]; exact Or.inr h
  have hS : va_S A s.heap s.heap [] := va_S.rf
  have hl := lv_entry ([.ref ag, .int x1]) (n := 2) (Nat.le_of_ble_eq_true rfl)
  rw [lg_entry_eq]
  generalize (lg_sl ([.ref ag, .int x1]) ++ List.replicate (2 - (lg_sl ([.ref ag, .int x1])).length) Slot.unset).toArray = ls at hl ⊢
  have hl : lv_has ls 2 [(0, .ref ag), (1, .int x1)] := hl
  refine gx_q (fun Q9 hQ => ?_)
  unfold nf_Guests_marksOf at hw
  have hi_X2 : ∀ w ∈ wsX20, w ∈ wsX2_marksOf := (sub_c (nq_m (n := 8) rfl) (sub_c (nq_m (n := 9) rfl) (sub_c (nq_m (n := 10) rfl) (sub_c (nq_m (n := 11) rfl) (sub_c (nq_m (n := 12) rfl) (sub_c (nq_m (n := 13) rfl) (sub_c (nq_m (n := 14) rfl) (sub_c (nq_m (n := 15) rfl) sub_n))))))))
  have hf25 : (Cond.fieldLink RX2 25 "CoatsHall$Guests" (TX2 4).2.1 (TX2 4).2.2.1).before ([.ref ag, .int x1] : List Value).toArray s = true := hts (.fieldLink RX2 25 "CoatsHall$Guests" "marks" "[I") (nq_m (n := 1) rfl)
  refine lv_aload_n hx hb (nq_d dX2_marksOf_0_g (n := 0) rfl) rfl (lv_at hl 0 rfl) ?_
  refine lv_iload_n hx hb (nq_d dX2_marksOf_0_g (n := 1) rfl) rfl (lv_at hl 1 rfl) ?_
  refine gx_ri (wr := [(ag_marks, .inl (cyI, 16, .inl g_marks))]) (va_runV (As := [.int x1]) (rest := []) ⟨hx, hb, hml, hown, hts⟩ (ct_Guests_knows l dC dI cyB cyI cyJ cyZ ag ag_sort ag_kind ag_tip ag_marks ag_brass ag_peg ag_has _ g_number x1 _) (cwV 1 hts gX2_marksOf_X2_knows rfl rfl rfl cd_X2_knows ⟨Nat.le_of_ble_eq_true rfl, Nat.le_of_ble_eq_true rfl⟩) (gx_preV hK hP hD hNw [0] rfl (by decide +kernel) hw 0 (ci := 2) rfl rfl rfl) rfl rfl hl.1 rfl (lv_room (Nat.le_of_ble_eq_true rfl)) (nq_d dX2_marksOf_0_g (n := 2) rfl) ⟨Nat.zero_le _, Nat.zero_le _⟩) hP hD hS hA [0] [1] [1, 0] rfl rfl (by decide) (by decide) (by decide) (fun _ => [(ag, .inr (2, [.int g_number, .ref ag_sort, .ref ag_kind, .ref ag_tip, .ref ag_marks, .ref ag_brass, .ref ag_peg, .ref ag_has])), (ag_marks, .inl (cyI, 16, .inl g_marks))]) (fun _ => rfl) (fun r1 u H locs hw hP hD hS => ?_)
  try dsimp only at hw hP hD
  refine gx_if_eq (tgt := 17) hx hb (nq_d dX2_marksOf_0_g (n := 3) rfl) (by decide) hw (fun hw => ?_) (fun hw => ?_)
  · refine lv_iconst (v := (0 : Int32)) hx hb (nq_d dX2_marksOf_0_g (n := 9) rfl) (by decide) ?_
    exact rt_i (A1 := A) hQ hx hb hr hlocks hP hD hS () [0, 1] rfl (by decide +kernel) hw (nq_d dX2_marksOf_0_g (n := 10) rfl)
  · refine lv_aload_n hx hb (nq_d dX2_marksOf_0_g (n := 4) rfl) rfl (lv_at hl 0 rfl) ?_
    refine va_get (D := (dC, dI)) (ci := 2) (v := .ref ag_marks) (C := RX2) (T := TX2) (N := 8) hx hb hts hi_X2 hown hK hP 0 rfl rfl 4 (by decide) hf25 (fun _ h9 => h9) rfl (nq_d dX2_marksOf_0_g (n := 5) rfl) ?_
    refine lv_iload_n hx hb (nq_d dX2_marksOf_0_g (n := 6) rfl) rfl (lv_at hl 1 rfl) ?_
    refine gx_iald hx hb hK hP 1 1 rfl rfl (nq_d dX2_marksOf_0_g (n := 7) rfl) hw (fun v2 hw => ?_)
    refine lv_goto (tgt := 18) hx hb (nq_d dX2_marksOf_0_g (n := 8) rfl) (by decide) ?_
    exact rt_i (A1 := A) hQ hx hb hr hlocks hP hD hS () [0, 1] rfl (by decide +kernel) hw (nq_d dX2_marksOf_0_g (n := 10) rfl)
abbrev rmX2_hangs : Room := { frames := 1, cells := 0, slots := 0, locals := 21 }
theorem cd_X2_hangs : yX2_hangs.cls = RX2 ∧ yX2_hangs.cls ≠ "java/lang/invoke/MethodHandle" ∧ yX2_hangs.cls ≠ "java/lang/invoke/VarHandle" ∧ (parseMethodDescriptor yX2_hangs.desc).map (fun d => d.parameters.length) = some 1 := by decide +kernel
set_option maxHeartbeats 4000000 in
set_option maxRecDepth 100000 in
theorem ct_Guests_hangs (l : Launch) (dC : Nat → ClassId) (dI : Nat → Nat → Nat) (cyB cyI cyJ cyZ : ClassId) (ag ag_sort ag_kind ag_tip ag_marks ag_brass ag_peg ag_has : Nat) (sz : Nat) (g_number : Int32) (g_peg : Nat → Int32) (x1 : Int32) (Q : Int → Prop) : Met l yX2_hangs wsX2_hangs rmX2_hangs (va_Pc [.ref ag, .int x1] (cPre (dC, dI) vwCl (tyS cyB cyI cyJ cyZ) [(ag, .inr (2, [.int g_number, .ref ag_sort, .ref ag_kind, .ref ag_tip, .ref ag_marks, .ref ag_brass, .ref ag_peg, .ref ag_has])), (ag_peg, .inl (cyI, 16, .inl g_peg))] sz (nf_Guests_hangs g_number.toInt (aI 16 g_peg) x1.toInt Q))) (va_Qi (fun (r : Int32) (_ : Unit) => Q r.toInt ) (cPost (dC, dI) vwCl (fun _ : Unit => [(ag, .inr (2, [.int g_number, .ref ag_sort, .ref ag_kind, .ref ag_tip, .ref ag_marks, .ref ag_brass, .ref ag_peg, .ref ag_has])), (ag_peg, .inl (cyI, 16, .inl g_peg))]) (va_A [(ag, .inr (2, [.int g_number, .ref ag_sort, .ref ag_kind, .ref ag_tip, .ref ag_marks, .ref ag_brass, .ref ag_peg, .ref ag_has])), (ag_peg, .inl (cyI, 16, .inl g_peg))] sz)) (va_A [(ag, .inr (2, [.int g_number, .ref ag_sort, .ref ag_kind, .ref ag_tip, .ref ag_marks, .ref ag_brass, .ref ag_peg, .ref ag_has])), (ag_peg, .inl (cyI, 16, .inl g_peg))] sz)) 0 0 (va_A [(ag, .inr (2, [.int g_number, .ref ag_sort, .ref ag_kind, .ref ag_tip, .ref ag_marks, .ref ag_brass, .ref ag_peg, .ref ag_has])), (ag_peg, .inl (cyI, 16, .inl g_peg))] sz) := by
  refine Met.ofW (cc := cX2_hangs) (maxL := 2) (ret := (some .boolean)) (by decide) rfl ?_
  intro p e s m args below meth c s₁ B hml hv
  obtain ⟨rfl, hsz, hP, hK, hD0, hNw, hw⟩ := hv
  have hx := B.exec
  have hb := B.bytes
  have hr := B.returns
  have hts := atoms_spec (ws := wsX2_hangs) B.pre
  have hown : s.vm.findClass RX2 = some m.cls := findClass_of_methodNamed B.named
  have hlocks := B.notSynchronized
  subst hsz
  have hD := hD0.self (sz := s.heap.size)
  generalize hAe : va_A [(ag, .inr (2, [.int g_number, .ref ag_sort, .ref ag_kind, .ref ag_tip, .ref ag_marks, .ref ag_brass, .ref ag_peg, .ref ag_has])), (ag_peg, .inl (cyI, 16, .inl g_peg))] s.heap.size = A at hD ⊢
  have hA : ∀ q : Nat, s.heap.size ≤ q → A q := fun q h => by rw [← hAe]; exact Or.inr h
  have hS : va_S A s.heap s.heap [] := va_S.rf
  have hl := lv_entry ([.ref ag, .int x1]) (n := 2) (Nat.le_of_ble_eq_true rfl)
  rw [lg_entry_eq]
  generalize (lg_sl ([.ref ag, .int x1]) ++ List.replicate (2 - (lg_sl ([.ref ag, .int x1])).length) Slot.unset).toArray = ls at hl ⊢
  have hl : lv_has ls 2 [(0, .ref ag), (1, .int x1)] := hl
  refine gx_q (fun Q9 hQ => ?_)
  unfold nf_Guests_hangs at hw
  have hi_X2 : ∀ w ∈ wsX20, w ∈ wsX2_hangs := (sub_c (nq_m (n := 8) rfl) (sub_c (nq_m (n := 9) rfl) (sub_c (nq_m (n := 10) rfl) (sub_c (nq_m (n := 11) rfl) (sub_c (nq_m (n := 12) rfl) (sub_c (nq_m (n := 13) rfl) (sub_c (nq_m (n := 14) rfl) (sub_c (nq_m (n := 15) rfl) sub_n))))))))
  have hf31 : (Cond.fieldLink RX2 31 "CoatsHall$Guests" (TX2 6).2.1 (TX2 6).2.2.1).before ([.ref ag, .int x1] : List Value).toArray s = true := hts (.fieldLink RX2 31 "CoatsHall$Guests" "peg" "[I") (nq_m (n := 1) rfl)
  refine lv_aload_n hx hb (nq_d dX2_hangs_0_g (n := 0) rfl) rfl (lv_at hl 0 rfl) ?_
  refine lv_iload_n hx hb (nq_d dX2_hangs_0_g (n := 1) rfl) rfl (lv_at hl 1 rfl) ?_
  refine gx_ri (wr := [(ag_peg, .inl (cyI, 16, .inl g_peg))]) (va_runV (As := [.int x1]) (rest := []) ⟨hx, hb, hml, hown, hts⟩ (ct_Guests_knows l dC dI cyB cyI cyJ cyZ ag ag_sort ag_kind ag_tip ag_marks ag_brass ag_peg ag_has _ g_number x1 _) (cwV 1 hts gX2_hangs_X2_knows rfl rfl rfl cd_X2_knows ⟨Nat.le_of_ble_eq_true rfl, Nat.le_of_ble_eq_true rfl⟩) (gx_preV hK hP hD hNw [0] rfl (by decide +kernel) hw 0 (ci := 2) rfl rfl rfl) rfl rfl hl.1 rfl (lv_room (Nat.le_of_ble_eq_true rfl)) (nq_d dX2_hangs_0_g (n := 2) rfl) ⟨Nat.zero_le _, Nat.zero_le _⟩) hP hD hS hA [0] [1] [1, 0] rfl rfl (by decide) (by decide) (by decide) (fun _ => [(ag, .inr (2, [.int g_number, .ref ag_sort, .ref ag_kind, .ref ag_tip, .ref ag_marks, .ref ag_brass, .ref ag_peg, .ref ag_has])), (ag_peg, .inl (cyI, 16, .inl g_peg))]) (fun _ => rfl) (fun r1 u H locs hw hP hD hS => ?_)
  try dsimp only at hw hP hD
  refine gx_if_eq (tgt := 22) hx hb (nq_d dX2_hangs_0_g (n := 3) rfl) (by decide) hw (fun hw => ?_) (fun hw => ?_)
  · refine lv_iconst (v := (0 : Int32)) hx hb (nq_d dX2_hangs_0_g (n := 12) rfl) (by decide) ?_
    exact rt_zl (A1 := A) hQ hx hb hr hlocks hP hD hS () [0, 1] rfl (by decide +kernel) rfl hw (nq_d dX2_hangs_0_g (n := 13) rfl)
  · refine lv_aload_n hx hb (nq_d dX2_hangs_0_g (n := 4) rfl) rfl (lv_at hl 0 rfl) ?_
    refine va_get (D := (dC, dI)) (ci := 2) (v := .ref ag_peg) (C := RX2) (T := TX2) (N := 8) hx hb hts hi_X2 hown hK hP 0 rfl rfl 6 (by decide) hf31 (fun _ h9 => h9) rfl (nq_d dX2_hangs_0_g (n := 5) rfl) ?_
    refine lv_iload_n hx hb (nq_d dX2_hangs_0_g (n := 6) rfl) rfl (lv_at hl 1 rfl) ?_
    refine gx_iald hx hb hK hP 1 1 rfl rfl (nq_d dX2_hangs_0_g (n := 7) rfl) hw (fun v2 hw => ?_)
    refine lv_iconst (v := ((-1) : Int32)) hx hb (nq_d dX2_hangs_0_g (n := 8) rfl) (by decide) ?_
    refine gx_icmp_eq (tgt := 22) hx hb (nq_d dX2_hangs_0_g (n := 9) rfl) (by decide) hw (fun hw => ?_) (fun hw => ?_)
    · refine lv_iconst (v := (0 : Int32)) hx hb (nq_d dX2_hangs_0_g (n := 12) rfl) (by decide) ?_
      exact rt_zl (A1 := A) hQ hx hb hr hlocks hP hD hS () [0, 1] rfl (by decide +kernel) rfl hw (nq_d dX2_hangs_0_g (n := 13) rfl)
    · refine lv_iconst (v := (1 : Int32)) hx hb (nq_d dX2_hangs_0_g (n := 10) rfl) (by decide) ?_
      refine lv_goto (tgt := 23) hx hb (nq_d dX2_hangs_0_g (n := 11) rfl) (by decide) ?_
      exact rt_zl (A1 := A) hQ hx hb hr hlocks hP hD hS () [0, 1] rfl (by decide +kernel) rfl hw (nq_d dX2_hangs_0_g (n := 13) rfl)
abbrev rmX0_thingsFor : Room := { frames := 2, cells := 0, slots := 0, locals := 42 }
theorem cd_X0_thingsFor : yX0_thingsFor.cls = RX0 ∧ yX0_thingsFor.cls ≠ "java/lang/invoke/MethodHandle" ∧ yX0_thingsFor.cls ≠ "java/lang/invoke/VarHandle" ∧ (parseMethodDescriptor yX0_thingsFor.desc).map (fun d => d.parameters.length) = some 2 := by decide +kernel
set_option maxHeartbeats 4000000 in
set_option maxRecDepth 100000 in
theorem ct_Claims_thingsFor (l : Launch) (dC : Nat → ClassId) (dI : Nat → Nat → Nat) (cyB cyI cyJ cyZ : ClassId) (ag ag_sort ag_kind ag_tip ag_marks ag_brass ag_peg ag_has ac ac_guest ac_yes ac_no : Nat) (sz : Nat) (g_number : Int32) (c_number : Int32) (g_kind : Nat → Int32) (g_marks : Nat → Int32) (g_peg : Nat → Int32) (c_guest : Nat → Int32) (c_yes : Nat → Int32) (c_no : Nat → Int32) (x1 : Int32) (Q : Int → Prop) : Met l yX0_thingsFor wsX0_thingsFor rmX0_thingsFor (va_Pc [.ref ac, .int x1, .ref ag] (cPre (dC, dI) vwCl (tyS cyB cyI cyJ cyZ) [(ag, .inr (2, [.int g_number, .ref ag_sort, .ref ag_kind, .ref ag_tip, .ref ag_marks, .ref ag_brass, .ref ag_peg, .ref ag_has])), (ag_kind, .inl (cyI, 16, .inl g_kind)), (ag_marks, .inl (cyI, 16, .inl g_marks)), (ag_peg, .inl (cyI, 16, .inl g_peg)), (ac, .inr (0, [.int c_number, .ref ac_guest, .ref ac_yes, .ref ac_no])), (ac_guest, .inl (cyI, 6, .inl c_guest)), (ac_yes, .inl (cyI, 6, .inl c_yes)), (ac_no, .inl (cyI, 6, .inl c_no))] sz (nf_Claims_thingsFor g_number.toInt (aI 16 g_kind) (aI 16 g_marks) (aI 16 g_peg) c_number.toInt (aI 6 c_guest) (aI 6 c_yes) (aI 6 c_no) x1.toInt Q))) (va_Qi (fun (r : Int32) (_ : Unit) => Q r.toInt ) (cPost (dC, dI) vwCl (fun _ : Unit => [(ag, .inr (2, [.int g_number, .ref ag_sort, .ref ag_kind, .ref ag_tip, .ref ag_marks, .ref ag_brass, .ref ag_peg, .ref ag_has])), (ag_kind, .inl (cyI, 16, .inl g_kind)), (ag_marks, .inl (cyI, 16, .inl g_marks)), (ag_peg, .inl (cyI, 16, .inl g_peg)), (ac, .inr (0, [.int c_number, .ref ac_guest, .ref ac_yes, .ref ac_no])), (ac_guest, .inl (cyI, 6, .inl c_guest)), (ac_yes, .inl (cyI, 6, .inl c_yes)), (ac_no, .inl (cyI, 6, .inl c_no))]) (va_A [(ag, .inr (2, [.int g_number, .ref ag_sort, .ref ag_kind, .ref ag_tip, .ref ag_marks, .ref ag_brass, .ref ag_peg, .ref ag_has])), (ag_kind, .inl (cyI, 16, .inl g_kind)), (ag_marks, .inl (cyI, 16, .inl g_marks)), (ag_peg, .inl (cyI, 16, .inl g_peg)), (ac, .inr (0, [.int c_number, .ref ac_guest, .ref ac_yes, .ref ac_no])), (ac_guest, .inl (cyI, 6, .inl c_guest)), (ac_yes, .inl (cyI, 6, .inl c_yes)), (ac_no, .inl (cyI, 6, .inl c_no))] sz)) (va_A [(ag, .inr (2, [.int g_number, .ref ag_sort, .ref ag_kind, .ref ag_tip, .ref ag_marks, .ref ag_brass, .ref ag_peg, .ref ag_has])), (ag_kind, .inl (cyI, 16, .inl g_kind)), (ag_marks, .inl (cyI, 16, .inl g_marks)), (ag_peg, .inl (cyI, 16, .inl g_peg)), (ac, .inr (0, [.int c_number, .ref ac_guest, .ref ac_yes, .ref ac_no])), (ac_guest, .inl (cyI, 6, .inl c_guest)), (ac_yes, .inl (cyI, 6, .inl c_yes)), (ac_no, .inl (cyI, 6, .inl c_no))] sz)) 0 0 (va_A [(ag, .inr (2, [.int g_number, .ref ag_sort, .ref ag_kind, .ref ag_tip, .ref ag_marks, .ref ag_brass, .ref ag_peg, .ref ag_has])), (ag_kind, .inl (cyI, 16, .inl g_kind)), (ag_marks, .inl (cyI, 16, .inl g_marks)), (ag_peg, .inl (cyI, 16, .inl g_peg)), (ac, .inr (0, [.int c_number, .ref ac_guest, .ref ac_yes, .ref ac_no])), (ac_guest, .inl (cyI, 6, .inl c_guest)), (ac_yes, .inl (cyI, 6, .inl c_yes)), (ac_no, .inl (cyI, 6, .inl c_no))] sz) := by
  refine Met.ofW (cc := cX0_thingsFor) (maxL := 7) (ret := (some .int)) (by decide) rfl ?_
  intro p e s m args below meth c s₁ B hml hv
  obtain ⟨rfl, hsz, hP, hK, hD0, hNw, hw⟩ := hv
  have hx := B.exec
  have hb := B.bytes
  have hr := B.returns
  have hts := atoms_spec (ws := wsX0_thingsFor) B.pre
  have hown : s.vm.findClass RX0 = some m.cls := findClass_of_methodNamed B.named
  have hlocks := B.notSynchronized
  subst hsz
  have hD := hD0.self (sz := s.heap.size)
  generalize hAe : va_A [(ag, .inr (2, [.int g_number, .ref ag_sort, .ref ag_kind, .ref ag_tip, .ref ag_marks, .ref ag_brass, .ref ag_peg, .ref ag_has])), (ag_kind, .inl (cyI, 16, .inl g_kind)), (ag_marks, .inl (cyI, 16, .inl g_marks)), (ag_peg, .inl (cyI, 16, .inl g_peg)), (ac, .inr (0, [.int c_number, .ref ac_guest, .ref ac_yes, .ref ac_no])), (ac_guest, .inl (cyI, 6, .inl c_guest)), (ac_yes, .inl (cyI, 6, .inl c_yes)), (ac_no, .inl (cyI, 6, .inl c_no))] s.heap.size = A at hD ⊢
  have hA : ∀ q : Nat, s.heap.size ≤ q → A q := fun q h => by rw [← hAe]; exact Or.inr h
  have hS : va_S A s.heap s.heap [] := va_S.rf
  have hl := lv_entry ([.ref ac, .int x1, .ref ag]) (n := 7) (Nat.le_of_ble_eq_true rfl)
  rw [lg_entry_eq]
  generalize (lg_sl ([.ref ac, .int x1, .ref ag]) ++ List.replicate (7 - (lg_sl ([.ref ac, .int x1, .ref ag])).length) Slot.unset).toArray = ls at hl ⊢
  have hl : lv_has ls 7 [(0, .ref ac), (1, .int x1), (2, .ref ag)] := hl
  refine gx_q (fun Q9 hQ => ?_)
  unfold nf_Claims_thingsFor at hw
  have hi_X0 : ∀ w ∈ wsX00, w ∈ wsX0_thingsFor := (sub_c (nq_m (n := 32) rfl) (sub_c (nq_m (n := 33) rfl) (sub_c (nq_m (n := 34) rfl) (sub_c (nq_m (n := 35) rfl) sub_n))))
  have hf15 : (Cond.fieldLink RX0 15 "CoatsHall$Claims" (TX0 1).2.1 (TX0 1).2.2.1).before ([.ref ac, .int x1, .ref ag] : List Value).toArray s = true := hts (.fieldLink RX0 15 "CoatsHall$Claims" "guest" "[I") (nq_m (n := 1) rfl)
  have hi_X2 : ∀ w ∈ wsX20, w ∈ wsX0_thingsFor := (sub_c (nq_m (n := 36) rfl) (sub_c (nq_m (n := 37) rfl) (sub_c (nq_m (n := 38) rfl) (sub_c (nq_m (n := 39) rfl) (sub_c (nq_m (n := 40) rfl) (sub_c (nq_m (n := 41) rfl) (sub_c (nq_m (n := 42) rfl) (sub_c (nq_m (n := 43) rfl) sub_n))))))))
  have hf41 : (Cond.fieldLink RX0 41 "CoatsHall$Guests" (TX2 0).2.1 (TX2 0).2.2.1).before ([.ref ac, .int x1, .ref ag] : List Value).toArray s = true := hts (.fieldLink RX0 41 "CoatsHall$Guests" "number" "I") (nq_m (n := 2) rfl)
  have hf19 : (Cond.fieldLink RX0 19 "CoatsHall$Claims" (TX0 2).2.1 (TX0 2).2.2.1).before ([.ref ac, .int x1, .ref ag] : List Value).toArray s = true := hts (.fieldLink RX0 19 "CoatsHall$Claims" "yes" "[I") (nq_m (n := 3) rfl)
  have hf22 : (Cond.fieldLink RX0 22 "CoatsHall$Claims" (TX0 3).2.1 (TX0 3).2.2.1).before ([.ref ac, .int x1, .ref ag] : List Value).toArray s = true := hts (.fieldLink RX0 22 "CoatsHall$Claims" "no" "[I") (nq_m (n := 4) rfl)
  refine lv_aload_n hx hb (nq_d dX0_thingsFor_0_g (n := 0) rfl) rfl (lv_at hl 0 rfl) ?_
  refine lv_iload_n hx hb (nq_d dX0_thingsFor_0_g (n := 1) rfl) rfl (lv_at hl 1 rfl) ?_
  refine gx_ri (wr := [(ag, .inr (2, [.int g_number, .ref ag_sort, .ref ag_kind, .ref ag_tip, .ref ag_marks, .ref ag_brass, .ref ag_peg, .ref ag_has])), (ag_kind, .inl (cyI, 16, .inl g_kind)), (ag_marks, .inl (cyI, 16, .inl g_marks)), (ag_peg, .inl (cyI, 16, .inl g_peg)), (ac_guest, .inl (cyI, 6, .inl c_guest)), (ac_yes, .inl (cyI, 6, .inl c_yes)), (ac_no, .inl (cyI, 6, .inl c_no))]) (va_runV (As := [.int x1]) (rest := []) ⟨hx, hb, hml, hown, hts⟩ (ct_Claims_knows l dC dI cyB cyI cyJ cyZ ac ac_guest ac_yes ac_no _ c_number x1 _) (cwV 1 hts gX0_thingsFor_X0_knows rfl rfl rfl cd_X0_knows ⟨Nat.le_of_ble_eq_true rfl, Nat.le_of_ble_eq_true rfl⟩) (gx_preV hK hP hD hNw [4] rfl (by decide +kernel) hw 4 (ci := 0) rfl rfl rfl) rfl rfl hl.1 rfl (lv_room (Nat.le_of_ble_eq_true rfl)) (nq_d dX0_thingsFor_0_g (n := 2) rfl) ⟨Nat.zero_le _, Nat.zero_le _⟩) hP hD hS hA [4] [0, 1, 2, 3, 5, 6, 7] [0, 1, 2, 3, 7, 4, 5, 6] rfl rfl (by decide) (by decide) (by decide) (fun _ => [(ag, .inr (2, [.int g_number, .ref ag_sort, .ref ag_kind, .ref ag_tip, .ref ag_marks, .ref ag_brass, .ref ag_peg, .ref ag_has])), (ag_kind, .inl (cyI, 16, .inl g_kind)), (ag_marks, .inl (cyI, 16, .inl g_marks)), (ag_peg, .inl (cyI, 16, .inl g_peg)), (ac, .inr (0, [.int c_number, .ref ac_guest, .ref ac_yes, .ref ac_no])), (ac_guest, .inl (cyI, 6, .inl c_guest)), (ac_yes, .inl (cyI, 6, .inl c_yes)), (ac_no, .inl (cyI, 6, .inl c_no))]) (fun _ => rfl) (fun r1 u H locs hw hP hD hS => ?_)
  try dsimp only at hw hP hD
  refine gx_if_ne (tgt := 10) hx hb (nq_d dX0_thingsFor_0_g (n := 3) rfl) (by decide) hw (fun hw => ?_) (fun hw => ?_)
  · refine lv_iconst (v := (0 : Int32)) hx hb (nq_d dX0_thingsFor_0_g (n := 6) rfl) (by decide) ?_
    refine lv_istore_n (lv' := [(3, .int (0 : Int32)), (0, .ref ac), (1, .int x1), (2, .ref ag)]) hx hb (nq_d dX0_thingsFor_0_g (n := 7) rfl) rfl hl (by decide) rfl (fun ls hl => ?_)
    refine lv_aload_n hx hb (nq_d dX0_thingsFor_0_g (n := 8) rfl) rfl (lv_at hl 3 rfl) ?_
    refine lv_aload_n hx hb (nq_d dX0_thingsFor_0_g (n := 9) rfl) rfl (lv_at hl 1 rfl) ?_
    refine va_get (D := (dC, dI)) (ci := 0) (v := .ref ac_guest) (C := RX0) (T := TX0) (N := 4) hx hb hts hi_X0 hown hK hP 4 rfl rfl 1 (by decide) hf15 (fun _ h9 => h9) rfl (nq_d dX0_thingsFor_0_g (n := 10) rfl) ?_
    refine lv_iload_n hx hb (nq_d dX0_thingsFor_0_g (n := 11) rfl) rfl (lv_at hl 2 rfl) ?_
    refine gx_iald hx hb hK hP 5 1 rfl rfl (nq_d dX0_thingsFor_0_g (n := 12) rfl) hw (fun v2 hw => ?_)
    refine gx_ri (wr := [(ag_marks, .inl (cyI, 16, .inl g_marks)), (ag_peg, .inl (cyI, 16, .inl g_peg)), (ac, .inr (0, [.int c_number, .ref ac_guest, .ref ac_yes, .ref ac_no])), (ac_guest, .inl (cyI, 6, .inl c_guest)), (ac_yes, .inl (cyI, 6, .inl c_yes)), (ac_no, .inl (cyI, 6, .inl c_no))]) (va_runV (As := [.int v2]) (rest := []) ⟨hx, hb, hml, hown, hts⟩ (ct_Guests_kindOf l dC dI cyB cyI cyJ cyZ ag ag_sort ag_kind ag_tip ag_marks ag_brass ag_peg ag_has _ g_number g_kind v2 _) (cwV 1 hts gX0_thingsFor_X2_kindOf rfl rfl rfl cd_X2_kindOf ⟨Nat.le_of_ble_eq_true rfl, Nat.le_of_ble_eq_true rfl⟩) (gx_preV hK hP hD hNw [0, 1] rfl (by decide +kernel) hw 0 (ci := 2) rfl rfl rfl) rfl rfl hl.1 rfl (lv_room (Nat.le_of_ble_eq_true rfl)) (nq_d dX0_thingsFor_0_g (n := 13) rfl) ⟨Nat.zero_le _, Nat.zero_le _⟩) hP hD hS hA [0, 1] [2, 3, 4, 5, 6, 7] [6, 7, 0, 1, 2, 3, 4, 5] rfl rfl (by decide) (by decide) (by decide) (fun _ => [(ag, .inr (2, [.int g_number, .ref ag_sort, .ref ag_kind, .ref ag_tip, .ref ag_marks, .ref ag_brass, .ref ag_peg, .ref ag_has])), (ag_kind, .inl (cyI, 16, .inl g_kind)), (ag_marks, .inl (cyI, 16, .inl g_marks)), (ag_peg, .inl (cyI, 16, .inl g_peg)), (ac, .inr (0, [.int c_number, .ref ac_guest, .ref ac_yes, .ref ac_no])), (ac_guest, .inl (cyI, 6, .inl c_guest)), (ac_yes, .inl (cyI, 6, .inl c_yes)), (ac_no, .inl (cyI, 6, .inl c_no))]) (fun _ => rfl) (fun r3 u H locs hw hP hD hS => ?_)
    try dsimp only at hw hP hD
    refine lv_istore (lv' := [(4, .int r3), (3, .int (0 : Int32)), (0, .ref ac), (1, .int x1), (2, .ref ag)]) hx hb (nq_d dX0_thingsFor_0_g (n := 14) rfl) hl (by decide) rfl (fun ls hl => ?_)
    refine lv_iconst (v := (0 : Int32)) hx hb (nq_d dX0_thingsFor_0_g (n := 15) rfl) (by decide) ?_
    refine lv_istore (lv' := [(5, .int (0 : Int32)), (4, .int r3), (3, .int (0 : Int32)), (0, .ref ac), (1, .int x1), (2, .ref ag)]) hx hb (nq_d dX0_thingsFor_0_g (n := 16) rfl) hl (by decide) rfl (fun ls hl => ?_)
    refine nlp2_el hw (fun X0_23 X1_23 => ∀ (l3_4 : Int32) (l5_5 : Int32), X0_23 = l3_4.toInt → X1_23 = l5_5.toInt → ∀ (H : Heap) (locs : List Loc) (ls : Array Slot), va_P (dC, dI) vwCl [(ag, .inr (2, [.int g_number, .ref ag_sort, .ref ag_kind, .ref ag_tip, .ref ag_marks, .ref ag_brass, .ref ag_peg, .ref ag_has])), (ag_kind, .inl (cyI, 16, .inl g_kind)), (ag_marks, .inl (cyI, 16, .inl g_marks)), (ag_peg, .inl (cyI, 16, .inl g_peg)), (ac, .inr (0, [.int c_number, .ref ac_guest, .ref ac_yes, .ref ac_no])), (ac_guest, .inl (cyI, 6, .inl c_guest)), (ac_yes, .inl (cyI, 6, .inl c_yes)), (ac_no, .inl (cyI, 6, .inl c_no))] H → va_D A [(ag, .inr (2, [.int g_number, .ref ag_sort, .ref ag_kind, .ref ag_tip, .ref ag_marks, .ref ag_brass, .ref ag_peg, .ref ag_has])), (ag_kind, .inl (cyI, 16, .inl g_kind)), (ag_marks, .inl (cyI, 16, .inl g_marks)), (ag_peg, .inl (cyI, 16, .inl g_peg)), (ac, .inr (0, [.int c_number, .ref ac_guest, .ref ac_yes, .ref ac_no])), (ac_guest, .inl (cyI, 6, .inl c_guest)), (ac_yes, .inl (cyI, 6, .inl c_yes)), (ac_no, .inl (cyI, 6, .inl c_no))] → va_S A s.heap H locs → lv_has ls 7 [(0, .ref ac), (1, .int x1), (2, .ref ag), (3, .int l3_4), (4, .int r3), (5, .int l5_5)] → W p l e (headSpec wsX0_thingsFor rmX0_thingsFor).room s m ([.ref ac, .int x1, .ref ag] : List Value).toArray below meth c H locs 0 0 Q9 (F0 m 27 ls [])) (fun self6 hPself6 X0_23 X1_23 hw l3_4 l5_5 eX0_23 eX1_23 H locs ls hP hD hS hl => ?_) (0 : Int32) (0 : Int32) rfl rfl _ _ _ hP hD hS (lv_sub hl [3, 4, 5, 2, 1, 0] rfl)
    subst eX0_23
    subst eX1_23
    refine lv_iload hx hb (nq_d dX0_thingsFor_0_g (n := 17) rfl) (lv_at hl 5 rfl) ?_
    refine lv_aload_n hx hb (nq_d dX0_thingsFor_0_g (n := 18) rfl) rfl (lv_at hl 2 rfl) ?_
    refine va_get (D := (dC, dI)) (ci := 2) (v := .int g_number) (C := RX2) (T := TX2) (N := 8) hx hb hts hi_X2 hown hK hP 0 rfl rfl 0 (by decide) hf41 (fun _ h9 => h9) rfl (nq_d dX0_thingsFor_0_g (n := 19) rfl) ?_
    refine gx_icmp_ge (tgt := 115) hx hb (nq_d dX0_thingsFor_0_g (n := 20) rfl) (by decide) hw (fun hw => ?_) (fun hw => ?_)
    · refine lv_iload_n hx hb (nq_d dX0_thingsFor_67_g (n := 24) rfl) rfl (lv_at hl 3 rfl) ?_
      exact rt_i (A1 := A) hQ hx hb hr hlocks hP hD hS () [0, 1, 2, 3, 4, 5, 6, 7] rfl (by decide +kernel) hw (nq_d dX0_thingsFor_67_g (n := 25) rfl)
    · refine lv_aload_n hx hb (nq_d dX0_thingsFor_0_g (n := 21) rfl) rfl (lv_at hl 0 rfl) ?_
      refine va_get (D := (dC, dI)) (ci := 0) (v := .ref ac_yes) (C := RX0) (T := TX0) (N := 4) hx hb hts hi_X0 hown hK hP 4 rfl rfl 2 (by decide) hf19 (fun _ h9 => h9) rfl (nq_d dX0_thingsFor_0_g (n := 22) rfl) ?_
      refine lv_iload_n hx hb (nq_d dX0_thingsFor_0_g (n := 23) rfl) rfl (lv_at hl 1 rfl) ?_
      refine gx_iald hx hb hK hP 6 1 rfl rfl (nq_d dX0_thingsFor_0_g (n := 24) rfl) hw (fun v7 hw => ?_)
      refine lv_aload_n hx hb (nq_d dX0_thingsFor_0_g (n := 25) rfl) rfl (lv_at hl 2 rfl) ?_
      refine lv_iload hx hb (nq_d dX0_thingsFor_0_g (n := 26) rfl) (lv_at hl 5 rfl) ?_
      refine gx_ri (wr := [(ag_kind, .inl (cyI, 16, .inl g_kind)), (ag_peg, .inl (cyI, 16, .inl g_peg)), (ac, .inr (0, [.int c_number, .ref ac_guest, .ref ac_yes, .ref ac_no])), (ac_guest, .inl (cyI, 6, .inl c_guest)), (ac_yes, .inl (cyI, 6, .inl c_yes)), (ac_no, .inl (cyI, 6, .inl c_no))]) (va_runV (As := [.int l5_5]) (rest := [.int v7]) ⟨hx, hb, hml, hown, hts⟩ (ct_Guests_marksOf l dC dI cyB cyI cyJ cyZ ag ag_sort ag_kind ag_tip ag_marks ag_brass ag_peg ag_has _ g_number g_marks l5_5 _) (cwV 1 hts gX0_thingsFor_X2_marksOf rfl rfl rfl cd_X2_marksOf ⟨Nat.le_of_ble_eq_true rfl, Nat.le_of_ble_eq_true rfl⟩) (gx_preV hK hP hD hNw [0, 2] rfl (by decide +kernel) hw 0 (ci := 2) rfl rfl rfl) rfl rfl hl.1 rfl (lv_room (Nat.le_of_ble_eq_true rfl)) (nq_d dX0_thingsFor_0_g (n := 27) rfl) ⟨Nat.zero_le _, Nat.zero_le _⟩) hP hD hS hA [0, 2] [1, 3, 4, 5, 6, 7] [6, 0, 7, 1, 2, 3, 4, 5] rfl rfl (by decide) (by decide) (by decide) (fun _ => [(ag, .inr (2, [.int g_number, .ref ag_sort, .ref ag_kind, .ref ag_tip, .ref ag_marks, .ref ag_brass, .ref ag_peg, .ref ag_has])), (ag_kind, .inl (cyI, 16, .inl g_kind)), (ag_marks, .inl (cyI, 16, .inl g_marks)), (ag_peg, .inl (cyI, 16, .inl g_peg)), (ac, .inr (0, [.int c_number, .ref ac_guest, .ref ac_yes, .ref ac_no])), (ac_guest, .inl (cyI, 6, .inl c_guest)), (ac_yes, .inl (cyI, 6, .inl c_yes)), (ac_no, .inl (cyI, 6, .inl c_no))]) (fun _ => rfl) (fun r8 u H locs hw hP hD hS => ?_)
      try dsimp only at hw hP hD
      refine lv_iconst (v := ((-1) : Int32)) hx hb (nq_d dX0_thingsFor_0_g (n := 28) rfl) (by decide) ?_
      refine gx_ixor hx hb (nq_d dX0_thingsFor_0_g (n := 29) rfl) hw (fun v9 hw => ?_)
      refine gx_iand hx hb (nq_d dX0_thingsFor_0_g (n := 30) rfl) hw (fun v10 hw => ?_)
      refine jn1_el hw (fun j12 hj12 hw => ?_)
      have Jj12 : ∀ (t11 : Int32) (H : Heap) (locs : List Loc) (ls : Array Slot), va_P (dC, dI) vwCl [(ag, .inr (2, [.int g_number, .ref ag_sort, .ref ag_kind, .ref ag_tip, .ref ag_marks, .ref ag_brass, .ref ag_peg, .ref ag_has])), (ag_kind, .inl (cyI, 16, .inl g_kind)), (ag_marks, .inl (cyI, 16, .inl g_marks)), (ag_peg, .inl (cyI, 16, .inl g_peg)), (ac, .inr (0, [.int c_number, .ref ac_guest, .ref ac_yes, .ref ac_no])), (ac_guest, .inl (cyI, 6, .inl c_guest)), (ac_yes, .inl (cyI, 6, .inl c_yes)), (ac_no, .inl (cyI, 6, .inl c_no))] H → va_D A [(ag, .inr (2, [.int g_number, .ref ag_sort, .ref ag_kind, .ref ag_tip, .ref ag_marks, .ref ag_brass, .ref ag_peg, .ref ag_has])), (ag_kind, .inl (cyI, 16, .inl g_kind)), (ag_marks, .inl (cyI, 16, .inl g_marks)), (ag_peg, .inl (cyI, 16, .inl g_peg)), (ac, .inr (0, [.int c_number, .ref ac_guest, .ref ac_yes, .ref ac_no])), (ac_guest, .inl (cyI, 6, .inl c_guest)), (ac_yes, .inl (cyI, 6, .inl c_yes)), (ac_no, .inl (cyI, 6, .inl c_no))] → va_S A s.heap H locs → lv_has ls 7 [(0, .ref ac), (1, .int x1), (2, .ref ag), (3, .int l3_4), (4, .int r3), (5, .int l5_5)] → j12 t11.toInt → W p l e (headSpec wsX0_thingsFor rmX0_thingsFor).room s m ([.ref ac, .int x1, .ref ag] : List Value).toArray below meth c H locs 0 0 Q9 (F0 m 75 ls [.int t11]) := by
        intro t11 H locs ls hP hD hS hl hw
        have hw := hj12 _ hw
        refine lv_istore (lv' := [(6, .int t11), (0, .ref ac), (1, .int x1), (2, .ref ag), (3, .int l3_4), (4, .int r3), (5, .int l5_5)]) hx hb (nq_d dX0_thingsFor_67_g (n := 4) rfl) hl (by decide) rfl (fun ls hl => ?_)
        refine lv_iload hx hb (nq_d dX0_thingsFor_67_g (n := 5) rfl) (lv_at hl 0 rfl) ?_
        refine jn1_el hw (fun j14 hj14 hw => ?_)
        have Jj14 : ∀ (l3_13 : Int32) (H : Heap) (locs : List Loc) (ls : Array Slot), va_P (dC, dI) vwCl [(ag, .inr (2, [.int g_number, .ref ag_sort, .ref ag_kind, .ref ag_tip, .ref ag_marks, .ref ag_brass, .ref ag_peg, .ref ag_has])), (ag_kind, .inl (cyI, 16, .inl g_kind)), (ag_marks, .inl (cyI, 16, .inl g_marks)), (ag_peg, .inl (cyI, 16, .inl g_peg)), (ac, .inr (0, [.int c_number, .ref ac_guest, .ref ac_yes, .ref ac_no])), (ac_guest, .inl (cyI, 6, .inl c_guest)), (ac_yes, .inl (cyI, 6, .inl c_yes)), (ac_no, .inl (cyI, 6, .inl c_no))] H → va_D A [(ag, .inr (2, [.int g_number, .ref ag_sort, .ref ag_kind, .ref ag_tip, .ref ag_marks, .ref ag_brass, .ref ag_peg, .ref ag_has])), (ag_kind, .inl (cyI, 16, .inl g_kind)), (ag_marks, .inl (cyI, 16, .inl g_marks)), (ag_peg, .inl (cyI, 16, .inl g_peg)), (ac, .inr (0, [.int c_number, .ref ac_guest, .ref ac_yes, .ref ac_no])), (ac_guest, .inl (cyI, 6, .inl c_guest)), (ac_yes, .inl (cyI, 6, .inl c_yes)), (ac_no, .inl (cyI, 6, .inl c_no))] → va_S A s.heap H locs → lv_has ls 7 [(0, .ref ac), (1, .int x1), (2, .ref ag), (3, .int l3_13), (4, .int r3), (5, .int l5_5)] → j14 l3_13.toInt → W p l e (headSpec wsX0_thingsFor rmX0_thingsFor).room s m ([.ref ac, .int x1, .ref ag] : List Value).toArray below meth c H locs 0 0 Q9 (F0 m 109 ls []) := by
          intro l3_13 H locs ls hP hD hS hl hw
          have hw := hj14 _ hw
          refine gx_iinc (k := 5) (z := (1 : Int32)) (lv' := fun v15 => [(5, .int v15), (0, .ref ac), (1, .int x1), (2, .ref ag), (3, .int l3_13), (4, .int r3)]) hx hb (nq_d dX0_thingsFor_67_g (n := 22) rfl) hl rfl (by decide) (by decide) (fun _ => rfl) hw (fun v15 ls hw hl => ?_)
          refine lv_goto (tgt := 27) hx hb (nq_d dX0_thingsFor_67_g (n := 23) rfl) (by decide) ?_
          exact hPself6 _ _ hw l3_13 v15 rfl rfl _ _ _ hP hD hS (lv_sub hl [1, 2, 3, 4, 5, 0] rfl)
        refine gx_if_eq (tgt := 109) hx hb (nq_d dX0_thingsFor_67_g (n := 6) rfl) (by decide) hw (fun hw => ?_) (fun hw => ?_)
        · exact Jj14 l3_4 _ _ _ hP hD hS (lv_sub hl [1, 2, 3, 4, 5, 6] rfl) hw
        · refine lv_aload_n hx hb (nq_d dX0_thingsFor_67_g (n := 7) rfl) rfl (lv_at hl 3 rfl) ?_
          refine lv_iload hx hb (nq_d dX0_thingsFor_67_g (n := 8) rfl) (lv_at hl 6 rfl) ?_
          refine gx_ri (wr := [(ag_kind, .inl (cyI, 16, .inl g_kind)), (ag_marks, .inl (cyI, 16, .inl g_marks)), (ac, .inr (0, [.int c_number, .ref ac_guest, .ref ac_yes, .ref ac_no])), (ac_guest, .inl (cyI, 6, .inl c_guest)), (ac_yes, .inl (cyI, 6, .inl c_yes)), (ac_no, .inl (cyI, 6, .inl c_no))]) (va_runV (As := [.int l5_5]) (rest := []) ⟨hx, hb, hml, hown, hts⟩ (ct_Guests_hangs l dC dI cyB cyI cyJ cyZ ag ag_sort ag_kind ag_tip ag_marks ag_brass ag_peg ag_has _ g_number g_peg l5_5 _) (cwV 1 hts gX0_thingsFor_X2_hangs rfl rfl rfl cd_X2_hangs ⟨Nat.le_of_ble_eq_true rfl, Nat.le_of_ble_eq_true rfl⟩) (gx_preV hK hP hD hNw [0, 3] rfl (by decide +kernel) hw 0 (ci := 2) rfl rfl rfl) rfl rfl hl.1 rfl (lv_room (Nat.le_of_ble_eq_true rfl)) (nq_d dX0_thingsFor_67_g (n := 9) rfl) ⟨Nat.zero_le _, Nat.zero_le _⟩) hP hD hS hA [0, 3] [1, 2, 4, 5, 6, 7] [6, 0, 1, 7, 2, 3, 4, 5] rfl rfl (by decide) (by decide) (by decide) (fun _ => [(ag, .inr (2, [.int g_number, .ref ag_sort, .ref ag_kind, .ref ag_tip, .ref ag_marks, .ref ag_brass, .ref ag_peg, .ref ag_has])), (ag_kind, .inl (cyI, 16, .inl g_kind)), (ag_marks, .inl (cyI, 16, .inl g_marks)), (ag_peg, .inl (cyI, 16, .inl g_peg)), (ac, .inr (0, [.int c_number, .ref ac_guest, .ref ac_yes, .ref ac_no])), (ac_guest, .inl (cyI, 6, .inl c_guest)), (ac_yes, .inl (cyI, 6, .inl c_yes)), (ac_no, .inl (cyI, 6, .inl c_no))]) (fun _ => rfl) (fun r16 u H locs hw hP hD hS => ?_)
          try dsimp only at hw hP hD
          refine gx_if_eq (tgt := 109) hx hb (nq_d dX0_thingsFor_67_g (n := 10) rfl) (by decide) hw (fun hw => ?_) (fun hw => ?_)
          · exact Jj14 l3_4 _ _ _ hP hD hS (lv_sub hl [1, 2, 3, 4, 5, 6] rfl) hw
          · refine lv_aload_n hx hb (nq_d dX0_thingsFor_67_g (n := 11) rfl) rfl (lv_at hl 3 rfl) ?_
            refine lv_iload hx hb (nq_d dX0_thingsFor_67_g (n := 12) rfl) (lv_at hl 6 rfl) ?_
            refine gx_ri (wr := [(ag_marks, .inl (cyI, 16, .inl g_marks)), (ag_peg, .inl (cyI, 16, .inl g_peg)), (ac, .inr (0, [.int c_number, .ref ac_guest, .ref ac_yes, .ref ac_no])), (ac_guest, .inl (cyI, 6, .inl c_guest)), (ac_yes, .inl (cyI, 6, .inl c_yes)), (ac_no, .inl (cyI, 6, .inl c_no))]) (va_runV (As := [.int l5_5]) (rest := []) ⟨hx, hb, hml, hown, hts⟩ (ct_Guests_kindOf l dC dI cyB cyI cyJ cyZ ag ag_sort ag_kind ag_tip ag_marks ag_brass ag_peg ag_has _ g_number g_kind l5_5 _) (cwV 1 hts gX0_thingsFor_X2_kindOf rfl rfl rfl cd_X2_kindOf ⟨Nat.le_of_ble_eq_true rfl, Nat.le_of_ble_eq_true rfl⟩) (gx_preV hK hP hD hNw [0, 1] rfl (by decide +kernel) hw 0 (ci := 2) rfl rfl rfl) rfl rfl hl.1 rfl (lv_room (Nat.le_of_ble_eq_true rfl)) (nq_d dX0_thingsFor_67_g (n := 13) rfl) ⟨Nat.zero_le _, Nat.zero_le _⟩) hP hD hS hA [0, 1] [2, 3, 4, 5, 6, 7] [6, 7, 0, 1, 2, 3, 4, 5] rfl rfl (by decide) (by decide) (by decide) (fun _ => [(ag, .inr (2, [.int g_number, .ref ag_sort, .ref ag_kind, .ref ag_tip, .ref ag_marks, .ref ag_brass, .ref ag_peg, .ref ag_has])), (ag_kind, .inl (cyI, 16, .inl g_kind)), (ag_marks, .inl (cyI, 16, .inl g_marks)), (ag_peg, .inl (cyI, 16, .inl g_peg)), (ac, .inr (0, [.int c_number, .ref ac_guest, .ref ac_yes, .ref ac_no])), (ac_guest, .inl (cyI, 6, .inl c_guest)), (ac_yes, .inl (cyI, 6, .inl c_yes)), (ac_no, .inl (cyI, 6, .inl c_no))]) (fun _ => rfl) (fun r17 u H locs hw hP hD hS => ?_)
            try dsimp only at hw hP hD
            refine lv_iload hx hb (nq_d dX0_thingsFor_67_g (n := 14) rfl) (lv_at hl 5 rfl) ?_
            refine gx_icmp_ne (tgt := 109) hx hb (nq_d dX0_thingsFor_67_g (n := 15) rfl) (by decide) hw (fun hw => ?_) (fun hw => ?_)
            · exact Jj14 l3_4 _ _ _ hP hD hS (lv_sub hl [1, 2, 3, 4, 5, 6] rfl) hw
            · refine lv_iload_n hx hb (nq_d dX0_thingsFor_67_g (n := 16) rfl) rfl (lv_at hl 4 rfl) ?_
              refine lv_iconst (v := (1 : Int32)) hx hb (nq_d dX0_thingsFor_67_g (n := 17) rfl) (by decide) ?_
              refine lv_iload hx hb (nq_d dX0_thingsFor_67_g (n := 18) rfl) (lv_at hl 6 rfl) ?_
              refine gx_ishl hx hb (nq_d dX0_thingsFor_67_g (n := 19) rfl) hw (fun v18 hw => ?_)
              refine gx_ior hx hb (nq_d dX0_thingsFor_67_g (n := 20) rfl) hw (fun v19 hw => ?_)
              refine lv_istore_n (lv' := [(3, .int v19), (6, .int t11), (0, .ref ac), (1, .int x1), (2, .ref ag), (4, .int r3), (5, .int l5_5)]) hx hb (nq_d dX0_thingsFor_67_g (n := 21) rfl) rfl hl (by decide) rfl (fun ls hl => ?_)
              exact Jj14 v19 _ _ _ hP hD hS (lv_sub hl [2, 3, 4, 0, 5, 6] rfl) hw
      refine jn0_el hw (fun j20 hj20 hw => ?_)
      have Jj20 : ∀  (H : Heap) (locs : List Loc) (ls : Array Slot), va_P (dC, dI) vwCl [(ag, .inr (2, [.int g_number, .ref ag_sort, .ref ag_kind, .ref ag_tip, .ref ag_marks, .ref ag_brass, .ref ag_peg, .ref ag_has])), (ag_kind, .inl (cyI, 16, .inl g_kind)), (ag_marks, .inl (cyI, 16, .inl g_marks)), (ag_peg, .inl (cyI, 16, .inl g_peg)), (ac, .inr (0, [.int c_number, .ref ac_guest, .ref ac_yes, .ref ac_no])), (ac_guest, .inl (cyI, 6, .inl c_guest)), (ac_yes, .inl (cyI, 6, .inl c_yes)), (ac_no, .inl (cyI, 6, .inl c_no))] H → va_D A [(ag, .inr (2, [.int g_number, .ref ag_sort, .ref ag_kind, .ref ag_tip, .ref ag_marks, .ref ag_brass, .ref ag_peg, .ref ag_has])), (ag_kind, .inl (cyI, 16, .inl g_kind)), (ag_marks, .inl (cyI, 16, .inl g_marks)), (ag_peg, .inl (cyI, 16, .inl g_peg)), (ac, .inr (0, [.int c_number, .ref ac_guest, .ref ac_yes, .ref ac_no])), (ac_guest, .inl (cyI, 6, .inl c_guest)), (ac_yes, .inl (cyI, 6, .inl c_yes)), (ac_no, .inl (cyI, 6, .inl c_no))] → va_S A s.heap H locs → lv_has ls 7 [(0, .ref ac), (1, .int x1), (2, .ref ag), (3, .int l3_4), (4, .int r3), (5, .int l5_5)] → j20  → W p l e (headSpec wsX0_thingsFor rmX0_thingsFor).room s m ([.ref ac, .int x1, .ref ag] : List Value).toArray below meth c H locs 0 0 Q9 (F0 m 74 ls []) := by
        intro  H locs ls hP hD hS hl hw
        have hw := hj20  hw
        refine lv_iconst (v := (0 : Int32)) hx hb (nq_d dX0_thingsFor_67_g (n := 3) rfl) (by decide) ?_
        exact Jj12 (0 : Int32) _ _ _ hP hD hS (lv_sub hl [0, 1, 2, 3, 4, 5] rfl) hw
      refine gx_if_ne (tgt := 74) hx hb (nq_d dX0_thingsFor_0_g (n := 31) rfl) (by decide) hw (fun hw => ?_) (fun hw => ?_)
      · exact Jj20  _ _ _ hP hD hS (lv_sub hl [0, 1, 2, 3, 4, 5] rfl) hw
      · refine lv_aload_n hx hb (nq_d dX0_thingsFor_0_g (n := 32) rfl) rfl (lv_at hl 0 rfl) ?_
        refine va_get (D := (dC, dI)) (ci := 0) (v := .ref ac_no) (C := RX0) (T := TX0) (N := 4) hx hb hts hi_X0 hown hK hP 4 rfl rfl 3 (by decide) hf22 (fun _ h9 => h9) rfl (nq_d dX0_thingsFor_0_g (n := 33) rfl) ?_
        refine lv_iload_n hx hb (nq_d dX0_thingsFor_0_g (n := 34) rfl) rfl (lv_at hl 1 rfl) ?_
        refine gx_iald hx hb hK hP 7 1 rfl rfl (nq_d dX0_thingsFor_0_g (n := 35) rfl) hw (fun v21 hw => ?_)
        refine lv_aload_n hx hb (nq_d dX0_thingsFor_0_g (n := 36) rfl) rfl (lv_at hl 2 rfl) ?_
        refine lv_iload hx hb (nq_d dX0_thingsFor_0_g (n := 37) rfl) (lv_at hl 5 rfl) ?_
        refine gx_ri (wr := [(ag_kind, .inl (cyI, 16, .inl g_kind)), (ag_peg, .inl (cyI, 16, .inl g_peg)), (ac, .inr (0, [.int c_number, .ref ac_guest, .ref ac_yes, .ref ac_no])), (ac_guest, .inl (cyI, 6, .inl c_guest)), (ac_yes, .inl (cyI, 6, .inl c_yes)), (ac_no, .inl (cyI, 6, .inl c_no))]) (va_runV (As := [.int l5_5]) (rest := [.int v21]) ⟨hx, hb, hml, hown, hts⟩ (ct_Guests_marksOf l dC dI cyB cyI cyJ cyZ ag ag_sort ag_kind ag_tip ag_marks ag_brass ag_peg ag_has _ g_number g_marks l5_5 _) (cwV 1 hts gX0_thingsFor_X2_marksOf rfl rfl rfl cd_X2_marksOf ⟨Nat.le_of_ble_eq_true rfl, Nat.le_of_ble_eq_true rfl⟩) (gx_preV hK hP hD hNw [0, 2] rfl (by decide +kernel) hw 0 (ci := 2) rfl rfl rfl) rfl rfl hl.1 rfl (lv_room (Nat.le_of_ble_eq_true rfl)) (nq_d dX0_thingsFor_0_g (n := 38) rfl) ⟨Nat.zero_le _, Nat.zero_le _⟩) hP hD hS hA [0, 2] [1, 3, 4, 5, 6, 7] [6, 0, 7, 1, 2, 3, 4, 5] rfl rfl (by decide) (by decide) (by decide) (fun _ => [(ag, .inr (2, [.int g_number, .ref ag_sort, .ref ag_kind, .ref ag_tip, .ref ag_marks, .ref ag_brass, .ref ag_peg, .ref ag_has])), (ag_kind, .inl (cyI, 16, .inl g_kind)), (ag_marks, .inl (cyI, 16, .inl g_marks)), (ag_peg, .inl (cyI, 16, .inl g_peg)), (ac, .inr (0, [.int c_number, .ref ac_guest, .ref ac_yes, .ref ac_no])), (ac_guest, .inl (cyI, 6, .inl c_guest)), (ac_yes, .inl (cyI, 6, .inl c_yes)), (ac_no, .inl (cyI, 6, .inl c_no))]) (fun _ => rfl) (fun r22 u H locs hw hP hD hS => ?_)
        try dsimp only at hw hP hD
        refine gx_iand hx hb (nq_d dX0_thingsFor_0_g (n := 39) rfl) hw (fun v23 hw => ?_)
        refine gx_if_ne (tgt := 74) hx hb (nq_d dX0_thingsFor_67_g (n := 0) rfl) (by decide) hw (fun hw => ?_) (fun hw => ?_)
        · exact Jj20  _ _ _ hP hD hS (lv_sub hl [0, 1, 2, 3, 4, 5] rfl) hw
        · refine lv_iconst (v := (1 : Int32)) hx hb (nq_d dX0_thingsFor_67_g (n := 1) rfl) (by decide) ?_
          refine lv_goto (tgt := 75) hx hb (nq_d dX0_thingsFor_67_g (n := 2) rfl) (by decide) ?_
          exact Jj12 (1 : Int32) _ _ _ hP hD hS (lv_sub hl [0, 1, 2, 3, 4, 5] rfl) hw
  · refine lv_iconst (v := (0 : Int32)) hx hb (nq_d dX0_thingsFor_0_g (n := 4) rfl) (by decide) ?_
    exact rt_i (A1 := A) hQ hx hb hr hlocks hP hD hS () [0, 1, 2, 3, 4, 5, 6, 7] rfl (by decide +kernel) hw (nq_d dX0_thingsFor_0_g (n := 5) rfl)
abbrev rmJ6_bitCount_0f7a4 : Room := { frames := 0, cells := 0, slots := 0, locals := 0 }
theorem cd_J6_bitCount_0f7a4 : yJ6_bitCount_0f7a4.cls = RJ6 ∧ yJ6_bitCount_0f7a4.cls ≠ "java/lang/invoke/MethodHandle" ∧ yJ6_bitCount_0f7a4.cls ≠ "java/lang/invoke/VarHandle" ∧ (parseMethodDescriptor yJ6_bitCount_0f7a4.desc).map (fun d => d.parameters.length) = some 1 := by decide +kernel
set_option maxHeartbeats 4000000 in
set_option maxRecDepth 100000 in
theorem ct_bitCount (l : Launch) (dC : Nat → ClassId) (dI : Nat → Nat → Nat) (cyB cyI cyJ cyZ : ClassId) (sz : Nat) (x1 : Int32) (Q : Int → Prop) : Met l yJ6_bitCount_0f7a4 wsJ6_bitCount_0f7a4 rmJ6_bitCount_0f7a4 (va_Pc [.int x1] (cPre (dC, dI) vwCl (tyS cyB cyI cyJ cyZ) [] sz (nf_bitCount  x1.toInt Q))) (va_Qi (fun (r : Int32) (_ : Unit) => Q r.toInt ) (cPost (dC, dI) vwCl (fun _ : Unit => []) (va_A [] sz)) (va_A [] sz)) 0 0 (va_A [] sz) := by
  refine Met.ofW (cc := cJ6_bitCount_0f7a4) (maxL := 1) (ret := (some .int)) (by decide) rfl ?_
  intro p e s m args below meth c s₁ B hml hv
  obtain ⟨rfl, hsz, hP, hK, hD0, hNw, hw⟩ := hv
  have hx := B.exec
  have hb := B.bytes
  have hr := B.returns
  have hts := atoms_spec (ws := wsJ6_bitCount_0f7a4) B.pre
  have hown : s.vm.findClass RJ6 = some m.cls := findClass_of_methodNamed B.named
  have hlocks := B.notSynchronized
  subst hsz
  have hD := hD0.self (sz := s.heap.size)
  generalize hAe : va_A [] s.heap.size = A at hD ⊢
  have hA : ∀ q : Nat, s.heap.size ≤ q → A q := fun q h => by rw [← hAe]; exact Or.inr h
  have hS : va_S A s.heap s.heap [] := va_S.rf
  have hl := lv_entry ([.int x1]) (n := 1) (Nat.le_of_ble_eq_true rfl)
  rw [lg_entry_eq]
  generalize (lg_sl ([.int x1]) ++ List.replicate (1 - (lg_sl ([.int x1])).length) Slot.unset).toArray = ls at hl ⊢
  have hl : lv_has ls 1 [(0, .int x1)] := hl
  refine gx_q (fun Q9 hQ => ?_)
  unfold nf_bitCount at hw
  refine lv_iload_n hx hb (nq_d dJ6_bitCount_0f7a4_0_g (n := 0) rfl) rfl (lv_at hl 0 rfl) ?_
  refine lv_iload_n hx hb (nq_d dJ6_bitCount_0f7a4_0_g (n := 1) rfl) rfl (lv_at hl 0 rfl) ?_
  refine lv_iconst (v := (1 : Int32)) hx hb (nq_d dJ6_bitCount_0f7a4_0_g (n := 2) rfl) (by decide) ?_
  refine gx_iushr hx hb (nq_d dJ6_bitCount_0f7a4_0_g (n := 3) rfl) hw (fun v1 hw => ?_)
  refine lv_ldcw (v := (1431655765 : Int32)) hx hb hown (hts (.constant RJ6 265 (1431655765)) (nq_m (n := 1) rfl)) (nq_d dJ6_bitCount_0f7a4_0_g (n := 4) rfl) ?_
  refine gx_iand hx hb (nq_d dJ6_bitCount_0f7a4_0_g (n := 5) rfl) hw (fun v2 hw => ?_)
  refine gx_isubW hx hb (nq_d dJ6_bitCount_0f7a4_0_g (n := 6) rfl) hw (fun v3 hw => ?_)
  refine lv_istore_n (lv' := [(0, .int v3)]) hx hb (nq_d dJ6_bitCount_0f7a4_0_g (n := 7) rfl) rfl hl (by decide) rfl (fun ls hl => ?_)
  refine lv_iload_n hx hb (nq_d dJ6_bitCount_0f7a4_0_g (n := 8) rfl) rfl (lv_at hl 0 rfl) ?_
  refine lv_ldcw (v := (858993459 : Int32)) hx hb hown (hts (.constant RJ6 266 (858993459)) (nq_m (n := 2) rfl)) (nq_d dJ6_bitCount_0f7a4_0_g (n := 9) rfl) ?_
  refine gx_iand hx hb (nq_d dJ6_bitCount_0f7a4_0_g (n := 10) rfl) hw (fun v4 hw => ?_)
  refine lv_iload_n hx hb (nq_d dJ6_bitCount_0f7a4_0_g (n := 11) rfl) rfl (lv_at hl 0 rfl) ?_
  refine lv_iconst (v := (2 : Int32)) hx hb (nq_d dJ6_bitCount_0f7a4_0_g (n := 12) rfl) (by decide) ?_
  refine gx_iushr hx hb (nq_d dJ6_bitCount_0f7a4_0_g (n := 13) rfl) hw (fun v5 hw => ?_)
  refine lv_ldcw (v := (858993459 : Int32)) hx hb hown (hts (.constant RJ6 266 (858993459)) (nq_m (n := 2) rfl)) (nq_d dJ6_bitCount_0f7a4_0_g (n := 14) rfl) ?_
  refine gx_iand hx hb (nq_d dJ6_bitCount_0f7a4_0_g (n := 15) rfl) hw (fun v6 hw => ?_)
  refine gx_iaddW hx hb (nq_d dJ6_bitCount_0f7a4_0_g (n := 16) rfl) hw (fun v7 hw => ?_)
  refine lv_istore_n (lv' := [(0, .int v7)]) hx hb (nq_d dJ6_bitCount_0f7a4_0_g (n := 17) rfl) rfl hl (by decide) rfl (fun ls hl => ?_)
  refine lv_iload_n hx hb (nq_d dJ6_bitCount_0f7a4_0_g (n := 18) rfl) rfl (lv_at hl 0 rfl) ?_
  refine lv_iload_n hx hb (nq_d dJ6_bitCount_0f7a4_0_g (n := 19) rfl) rfl (lv_at hl 0 rfl) ?_
  refine lv_iconst (v := (4 : Int32)) hx hb (nq_d dJ6_bitCount_0f7a4_0_g (n := 20) rfl) (by decide) ?_
  refine gx_iushr hx hb (nq_d dJ6_bitCount_0f7a4_0_g (n := 21) rfl) hw (fun v8 hw => ?_)
  refine gx_iaddW hx hb (nq_d dJ6_bitCount_0f7a4_0_g (n := 22) rfl) hw (fun v9 hw => ?_)
  refine lv_ldcw (v := (252645135 : Int32)) hx hb hown (hts (.constant RJ6 267 (252645135)) (nq_m (n := 3) rfl)) (nq_d dJ6_bitCount_0f7a4_0_g (n := 23) rfl) ?_
  refine gx_iand hx hb (nq_d dJ6_bitCount_0f7a4_0_g (n := 24) rfl) hw (fun v10 hw => ?_)
  refine lv_istore_n (lv' := [(0, .int v10)]) hx hb (nq_d dJ6_bitCount_0f7a4_0_g (n := 25) rfl) rfl hl (by decide) rfl (fun ls hl => ?_)
  refine lv_iload_n hx hb (nq_d dJ6_bitCount_0f7a4_0_g (n := 26) rfl) rfl (lv_at hl 0 rfl) ?_
  refine lv_iload_n hx hb (nq_d dJ6_bitCount_0f7a4_0_g (n := 27) rfl) rfl (lv_at hl 0 rfl) ?_
  refine lv_bipush (v := (8 : Int32)) hx hb (nq_d dJ6_bitCount_0f7a4_0_g (n := 28) rfl) (by decide) ?_
  refine gx_iushr hx hb (nq_d dJ6_bitCount_0f7a4_0_g (n := 29) rfl) hw (fun v11 hw => ?_)
  refine gx_iaddW hx hb (nq_d dJ6_bitCount_0f7a4_0_g (n := 30) rfl) hw (fun v12 hw => ?_)
  refine lv_istore_n (lv' := [(0, .int v12)]) hx hb (nq_d dJ6_bitCount_0f7a4_0_g (n := 31) rfl) rfl hl (by decide) rfl (fun ls hl => ?_)
  refine lv_iload_n hx hb (nq_d dJ6_bitCount_0f7a4_0_g (n := 32) rfl) rfl (lv_at hl 0 rfl) ?_
  refine lv_iload_n hx hb (nq_d dJ6_bitCount_0f7a4_0_g (n := 33) rfl) rfl (lv_at hl 0 rfl) ?_
  refine lv_bipush (v := (16 : Int32)) hx hb (nq_d dJ6_bitCount_0f7a4_0_g (n := 34) rfl) (by decide) ?_
  refine gx_iushr hx hb (nq_d dJ6_bitCount_0f7a4_0_g (n := 35) rfl) hw (fun v13 hw => ?_)
  refine gx_iaddW hx hb (nq_d dJ6_bitCount_0f7a4_0_g (n := 36) rfl) hw (fun v14 hw => ?_)
  refine lv_istore_n (lv' := [(0, .int v14)]) hx hb (nq_d dJ6_bitCount_0f7a4_0_g (n := 37) rfl) rfl hl (by decide) rfl (fun ls hl => ?_)
  refine lv_iload_n hx hb (nq_d dJ6_bitCount_0f7a4_0_g (n := 38) rfl) rfl (lv_at hl 0 rfl) ?_
  refine lv_bipush (v := (63 : Int32)) hx hb (nq_d dJ6_bitCount_0f7a4_0_g (n := 39) rfl) (by decide) ?_
  refine gx_iand hx hb (nq_d dJ6_bitCount_0f7a4_51_g (n := 0) rfl) hw (fun v15 hw => ?_)
  exact rt_i (A1 := A) hQ hx hb hr hlocks hP hD hS () [] rfl (by decide) hw (nq_d dJ6_bitCount_0f7a4_51_g (n := 1) rfl)
abbrev rmX0_howManyAgree : Room := { frames := 2, cells := 0, slots := 0, locals := 42 }
theorem cd_X0_howManyAgree : yX0_howManyAgree.cls = RX0 ∧ yX0_howManyAgree.cls ≠ "java/lang/invoke/MethodHandle" ∧ yX0_howManyAgree.cls ≠ "java/lang/invoke/VarHandle" ∧ (parseMethodDescriptor yX0_howManyAgree.desc).map (fun d => d.parameters.length) = some 4 := by decide +kernel
set_option maxHeartbeats 4000000 in
set_option maxRecDepth 100000 in
theorem ct_Claims_howManyAgree (l : Launch) (dC : Nat → ClassId) (dI : Nat → Nat → Nat) (cyB cyI cyJ cyZ : ClassId) (ag ag_sort ag_kind ag_tip ag_marks ag_brass ag_peg ag_has : Nat) (sz : Nat) (g_number : Int32) (g_marks : Nat → Int32) (x1 : Int32) (x2 : Int32) (x3 : Int32) (Q : Int → Prop) : Met l yX0_howManyAgree wsX0_howManyAgree rmX0_howManyAgree (va_Pc [.int x1, .int x2, .int x3, .ref ag] (cPre (dC, dI) vwCl (tyS cyB cyI cyJ cyZ) [(ag, .inr (2, [.int g_number, .ref ag_sort, .ref ag_kind, .ref ag_tip, .ref ag_marks, .ref ag_brass, .ref ag_peg, .ref ag_has])), (ag_marks, .inl (cyI, 16, .inl g_marks))] sz (nf_Claims_howManyAgree g_number.toInt (aI 16 g_marks) x1.toInt x2.toInt x3.toInt Q))) (va_Qi (fun (r : Int32) (_ : Unit) => Q r.toInt ) (cPost (dC, dI) vwCl (fun _ : Unit => [(ag, .inr (2, [.int g_number, .ref ag_sort, .ref ag_kind, .ref ag_tip, .ref ag_marks, .ref ag_brass, .ref ag_peg, .ref ag_has])), (ag_marks, .inl (cyI, 16, .inl g_marks))]) (va_A [(ag, .inr (2, [.int g_number, .ref ag_sort, .ref ag_kind, .ref ag_tip, .ref ag_marks, .ref ag_brass, .ref ag_peg, .ref ag_has])), (ag_marks, .inl (cyI, 16, .inl g_marks))] sz)) (va_A [(ag, .inr (2, [.int g_number, .ref ag_sort, .ref ag_kind, .ref ag_tip, .ref ag_marks, .ref ag_brass, .ref ag_peg, .ref ag_has])), (ag_marks, .inl (cyI, 16, .inl g_marks))] sz)) 0 0 (va_A [(ag, .inr (2, [.int g_number, .ref ag_sort, .ref ag_kind, .ref ag_tip, .ref ag_marks, .ref ag_brass, .ref ag_peg, .ref ag_has])), (ag_marks, .inl (cyI, 16, .inl g_marks))] sz) := by
  refine Met.ofW (cc := cX0_howManyAgree) (maxL := 6) (ret := (some .int)) (by decide) rfl ?_
  intro p e s m args below meth c s₁ B hml hv
  obtain ⟨rfl, hsz, hP, hK, hD0, hNw, hw⟩ := hv
  have hx := B.exec
  have hb := B.bytes
  have hr := B.returns
  have hts := atoms_spec (ws := wsX0_howManyAgree) B.pre
  have hown : s.vm.findClass RX0 = some m.cls := findClass_of_methodNamed B.named
  have hlocks := B.notSynchronized
  subst hsz
  have hD := hD0.self (sz := s.heap.size)
  generalize hAe : va_A [(ag, .inr (2, [.int g_number, .ref ag_sort, .ref ag_kind, .ref ag_tip, .ref ag_marks, .ref ag_brass, .ref ag_peg, .ref ag_has])), (ag_marks, .inl (cyI, 16, .inl g_marks))] s.heap.size = A at hD ⊢
  have hA : ∀ q : Nat, s.heap.size ≤ q → A q := fun q h => by rw [← hAe]; exact Or.inr h
  have hS : va_S A s.heap s.heap [] := va_S.rf
  have hl := lv_entry ([.int x1, .int x2, .int x3, .ref ag]) (n := 6) (Nat.le_of_ble_eq_true rfl)
  rw [lg_entry_eq]
  generalize (lg_sl ([.int x1, .int x2, .int x3, .ref ag]) ++ List.replicate (6 - (lg_sl ([.int x1, .int x2, .int x3, .ref ag])).length) Slot.unset).toArray = ls at hl ⊢
  have hl : lv_has ls 6 [(0, .int x1), (1, .int x2), (2, .int x3), (3, .ref ag)] := hl
  refine gx_q (fun Q9 hQ => ?_)
  unfold nf_Claims_howManyAgree at hw
  have hi_X2 : ∀ w ∈ wsX20, w ∈ wsX0_howManyAgree := (sub_c (nq_m (n := 13) rfl) (sub_c (nq_m (n := 14) rfl) (sub_c (nq_m (n := 15) rfl) (sub_c (nq_m (n := 16) rfl) (sub_c (nq_m (n := 17) rfl) (sub_c (nq_m (n := 18) rfl) (sub_c (nq_m (n := 19) rfl) (sub_c (nq_m (n := 20) rfl) sub_n))))))))
  have hf41 : (Cond.fieldLink RX0 41 "CoatsHall$Guests" (TX2 0).2.1 (TX2 0).2.2.1).before ([.int x1, .int x2, .int x3, .ref ag] : List Value).toArray s = true := hts (.fieldLink RX0 41 "CoatsHall$Guests" "number" "I") (nq_m (n := 1) rfl)
  refine lv_iconst (v := (0 : Int32)) hx hb (nq_d dX0_howManyAgree_0_g (n := 0) rfl) (by decide) ?_
  refine lv_istore (lv' := [(4, .int (0 : Int32)), (0, .int x1), (1, .int x2), (2, .int x3), (3, .ref ag)]) hx hb (nq_d dX0_howManyAgree_0_g (n := 1) rfl) hl (by decide) rfl (fun ls hl => ?_)
  refine lv_iconst (v := (0 : Int32)) hx hb (nq_d dX0_howManyAgree_0_g (n := 2) rfl) (by decide) ?_
  refine lv_istore (lv' := [(5, .int (0 : Int32)), (4, .int (0 : Int32)), (0, .int x1), (1, .int x2), (2, .int x3), (3, .ref ag)]) hx hb (nq_d dX0_howManyAgree_0_g (n := 3) rfl) hl (by decide) rfl (fun ls hl => ?_)
  refine nlp2_el hw (fun X0_12 X1_12 => ∀ (l4_1 : Int32) (l5_2 : Int32), X0_12 = l4_1.toInt → X1_12 = l5_2.toInt → ∀ (H : Heap) (locs : List Loc) (ls : Array Slot), va_P (dC, dI) vwCl [(ag, .inr (2, [.int g_number, .ref ag_sort, .ref ag_kind, .ref ag_tip, .ref ag_marks, .ref ag_brass, .ref ag_peg, .ref ag_has])), (ag_marks, .inl (cyI, 16, .inl g_marks))] H → va_D A [(ag, .inr (2, [.int g_number, .ref ag_sort, .ref ag_kind, .ref ag_tip, .ref ag_marks, .ref ag_brass, .ref ag_peg, .ref ag_has])), (ag_marks, .inl (cyI, 16, .inl g_marks))] → va_S A s.heap H locs → lv_has ls 6 [(0, .int x1), (1, .int x2), (2, .int x3), (3, .ref ag), (4, .int l4_1), (5, .int l5_2)] → W p l e (headSpec wsX0_howManyAgree rmX0_howManyAgree).room s m ([.int x1, .int x2, .int x3, .ref ag] : List Value).toArray below meth c H locs 0 0 Q9 (F0 m 6 ls [])) (fun self3 hPself3 X0_12 X1_12 hw l4_1 l5_2 eX0_12 eX1_12 H locs ls hP hD hS hl => ?_) (0 : Int32) (0 : Int32) rfl rfl _ _ _ hP hD hS (lv_sub hl [2, 3, 4, 5, 1, 0] rfl)
  subst eX0_12
  subst eX1_12
  refine lv_iload hx hb (nq_d dX0_howManyAgree_0_g (n := 4) rfl) (lv_at hl 5 rfl) ?_
  refine lv_aload_n hx hb (nq_d dX0_howManyAgree_0_g (n := 5) rfl) rfl (lv_at hl 3 rfl) ?_
  refine va_get (D := (dC, dI)) (ci := 2) (v := .int g_number) (C := RX2) (T := TX2) (N := 8) hx hb hts hi_X2 hown hK hP 0 rfl rfl 0 (by decide) hf41 (fun _ h9 => h9) rfl (nq_d dX0_howManyAgree_0_g (n := 6) rfl) ?_
  refine gx_icmp_ge (tgt := 47) hx hb (nq_d dX0_howManyAgree_0_g (n := 7) rfl) (by decide) hw (fun hw => ?_) (fun hw => ?_)
  · refine lv_iload hx hb (nq_d dX0_howManyAgree_0_g (n := 26) rfl) (lv_at hl 4 rfl) ?_
    exact rt_i (A1 := A) hQ hx hb hr hlocks hP hD hS () [0, 1] rfl (by decide +kernel) hw (nq_d dX0_howManyAgree_0_g (n := 27) rfl)
  · refine lv_iload_n hx hb (nq_d dX0_howManyAgree_0_g (n := 8) rfl) rfl (lv_at hl 0 rfl) ?_
    refine lv_iload hx hb (nq_d dX0_howManyAgree_0_g (n := 9) rfl) (lv_at hl 5 rfl) ?_
    refine gx_ishr hx hb (nq_d dX0_howManyAgree_0_g (n := 10) rfl) hw (fun v4 hw => ?_)
    refine lv_iconst (v := (1 : Int32)) hx hb (nq_d dX0_howManyAgree_0_g (n := 11) rfl) (by decide) ?_
    refine gx_iand hx hb (nq_d dX0_howManyAgree_0_g (n := 12) rfl) hw (fun v5 hw => ?_)
    refine lv_iconst (v := (1 : Int32)) hx hb (nq_d dX0_howManyAgree_0_g (n := 13) rfl) (by decide) ?_
    refine jn1_el hw (fun j7 hj7 hw => ?_)
    have Jj7 : ∀ (l4_6 : Int32) (H : Heap) (locs : List Loc) (ls : Array Slot), va_P (dC, dI) vwCl [(ag, .inr (2, [.int g_number, .ref ag_sort, .ref ag_kind, .ref ag_tip, .ref ag_marks, .ref ag_brass, .ref ag_peg, .ref ag_has])), (ag_marks, .inl (cyI, 16, .inl g_marks))] H → va_D A [(ag, .inr (2, [.int g_number, .ref ag_sort, .ref ag_kind, .ref ag_tip, .ref ag_marks, .ref ag_brass, .ref ag_peg, .ref ag_has])), (ag_marks, .inl (cyI, 16, .inl g_marks))] → va_S A s.heap H locs → lv_has ls 6 [(0, .int x1), (1, .int x2), (2, .int x3), (3, .ref ag), (4, .int l4_6), (5, .int l5_2)] → j7 l4_6.toInt → W p l e (headSpec wsX0_howManyAgree rmX0_howManyAgree).room s m ([.int x1, .int x2, .int x3, .ref ag] : List Value).toArray below meth c H locs 0 0 Q9 (F0 m 41 ls []) := by
      intro l4_6 H locs ls hP hD hS hl hw
      have hw := hj7 _ hw
      refine gx_iinc (k := 5) (z := (1 : Int32)) (lv' := fun v8 => [(5, .int v8), (0, .int x1), (1, .int x2), (2, .int x3), (3, .ref ag), (4, .int l4_6)]) hx hb (nq_d dX0_howManyAgree_0_g (n := 24) rfl) hl rfl (by decide) (by decide) (fun _ => rfl) hw (fun v8 ls hw hl => ?_)
      refine lv_goto (tgt := 6) hx hb (nq_d dX0_howManyAgree_0_g (n := 25) rfl) (by decide) ?_
      exact hPself3 _ _ hw l4_6 v8 rfl rfl _ _ _ hP hD hS (lv_sub hl [1, 2, 3, 4, 5, 0] rfl)
    refine gx_icmp_ne (tgt := 41) hx hb (nq_d dX0_howManyAgree_0_g (n := 14) rfl) (by decide) hw (fun hw => ?_) (fun hw => ?_)
    · exact Jj7 l4_1 _ _ _ hP hD hS (lv_sub hl [0, 1, 2, 3, 4, 5] rfl) hw
    · refine lv_aload_n hx hb (nq_d dX0_howManyAgree_0_g (n := 15) rfl) rfl (lv_at hl 3 rfl) ?_
      refine lv_iload hx hb (nq_d dX0_howManyAgree_0_g (n := 16) rfl) (lv_at hl 5 rfl) ?_
      refine gx_ri (wr := []) (va_runV (As := [.int l5_2]) (rest := []) ⟨hx, hb, hml, hown, hts⟩ (ct_Guests_marksOf l dC dI cyB cyI cyJ cyZ ag ag_sort ag_kind ag_tip ag_marks ag_brass ag_peg ag_has _ g_number g_marks l5_2 _) (cwV 1 hts gX0_howManyAgree_X2_marksOf rfl rfl rfl cd_X2_marksOf ⟨Nat.le_of_ble_eq_true rfl, Nat.le_of_ble_eq_true rfl⟩) (gx_preV hK hP hD hNw [0, 1] rfl (by decide +kernel) hw 0 (ci := 2) rfl rfl rfl) rfl rfl hl.1 rfl (lv_room (Nat.le_of_ble_eq_true rfl)) (nq_d dX0_howManyAgree_0_g (n := 17) rfl) ⟨Nat.zero_le _, Nat.zero_le _⟩) hP hD hS hA [0, 1] [] [0, 1] rfl rfl (by decide) (by decide) (by decide) (fun _ => [(ag, .inr (2, [.int g_number, .ref ag_sort, .ref ag_kind, .ref ag_tip, .ref ag_marks, .ref ag_brass, .ref ag_peg, .ref ag_has])), (ag_marks, .inl (cyI, 16, .inl g_marks))]) (fun _ => rfl) (fun r9 u H locs hw hP hD hS => ?_)
      try dsimp only at hw hP hD
      refine lv_iload_n hx hb (nq_d dX0_howManyAgree_0_g (n := 18) rfl) rfl (lv_at hl 1 rfl) ?_
      refine gx_ixor hx hb (nq_d dX0_howManyAgree_0_g (n := 19) rfl) hw (fun v10 hw => ?_)
      refine lv_iload_n hx hb (nq_d dX0_howManyAgree_0_g (n := 20) rfl) rfl (lv_at hl 2 rfl) ?_
      refine gx_iand hx hb (nq_d dX0_howManyAgree_0_g (n := 21) rfl) hw (fun v11 hw => ?_)
      refine gx_if_ne (tgt := 41) hx hb (nq_d dX0_howManyAgree_0_g (n := 22) rfl) (by decide) hw (fun hw => ?_) (fun hw => ?_)
      · exact Jj7 l4_1 _ _ _ hP hD hS (lv_sub hl [0, 1, 2, 3, 4, 5] rfl) hw
      · refine gx_iinc (k := 4) (z := (1 : Int32)) (lv' := fun v12 => [(4, .int v12), (0, .int x1), (1, .int x2), (2, .int x3), (3, .ref ag), (5, .int l5_2)]) hx hb (nq_d dX0_howManyAgree_0_g (n := 23) rfl) hl rfl (by decide) (by decide) (fun _ => rfl) hw (fun v12 ls hw hl => ?_)
        exact Jj7 v12 _ _ _ hP hD hS (lv_sub hl [1, 2, 3, 4, 0, 5] rfl) hw
abbrev rmX0_fewestAsked : Room := { frames := 3, cells := 0, slots := 0, locals := 68 }
theorem cd_X0_fewestAsked : yX0_fewestAsked.cls = RX0 ∧ yX0_fewestAsked.cls ≠ "java/lang/invoke/MethodHandle" ∧ yX0_fewestAsked.cls ≠ "java/lang/invoke/VarHandle" ∧ (parseMethodDescriptor yX0_fewestAsked.desc).map (fun d => d.parameters.length) = some 2 := by decide +kernel
set_option maxHeartbeats 4000000 in
set_option maxRecDepth 100000 in
theorem ct_Claims_fewestAsked (l : Launch) (dC : Nat → ClassId) (dI : Nat → Nat → Nat) (cyB cyI cyJ cyZ : ClassId) (ag ag_sort ag_kind ag_tip ag_marks ag_brass ag_peg ag_has ac ac_guest ac_yes ac_no : Nat) (sz : Nat) (g_number : Int32) (c_number : Int32) (g_kind : Nat → Int32) (g_marks : Nat → Int32) (g_peg : Nat → Int32) (c_guest : Nat → Int32) (c_yes : Nat → Int32) (c_no : Nat → Int32) (x1 : Int32) (Q : Int → Prop) : Met l yX0_fewestAsked wsX0_fewestAsked rmX0_fewestAsked (va_Pc [.ref ac, .int x1, .ref ag] (cPre (dC, dI) vwCl (tyS cyB cyI cyJ cyZ) [(ag, .inr (2, [.int g_number, .ref ag_sort, .ref ag_kind, .ref ag_tip, .ref ag_marks, .ref ag_brass, .ref ag_peg, .ref ag_has])), (ag_kind, .inl (cyI, 16, .inl g_kind)), (ag_marks, .inl (cyI, 16, .inl g_marks)), (ag_peg, .inl (cyI, 16, .inl g_peg)), (ac, .inr (0, [.int c_number, .ref ac_guest, .ref ac_yes, .ref ac_no])), (ac_guest, .inl (cyI, 6, .inl c_guest)), (ac_yes, .inl (cyI, 6, .inl c_yes)), (ac_no, .inl (cyI, 6, .inl c_no))] sz (nf_Claims_fewestAsked g_number.toInt (aI 16 g_kind) (aI 16 g_marks) (aI 16 g_peg) c_number.toInt (aI 6 c_guest) (aI 6 c_yes) (aI 6 c_no) x1.toInt Q))) (va_Qi (fun (r : Int32) (_ : Unit) => Q r.toInt ) (cPost (dC, dI) vwCl (fun _ : Unit => [(ag, .inr (2, [.int g_number, .ref ag_sort, .ref ag_kind, .ref ag_tip, .ref ag_marks, .ref ag_brass, .ref ag_peg, .ref ag_has])), (ag_kind, .inl (cyI, 16, .inl g_kind)), (ag_marks, .inl (cyI, 16, .inl g_marks)), (ag_peg, .inl (cyI, 16, .inl g_peg)), (ac, .inr (0, [.int c_number, .ref ac_guest, .ref ac_yes, .ref ac_no])), (ac_guest, .inl (cyI, 6, .inl c_guest)), (ac_yes, .inl (cyI, 6, .inl c_yes)), (ac_no, .inl (cyI, 6, .inl c_no))]) (va_A [(ag, .inr (2, [.int g_number, .ref ag_sort, .ref ag_kind, .ref ag_tip, .ref ag_marks, .ref ag_brass, .ref ag_peg, .ref ag_has])), (ag_kind, .inl (cyI, 16, .inl g_kind)), (ag_marks, .inl (cyI, 16, .inl g_marks)), (ag_peg, .inl (cyI, 16, .inl g_peg)), (ac, .inr (0, [.int c_number, .ref ac_guest, .ref ac_yes, .ref ac_no])), (ac_guest, .inl (cyI, 6, .inl c_guest)), (ac_yes, .inl (cyI, 6, .inl c_yes)), (ac_no, .inl (cyI, 6, .inl c_no))] sz)) (va_A [(ag, .inr (2, [.int g_number, .ref ag_sort, .ref ag_kind, .ref ag_tip, .ref ag_marks, .ref ag_brass, .ref ag_peg, .ref ag_has])), (ag_kind, .inl (cyI, 16, .inl g_kind)), (ag_marks, .inl (cyI, 16, .inl g_marks)), (ag_peg, .inl (cyI, 16, .inl g_peg)), (ac, .inr (0, [.int c_number, .ref ac_guest, .ref ac_yes, .ref ac_no])), (ac_guest, .inl (cyI, 6, .inl c_guest)), (ac_yes, .inl (cyI, 6, .inl c_yes)), (ac_no, .inl (cyI, 6, .inl c_no))] sz)) 0 0 (va_A [(ag, .inr (2, [.int g_number, .ref ag_sort, .ref ag_kind, .ref ag_tip, .ref ag_marks, .ref ag_brass, .ref ag_peg, .ref ag_has])), (ag_kind, .inl (cyI, 16, .inl g_kind)), (ag_marks, .inl (cyI, 16, .inl g_marks)), (ag_peg, .inl (cyI, 16, .inl g_peg)), (ac, .inr (0, [.int c_number, .ref ac_guest, .ref ac_yes, .ref ac_no])), (ac_guest, .inl (cyI, 6, .inl c_guest)), (ac_yes, .inl (cyI, 6, .inl c_yes)), (ac_no, .inl (cyI, 6, .inl c_no))] sz) := by
  refine Met.ofW (cc := cX0_fewestAsked) (maxL := 8) (ret := (some .int)) (by decide) rfl ?_
  intro p e s m args below meth c s₁ B hml hv
  obtain ⟨rfl, hsz, hP, hK, hD0, hNw, hw⟩ := hv
  have hx := B.exec
  have hb := B.bytes
  have hr := B.returns
  have hts := atoms_spec (ws := wsX0_fewestAsked) B.pre
  have hown : s.vm.findClass RX0 = some m.cls := findClass_of_methodNamed B.named
  have hlocks := B.notSynchronized
  subst hsz
  have hD := hD0.self (sz := s.heap.size)
  generalize hAe : va_A [(ag, .inr (2, [.int g_number, .ref ag_sort, .ref ag_kind, .ref ag_tip, .ref ag_marks, .ref ag_brass, .ref ag_peg, .ref ag_has])), (ag_kind, .inl (cyI, 16, .inl g_kind)), (ag_marks, .inl (cyI, 16, .inl g_marks)), (ag_peg, .inl (cyI, 16, .inl g_peg)), (ac, .inr (0, [.int c_number, .ref ac_guest, .ref ac_yes, .ref ac_no])), (ac_guest, .inl (cyI, 6, .inl c_guest)), (ac_yes, .inl (cyI, 6, .inl c_yes)), (ac_no, .inl (cyI, 6, .inl c_no))] s.heap.size = A at hD ⊢
  have hA : ∀ q : Nat, s.heap.size ≤ q → A q := fun q h => by rw [← hAe]; exact Or.inr h
  have hS : va_S A s.heap s.heap [] := va_S.rf
  have hl := lv_entry ([.ref ac, .int x1, .ref ag]) (n := 8) (Nat.le_of_ble_eq_true rfl)
  rw [lg_entry_eq]
  generalize (lg_sl ([.ref ac, .int x1, .ref ag]) ++ List.replicate (8 - (lg_sl ([.ref ac, .int x1, .ref ag])).length) Slot.unset).toArray = ls at hl ⊢
  have hl : lv_has ls 8 [(0, .ref ac), (1, .int x1), (2, .ref ag)] := hl
  refine gx_q (fun Q9 hQ => ?_)
  unfold nf_Claims_fewestAsked at hw
  refine lv_aload_n hx hb (nq_d dX0_fewestAsked_0_g (n := 0) rfl) rfl (lv_at hl 0 rfl) ?_
  refine lv_iload_n hx hb (nq_d dX0_fewestAsked_0_g (n := 1) rfl) rfl (lv_at hl 1 rfl) ?_
  refine lv_aload_n hx hb (nq_d dX0_fewestAsked_0_g (n := 2) rfl) rfl (lv_at hl 2 rfl) ?_
  refine gx_ri (wr := []) (va_runV (As := [.int x1, .ref ag]) (rest := []) ⟨hx, hb, hml, hown, hts⟩ (ct_Claims_thingsFor l dC dI cyB cyI cyJ cyZ ag ag_sort ag_kind ag_tip ag_marks ag_brass ag_peg ag_has ac ac_guest ac_yes ac_no _ g_number c_number g_kind g_marks g_peg c_guest c_yes c_no x1 _) (cwV 2 hts gX0_fewestAsked_X0_thingsFor rfl rfl rfl cd_X0_thingsFor ⟨Nat.le_of_ble_eq_true rfl, Nat.le_of_ble_eq_true rfl⟩) (gx_preV hK hP hD hNw [0, 1, 2, 3, 4, 5, 6, 7] rfl (by decide +kernel) hw 4 (ci := 0) rfl rfl rfl) rfl rfl hl.1 rfl (lv_room (Nat.le_of_ble_eq_true rfl)) (nq_d dX0_fewestAsked_0_g (n := 3) rfl) ⟨Nat.zero_le _, Nat.zero_le _⟩) hP hD hS hA [0, 1, 2, 3, 4, 5, 6, 7] [] [0, 1, 2, 3, 4, 5, 6, 7] rfl rfl (by decide) (by decide) (by decide) (fun _ => [(ag, .inr (2, [.int g_number, .ref ag_sort, .ref ag_kind, .ref ag_tip, .ref ag_marks, .ref ag_brass, .ref ag_peg, .ref ag_has])), (ag_kind, .inl (cyI, 16, .inl g_kind)), (ag_marks, .inl (cyI, 16, .inl g_marks)), (ag_peg, .inl (cyI, 16, .inl g_peg)), (ac, .inr (0, [.int c_number, .ref ac_guest, .ref ac_yes, .ref ac_no])), (ac_guest, .inl (cyI, 6, .inl c_guest)), (ac_yes, .inl (cyI, 6, .inl c_yes)), (ac_no, .inl (cyI, 6, .inl c_no))]) (fun _ => rfl) (fun r1 u H locs hw hP hD hS => ?_)
  try dsimp only at hw hP hD
  refine lv_istore_n (lv' := [(3, .int r1), (0, .ref ac), (1, .int x1), (2, .ref ag)]) hx hb (nq_d dX0_fewestAsked_0_g (n := 4) rfl) rfl hl (by decide) rfl (fun ls hl => ?_)
  refine lv_aload_n hx hb (nq_d dX0_fewestAsked_0_g (n := 5) rfl) rfl (lv_at hl 3 rfl) ?_
  refine lv_aload_n hx hb (nq_d dX0_fewestAsked_0_g (n := 6) rfl) rfl (lv_at hl 1 rfl) ?_
  refine lv_iload_n hx hb (nq_d dX0_fewestAsked_0_g (n := 7) rfl) rfl (lv_at hl 2 rfl) ?_
  refine gx_ri (wr := [(ag, .inr (2, [.int g_number, .ref ag_sort, .ref ag_kind, .ref ag_tip, .ref ag_marks, .ref ag_brass, .ref ag_peg, .ref ag_has])), (ag_kind, .inl (cyI, 16, .inl g_kind)), (ag_marks, .inl (cyI, 16, .inl g_marks)), (ag_peg, .inl (cyI, 16, .inl g_peg)), (ac_yes, .inl (cyI, 6, .inl c_yes)), (ac_no, .inl (cyI, 6, .inl c_no))]) (va_runV (As := [.int x1]) (rest := [.ref ag]) ⟨hx, hb, hml, hown, hts⟩ (ct_Claims_guestOf l dC dI cyB cyI cyJ cyZ ac ac_guest ac_yes ac_no _ c_number c_guest x1 _) (cwV 1 hts gX0_fewestAsked_X0_guestOf rfl rfl rfl cd_X0_guestOf ⟨Nat.le_of_ble_eq_true rfl, Nat.le_of_ble_eq_true rfl⟩) (gx_preV hK hP hD hNw [4, 5] rfl (by decide +kernel) hw 4 (ci := 0) rfl rfl rfl) rfl rfl hl.1 rfl (lv_room (Nat.le_of_ble_eq_true rfl)) (nq_d dX0_fewestAsked_0_g (n := 8) rfl) ⟨Nat.zero_le _, Nat.zero_le _⟩) hP hD hS hA [4, 5] [0, 1, 2, 3, 6, 7] [0, 1, 2, 3, 6, 7, 4, 5] rfl rfl (by decide) (by decide) (by decide) (fun _ => [(ag, .inr (2, [.int g_number, .ref ag_sort, .ref ag_kind, .ref ag_tip, .ref ag_marks, .ref ag_brass, .ref ag_peg, .ref ag_has])), (ag_kind, .inl (cyI, 16, .inl g_kind)), (ag_marks, .inl (cyI, 16, .inl g_marks)), (ag_peg, .inl (cyI, 16, .inl g_peg)), (ac, .inr (0, [.int c_number, .ref ac_guest, .ref ac_yes, .ref ac_no])), (ac_guest, .inl (cyI, 6, .inl c_guest)), (ac_yes, .inl (cyI, 6, .inl c_yes)), (ac_no, .inl (cyI, 6, .inl c_no))]) (fun _ => rfl) (fun r2 u H locs hw hP hD hS => ?_)
  try dsimp only at hw hP hD
  refine gx_ri (wr := [(ag_kind, .inl (cyI, 16, .inl g_kind)), (ag_peg, .inl (cyI, 16, .inl g_peg)), (ac, .inr (0, [.int c_number, .ref ac_guest, .ref ac_yes, .ref ac_no])), (ac_guest, .inl (cyI, 6, .inl c_guest)), (ac_yes, .inl (cyI, 6, .inl c_yes)), (ac_no, .inl (cyI, 6, .inl c_no))]) (va_runV (As := [.int r2]) (rest := []) ⟨hx, hb, hml, hown, hts⟩ (ct_Guests_marksOf l dC dI cyB cyI cyJ cyZ ag ag_sort ag_kind ag_tip ag_marks ag_brass ag_peg ag_has _ g_number g_marks r2 _) (cwV 1 hts gX0_fewestAsked_X2_marksOf rfl rfl rfl cd_X2_marksOf ⟨Nat.le_of_ble_eq_true rfl, Nat.le_of_ble_eq_true rfl⟩) (gx_preV hK hP hD hNw [0, 2] rfl (by decide +kernel) hw 0 (ci := 2) rfl rfl rfl) rfl rfl hl.1 rfl (lv_room (Nat.le_of_ble_eq_true rfl)) (nq_d dX0_fewestAsked_0_g (n := 9) rfl) ⟨Nat.zero_le _, Nat.zero_le _⟩) hP hD hS hA [0, 2] [1, 3, 4, 5, 6, 7] [6, 0, 7, 1, 2, 3, 4, 5] rfl rfl (by decide) (by decide) (by decide) (fun _ => [(ag, .inr (2, [.int g_number, .ref ag_sort, .ref ag_kind, .ref ag_tip, .ref ag_marks, .ref ag_brass, .ref ag_peg, .ref ag_has])), (ag_kind, .inl (cyI, 16, .inl g_kind)), (ag_marks, .inl (cyI, 16, .inl g_marks)), (ag_peg, .inl (cyI, 16, .inl g_peg)), (ac, .inr (0, [.int c_number, .ref ac_guest, .ref ac_yes, .ref ac_no])), (ac_guest, .inl (cyI, 6, .inl c_guest)), (ac_yes, .inl (cyI, 6, .inl c_yes)), (ac_no, .inl (cyI, 6, .inl c_no))]) (fun _ => rfl) (fun r3 u H locs hw hP hD hS => ?_)
  try dsimp only at hw hP hD
  refine lv_istore (lv' := [(4, .int r3), (3, .int r1), (0, .ref ac), (1, .int x1), (2, .ref ag)]) hx hb (nq_d dX0_fewestAsked_0_g (n := 10) rfl) hl (by decide) rfl (fun ls hl => ?_)
  refine lv_iconst (v := ((-1) : Int32)) hx hb (nq_d dX0_fewestAsked_0_g (n := 11) rfl) (by decide) ?_
  refine lv_istore (lv' := [(5, .int ((-1) : Int32)), (4, .int r3), (3, .int r1), (0, .ref ac), (1, .int x1), (2, .ref ag)]) hx hb (nq_d dX0_fewestAsked_0_g (n := 12) rfl) hl (by decide) rfl (fun ls hl => ?_)
  refine lv_iconst (v := (0 : Int32)) hx hb (nq_d dX0_fewestAsked_0_g (n := 13) rfl) (by decide) ?_
  refine lv_istore (lv' := [(6, .int (0 : Int32)), (5, .int ((-1) : Int32)), (4, .int r3), (3, .int r1), (0, .ref ac), (1, .int x1), (2, .ref ag)]) hx hb (nq_d dX0_fewestAsked_0_g (n := 14) rfl) hl (by decide) rfl (fun ls hl => ?_)
  refine nlp2_el hw (fun X0_15 X1_15 => ∀ (l5_4 : Int32) (l6_5 : Int32), X0_15 = l5_4.toInt → X1_15 = l6_5.toInt → ∀ (H : Heap) (locs : List Loc) (ls : Array Slot), va_P (dC, dI) vwCl [(ag, .inr (2, [.int g_number, .ref ag_sort, .ref ag_kind, .ref ag_tip, .ref ag_marks, .ref ag_brass, .ref ag_peg, .ref ag_has])), (ag_kind, .inl (cyI, 16, .inl g_kind)), (ag_marks, .inl (cyI, 16, .inl g_marks)), (ag_peg, .inl (cyI, 16, .inl g_peg)), (ac, .inr (0, [.int c_number, .ref ac_guest, .ref ac_yes, .ref ac_no])), (ac_guest, .inl (cyI, 6, .inl c_guest)), (ac_yes, .inl (cyI, 6, .inl c_yes)), (ac_no, .inl (cyI, 6, .inl c_no))] H → va_D A [(ag, .inr (2, [.int g_number, .ref ag_sort, .ref ag_kind, .ref ag_tip, .ref ag_marks, .ref ag_brass, .ref ag_peg, .ref ag_has])), (ag_kind, .inl (cyI, 16, .inl g_kind)), (ag_marks, .inl (cyI, 16, .inl g_marks)), (ag_peg, .inl (cyI, 16, .inl g_peg)), (ac, .inr (0, [.int c_number, .ref ac_guest, .ref ac_yes, .ref ac_no])), (ac_guest, .inl (cyI, 6, .inl c_guest)), (ac_yes, .inl (cyI, 6, .inl c_yes)), (ac_no, .inl (cyI, 6, .inl c_no))] → va_S A s.heap H locs → lv_has ls 8 [(2, .ref ag), (3, .int r1), (4, .int r3), (5, .int l5_4), (6, .int l6_5)] → W p l e (headSpec wsX0_fewestAsked rmX0_fewestAsked).room s m ([.ref ac, .int x1, .ref ag] : List Value).toArray below meth c H locs 0 0 Q9 (F0 m 24 ls [])) (fun self6 hPself6 X0_15 X1_15 hw l5_4 l6_5 eX0_15 eX1_15 H locs ls hP hD hS hl => ?_) ((-1) : Int32) (0 : Int32) rfl rfl _ _ _ hP hD hS (lv_sub hl [6, 3, 2, 1, 0] rfl)
  subst eX0_15
  subst eX1_15
  refine lv_iload hx hb (nq_d dX0_fewestAsked_0_g (n := 15) rfl) (lv_at hl 4 rfl) ?_
  refine lv_sipush (v := (255 : Int32)) hx hb (nq_d dX0_fewestAsked_0_g (n := 16) rfl) (by decide) ?_
  refine gx_icmp_gt (tgt := 86) hx hb (nq_d dX0_fewestAsked_0_g (n := 17) rfl) (by decide) hw (fun hw => ?_) (fun hw => ?_)
  · refine lv_iload hx hb (nq_d dX0_fewestAsked_78_g (n := 3) rfl) (lv_at hl 3 rfl) ?_
    exact rt_i (A1 := A) hQ hx hb hr hlocks hP hD hS () [0, 1, 2, 3, 4, 5, 6, 7] rfl (by decide +kernel) hw (nq_d dX0_fewestAsked_78_g (n := 4) rfl)
  · refine lv_iload hx hb (nq_d dX0_fewestAsked_0_g (n := 18) rfl) (lv_at hl 3 rfl) ?_
    refine lv_iconst (v := ((-1) : Int32)) hx hb (nq_d dX0_fewestAsked_0_g (n := 19) rfl) (by decide) ?_
    refine jn1_el hw (fun j8 hj8 hw => ?_)
    have Jj8 : ∀ (t7 : Int32) (H : Heap) (locs : List Loc) (ls : Array Slot), va_P (dC, dI) vwCl [(ag, .inr (2, [.int g_number, .ref ag_sort, .ref ag_kind, .ref ag_tip, .ref ag_marks, .ref ag_brass, .ref ag_peg, .ref ag_has])), (ag_kind, .inl (cyI, 16, .inl g_kind)), (ag_marks, .inl (cyI, 16, .inl g_marks)), (ag_peg, .inl (cyI, 16, .inl g_peg)), (ac, .inr (0, [.int c_number, .ref ac_guest, .ref ac_yes, .ref ac_no])), (ac_guest, .inl (cyI, 6, .inl c_guest)), (ac_yes, .inl (cyI, 6, .inl c_yes)), (ac_no, .inl (cyI, 6, .inl c_no))] H → va_D A [(ag, .inr (2, [.int g_number, .ref ag_sort, .ref ag_kind, .ref ag_tip, .ref ag_marks, .ref ag_brass, .ref ag_peg, .ref ag_has])), (ag_kind, .inl (cyI, 16, .inl g_kind)), (ag_marks, .inl (cyI, 16, .inl g_marks)), (ag_peg, .inl (cyI, 16, .inl g_peg)), (ac, .inr (0, [.int c_number, .ref ac_guest, .ref ac_yes, .ref ac_no])), (ac_guest, .inl (cyI, 6, .inl c_guest)), (ac_yes, .inl (cyI, 6, .inl c_yes)), (ac_no, .inl (cyI, 6, .inl c_no))] → va_S A s.heap H locs → lv_has ls 8 [(2, .ref ag), (3, .int r1), (4, .int r3), (5, .int l5_4), (6, .int l6_5)] → j8 t7.toInt → W p l e (headSpec wsX0_fewestAsked rmX0_fewestAsked).room s m ([.ref ac, .int x1, .ref ag] : List Value).toArray below meth c H locs 0 0 Q9 (F0 m 56 ls [.int t7]) := by
      intro t7 H locs ls hP hD hS hl hw
      have hw := hj8 _ hw
      refine lv_istore (lv' := [(7, .int t7), (2, .ref ag), (3, .int r1), (4, .int r3), (5, .int l5_4), (6, .int l6_5)]) hx hb (nq_d dX0_fewestAsked_0_g (n := 29) rfl) hl (by decide) rfl (fun ls hl => ?_)
      refine lv_iload hx hb (nq_d dX0_fewestAsked_0_g (n := 30) rfl) (lv_at hl 0 rfl) ?_
      refine jn1_el hw (fun j10 hj10 hw => ?_)
      have Jj10 : ∀ (l5_9 : Int32) (H : Heap) (locs : List Loc) (ls : Array Slot), va_P (dC, dI) vwCl [(ag, .inr (2, [.int g_number, .ref ag_sort, .ref ag_kind, .ref ag_tip, .ref ag_marks, .ref ag_brass, .ref ag_peg, .ref ag_has])), (ag_kind, .inl (cyI, 16, .inl g_kind)), (ag_marks, .inl (cyI, 16, .inl g_marks)), (ag_peg, .inl (cyI, 16, .inl g_peg)), (ac, .inr (0, [.int c_number, .ref ac_guest, .ref ac_yes, .ref ac_no])), (ac_guest, .inl (cyI, 6, .inl c_guest)), (ac_yes, .inl (cyI, 6, .inl c_yes)), (ac_no, .inl (cyI, 6, .inl c_no))] H → va_D A [(ag, .inr (2, [.int g_number, .ref ag_sort, .ref ag_kind, .ref ag_tip, .ref ag_marks, .ref ag_brass, .ref ag_peg, .ref ag_has])), (ag_kind, .inl (cyI, 16, .inl g_kind)), (ag_marks, .inl (cyI, 16, .inl g_marks)), (ag_peg, .inl (cyI, 16, .inl g_peg)), (ac, .inr (0, [.int c_number, .ref ac_guest, .ref ac_yes, .ref ac_no])), (ac_guest, .inl (cyI, 6, .inl c_guest)), (ac_yes, .inl (cyI, 6, .inl c_yes)), (ac_no, .inl (cyI, 6, .inl c_no))] → va_S A s.heap H locs → lv_has ls 8 [(2, .ref ag), (3, .int r1), (4, .int r3), (5, .int l5_9), (6, .int l6_5)] → j10 l5_9.toInt → W p l e (headSpec wsX0_fewestAsked rmX0_fewestAsked).room s m ([.ref ac, .int x1, .ref ag] : List Value).toArray below meth c H locs 0 0 Q9 (F0 m 80 ls []) := by
        intro l5_9 H locs ls hP hD hS hl hw
        have hw := hj10 _ hw
        refine gx_iinc (k := 4) (z := (1 : Int32)) (lv' := fun v11 => [(6, .int v11), (2, .ref ag), (3, .int r1), (4, .int r3), (5, .int l5_9)]) hx hb (nq_d dX0_fewestAsked_78_g (n := 1) rfl) hl rfl (by decide) (by decide) (fun _ => rfl) hw (fun v11 ls hw hl => ?_)
        refine lv_goto (tgt := 24) hx hb (nq_d dX0_fewestAsked_78_g (n := 2) rfl) (by decide) ?_
        exact hPself6 _ _ hw l5_9 v11 rfl rfl _ _ _ hP hD hS (lv_sub hl [1, 2, 3, 4, 0] rfl)
      refine gx_if_eq (tgt := 80) hx hb (nq_d dX0_fewestAsked_0_g (n := 31) rfl) (by decide) hw (fun hw => ?_) (fun hw => ?_)
      · exact Jj10 l5_4 _ _ _ hP hD hS (lv_sub hl [1, 2, 3, 4, 5] rfl) hw
      · refine lv_iload_n hx hb (nq_d dX0_fewestAsked_0_g (n := 32) rfl) rfl (lv_at hl 2 rfl) ?_
        refine lv_iload hx hb (nq_d dX0_fewestAsked_0_g (n := 33) rfl) (lv_at hl 3 rfl) ?_
        refine lv_iload hx hb (nq_d dX0_fewestAsked_0_g (n := 34) rfl) (lv_at hl 5 rfl) ?_
        refine lv_aload_n hx hb (nq_d dX0_fewestAsked_0_g (n := 35) rfl) rfl (lv_at hl 1 rfl) ?_
        refine gx_ri (wr := [(ag_kind, .inl (cyI, 16, .inl g_kind)), (ag_peg, .inl (cyI, 16, .inl g_peg)), (ac, .inr (0, [.int c_number, .ref ac_guest, .ref ac_yes, .ref ac_no])), (ac_guest, .inl (cyI, 6, .inl c_guest)), (ac_yes, .inl (cyI, 6, .inl c_yes)), (ac_no, .inl (cyI, 6, .inl c_no))]) (va_runS (As := [.int r1, .int r3, .int l6_5, .ref ag]) (rest := []) ⟨hx, hb, hml, hown, hts⟩ (ct_Claims_howManyAgree l dC dI cyB cyI cyJ cyZ ag ag_sort ag_kind ag_tip ag_marks ag_brass ag_peg ag_has _ g_number g_marks r1 r3 l6_5 _) (va_cwS 4 hts gX0_fewestAsked_X0_howManyAgree rfl rfl rfl cd_X0_howManyAgree.2 ⟨Nat.le_of_ble_eq_true rfl, Nat.le_of_ble_eq_true rfl⟩) (gx_preS hK hP hD hNw [0, 2] rfl (by decide +kernel) hw) rfl rfl hl.1 rfl (lv_room (Nat.le_of_ble_eq_true rfl)) (nq_d dX0_fewestAsked_0_g (n := 36) rfl) ⟨Nat.zero_le _, Nat.zero_le _⟩) hP hD hS hA [0, 2] [1, 3, 4, 5, 6, 7] [6, 0, 7, 1, 2, 3, 4, 5] rfl rfl (by decide) (by decide) (by decide) (fun _ => [(ag, .inr (2, [.int g_number, .ref ag_sort, .ref ag_kind, .ref ag_tip, .ref ag_marks, .ref ag_brass, .ref ag_peg, .ref ag_has])), (ag_kind, .inl (cyI, 16, .inl g_kind)), (ag_marks, .inl (cyI, 16, .inl g_marks)), (ag_peg, .inl (cyI, 16, .inl g_peg)), (ac, .inr (0, [.int c_number, .ref ac_guest, .ref ac_yes, .ref ac_no])), (ac_guest, .inl (cyI, 6, .inl c_guest)), (ac_yes, .inl (cyI, 6, .inl c_yes)), (ac_no, .inl (cyI, 6, .inl c_no))]) (fun _ => rfl) (fun r12 u H locs hw hP hD hS => ?_)
        try dsimp only at hw hP hD
        refine lv_iconst (v := (1 : Int32)) hx hb (nq_d dX0_fewestAsked_0_g (n := 37) rfl) (by decide) ?_
        refine gx_icmp_ne (tgt := 80) hx hb (nq_d dX0_fewestAsked_0_g (n := 38) rfl) (by decide) hw (fun hw => ?_) (fun hw => ?_)
        · exact Jj10 l5_4 _ _ _ hP hD hS (lv_sub hl [1, 2, 3, 4, 5] rfl) hw
        · refine lv_iload hx hb (nq_d dX0_fewestAsked_0_g (n := 39) rfl) (lv_at hl 5 rfl) ?_
          refine lv_istore (lv' := [(5, .int l6_5), (7, .int t7), (2, .ref ag), (3, .int r1), (4, .int r3), (6, .int l6_5)]) hx hb (nq_d dX0_fewestAsked_78_g (n := 0) rfl) hl (by decide) rfl (fun ls hl => ?_)
          exact Jj10 l6_5 _ _ _ hP hD hS (lv_sub hl [2, 3, 4, 0, 5] rfl) hw
    refine jn0_el hw (fun j13 hj13 hw => ?_)
    have Jj13 : ∀  (H : Heap) (locs : List Loc) (ls : Array Slot), va_P (dC, dI) vwCl [(ag, .inr (2, [.int g_number, .ref ag_sort, .ref ag_kind, .ref ag_tip, .ref ag_marks, .ref ag_brass, .ref ag_peg, .ref ag_has])), (ag_kind, .inl (cyI, 16, .inl g_kind)), (ag_marks, .inl (cyI, 16, .inl g_marks)), (ag_peg, .inl (cyI, 16, .inl g_peg)), (ac, .inr (0, [.int c_number, .ref ac_guest, .ref ac_yes, .ref ac_no])), (ac_guest, .inl (cyI, 6, .inl c_guest)), (ac_yes, .inl (cyI, 6, .inl c_yes)), (ac_no, .inl (cyI, 6, .inl c_no))] H → va_D A [(ag, .inr (2, [.int g_number, .ref ag_sort, .ref ag_kind, .ref ag_tip, .ref ag_marks, .ref ag_brass, .ref ag_peg, .ref ag_has])), (ag_kind, .inl (cyI, 16, .inl g_kind)), (ag_marks, .inl (cyI, 16, .inl g_marks)), (ag_peg, .inl (cyI, 16, .inl g_peg)), (ac, .inr (0, [.int c_number, .ref ac_guest, .ref ac_yes, .ref ac_no])), (ac_guest, .inl (cyI, 6, .inl c_guest)), (ac_yes, .inl (cyI, 6, .inl c_yes)), (ac_no, .inl (cyI, 6, .inl c_no))] → va_S A s.heap H locs → lv_has ls 8 [(2, .ref ag), (3, .int r1), (4, .int r3), (5, .int l5_4), (6, .int l6_5)] → j13  → W p l e (headSpec wsX0_fewestAsked rmX0_fewestAsked).room s m ([.ref ac, .int x1, .ref ag] : List Value).toArray below meth c H locs 0 0 Q9 (F0 m 51 ls []) := by
      intro  H locs ls hP hD hS hl hw
      have hw := hj13  hw
      refine lv_iconst (v := (1 : Int32)) hx hb (nq_d dX0_fewestAsked_0_g (n := 26) rfl) (by decide) ?_
      refine lv_goto (tgt := 56) hx hb (nq_d dX0_fewestAsked_0_g (n := 27) rfl) (by decide) ?_
      exact Jj8 (1 : Int32) _ _ _ hP hD hS (lv_sub hl [0, 1, 2, 3, 4] rfl) hw
    refine gx_icmp_eq (tgt := 51) hx hb (nq_d dX0_fewestAsked_0_g (n := 20) rfl) (by decide) hw (fun hw => ?_) (fun hw => ?_)
    · exact Jj13  _ _ _ hP hD hS (lv_sub hl [0, 1, 2, 3, 4] rfl) hw
    · refine lv_iload hx hb (nq_d dX0_fewestAsked_0_g (n := 21) rfl) (lv_at hl 4 rfl) ?_
      refine gx_ri (wr := [(ag, .inr (2, [.int g_number, .ref ag_sort, .ref ag_kind, .ref ag_tip, .ref ag_marks, .ref ag_brass, .ref ag_peg, .ref ag_has])), (ag_kind, .inl (cyI, 16, .inl g_kind)), (ag_marks, .inl (cyI, 16, .inl g_marks)), (ag_peg, .inl (cyI, 16, .inl g_peg)), (ac, .inr (0, [.int c_number, .ref ac_guest, .ref ac_yes, .ref ac_no])), (ac_guest, .inl (cyI, 6, .inl c_guest)), (ac_yes, .inl (cyI, 6, .inl c_yes)), (ac_no, .inl (cyI, 6, .inl c_no))]) (va_runS (As := [.int l6_5]) (rest := []) ⟨hx, hb, hml, hown, hts⟩ (ct_bitCount l dC dI cyB cyI cyJ cyZ  _ l6_5 _) (va_cwS 1 hts gX0_fewestAsked_J6_bitCount_0f7a4 rfl rfl rfl cd_J6_bitCount_0f7a4.2 ⟨Nat.le_of_ble_eq_true rfl, Nat.le_of_ble_eq_true rfl⟩) (gx_preS hK hP hD hNw [] rfl (by decide) hw) rfl rfl hl.1 rfl (lv_room (Nat.le_of_ble_eq_true rfl)) (nq_d dX0_fewestAsked_0_g (n := 22) rfl) ⟨Nat.zero_le _, Nat.zero_le _⟩) hP hD hS hA [] [0, 1, 2, 3, 4, 5, 6, 7] [0, 1, 2, 3, 4, 5, 6, 7] rfl rfl (by decide) (by decide) (by decide) (fun _ => [(ag, .inr (2, [.int g_number, .ref ag_sort, .ref ag_kind, .ref ag_tip, .ref ag_marks, .ref ag_brass, .ref ag_peg, .ref ag_has])), (ag_kind, .inl (cyI, 16, .inl g_kind)), (ag_marks, .inl (cyI, 16, .inl g_marks)), (ag_peg, .inl (cyI, 16, .inl g_peg)), (ac, .inr (0, [.int c_number, .ref ac_guest, .ref ac_yes, .ref ac_no])), (ac_guest, .inl (cyI, 6, .inl c_guest)), (ac_yes, .inl (cyI, 6, .inl c_yes)), (ac_no, .inl (cyI, 6, .inl c_no))]) (fun _ => rfl) (fun r14 u H locs hw hP hD hS => ?_)
      try dsimp only at hw hP hD
      refine lv_iload hx hb (nq_d dX0_fewestAsked_0_g (n := 23) rfl) (lv_at hl 3 rfl) ?_
      refine gx_ri (wr := [(ag, .inr (2, [.int g_number, .ref ag_sort, .ref ag_kind, .ref ag_tip, .ref ag_marks, .ref ag_brass, .ref ag_peg, .ref ag_has])), (ag_kind, .inl (cyI, 16, .inl g_kind)), (ag_marks, .inl (cyI, 16, .inl g_marks)), (ag_peg, .inl (cyI, 16, .inl g_peg)), (ac, .inr (0, [.int c_number, .ref ac_guest, .ref ac_yes, .ref ac_no])), (ac_guest, .inl (cyI, 6, .inl c_guest)), (ac_yes, .inl (cyI, 6, .inl c_yes)), (ac_no, .inl (cyI, 6, .inl c_no))]) (va_runS (As := [.int l5_4]) (rest := [.int r14]) ⟨hx, hb, hml, hown, hts⟩ (ct_bitCount l dC dI cyB cyI cyJ cyZ  _ l5_4 _) (va_cwS 1 hts gX0_fewestAsked_J6_bitCount_0f7a4 rfl rfl rfl cd_J6_bitCount_0f7a4.2 ⟨Nat.le_of_ble_eq_true rfl, Nat.le_of_ble_eq_true rfl⟩) (gx_preS hK hP hD hNw [] rfl (by decide) hw) rfl rfl hl.1 rfl (lv_room (Nat.le_of_ble_eq_true rfl)) (nq_d dX0_fewestAsked_0_g (n := 24) rfl) ⟨Nat.zero_le _, Nat.zero_le _⟩) hP hD hS hA [] [0, 1, 2, 3, 4, 5, 6, 7] [0, 1, 2, 3, 4, 5, 6, 7] rfl rfl (by decide) (by decide) (by decide) (fun _ => [(ag, .inr (2, [.int g_number, .ref ag_sort, .ref ag_kind, .ref ag_tip, .ref ag_marks, .ref ag_brass, .ref ag_peg, .ref ag_has])), (ag_kind, .inl (cyI, 16, .inl g_kind)), (ag_marks, .inl (cyI, 16, .inl g_marks)), (ag_peg, .inl (cyI, 16, .inl g_peg)), (ac, .inr (0, [.int c_number, .ref ac_guest, .ref ac_yes, .ref ac_no])), (ac_guest, .inl (cyI, 6, .inl c_guest)), (ac_yes, .inl (cyI, 6, .inl c_yes)), (ac_no, .inl (cyI, 6, .inl c_no))]) (fun _ => rfl) (fun r15 u H locs hw hP hD hS => ?_)
      try dsimp only at hw hP hD
      refine gx_icmp_ge (tgt := 55) hx hb (nq_d dX0_fewestAsked_0_g (n := 25) rfl) (by decide) hw (fun hw => ?_) (fun hw => ?_)
      · refine lv_iconst (v := (0 : Int32)) hx hb (nq_d dX0_fewestAsked_0_g (n := 28) rfl) (by decide) ?_
        exact Jj8 (0 : Int32) _ _ _ hP hD hS (lv_sub hl [0, 1, 2, 3, 4] rfl) hw
      · exact Jj13  _ _ _ hP hD hS (lv_sub hl [0, 1, 2, 3, 4] rfl) hw
