abbrev rmX2_init : Room := { frames := 1, cells := 7, slots := 112, locals := 12 }
theorem cd_X2_init : yX2_init.cls = RX2 ∧ yX2_init.cls ≠ "java/lang/invoke/MethodHandle" ∧ yX2_init.cls ≠ "java/lang/invoke/VarHandle" ∧ (parseMethodDescriptor yX2_init.desc).map (fun d => d.parameters.length) = some 0 := by decide +kernel
set_option maxRecDepth 100000 in
abbrev at_Guests_init (dC : Nat → ClassId) (dI : Nat → Nat → Nat) (cyB cyI cyJ cyZ : ClassId) (ag : Nat) (A : Nat → Prop) (Q : Int → (Int → Int) → (Int → Int) → (Int → Int) → (Int → Int) → (Int → Int) → (Int → Int) → (Int → Int) → Prop) : Unit → State → Prop := fun _ t => ∃ (ag_sort : Nat) (ag_kind : Nat) (ag_tip : Nat) (ag_marks : Nat) (ag_brass : Nat) (ag_peg : Nat) (ag_has : Nat) (g_number : Int32) (g_sort : Nat → Int32) (g_kind : Nat → Int32) (g_tip : Nat → Int32) (g_marks : Nat → Int32) (g_brass : Nat → Int32) (g_peg : Nat → Int32) (g_has : Nat → Int32), va_P (dC, dI) vwCl [(ag, .inr (2, [.int g_number, .ref ag_sort, .ref ag_kind, .ref ag_tip, .ref ag_marks, .ref ag_brass, .ref ag_peg, .ref ag_has])), (ag_sort, .inl (cyI, 16, .inl g_sort)), (ag_kind, .inl (cyI, 16, .inl g_kind)), (ag_tip, .inl (cyI, 16, .inl g_tip)), (ag_marks, .inl (cyI, 16, .inl g_marks)), (ag_brass, .inl (cyI, 16, .inl g_brass)), (ag_peg, .inl (cyI, 16, .inl g_peg)), (ag_has, .inl (cyI, 16, .inl g_has))] t.heap ∧ va_D A [(ag, .inr (2, [.int g_number, .ref ag_sort, .ref ag_kind, .ref ag_tip, .ref ag_marks, .ref ag_brass, .ref ag_peg, .ref ag_has])), (ag_sort, .inl (cyI, 16, .inl g_sort)), (ag_kind, .inl (cyI, 16, .inl g_kind)), (ag_tip, .inl (cyI, 16, .inl g_tip)), (ag_marks, .inl (cyI, 16, .inl g_marks)), (ag_brass, .inl (cyI, 16, .inl g_brass)), (ag_peg, .inl (cyI, 16, .inl g_peg)), (ag_has, .inl (cyI, 16, .inl g_has))] ∧ Q g_number.toInt (aI 16 g_sort) (aI 16 g_kind) (aI 16 g_tip) (aI 16 g_marks) (aI 16 g_brass) (aI 16 g_peg) (aI 16 g_has)
set_option maxHeartbeats 4000000 in
set_option maxRecDepth 100000 in
theorem ct_Guests_init (l : Launch) (dC : Nat → ClassId) (dI : Nat → Nat → Nat) (cyB cyI cyJ cyZ : ClassId) (ag : Nat) (sz : Nat) (Q : Int → (Int → Int) → (Int → Int) → (Int → Int) → (Int → Int) → (Int → Int) → (Int → Int) → (Int → Int) → Prop) : Met l yX2_init wsX2_init rmX2_init (va_Pc [.ref ag] (cPre (dC, dI) vwCl (tyS cyB cyI cyJ cyZ) [(ag, .inr (2, [.int (0 : Int32), .null, .null, .null, .null, .null, .null, .null]))] sz (nf_Guests_init Q))) (va_Qv (fun _ => True) (at_Guests_init dC dI cyB cyI cyJ cyZ ag (va_A [(ag, .inr (2, [.int (0 : Int32), .null, .null, .null, .null, .null, .null, .null]))] sz) Q) (va_A [(ag, .inr (2, [.int (0 : Int32), .null, .null, .null, .null, .null, .null, .null]))] sz)) 7 112 (va_A [(ag, .inr (2, [.int (0 : Int32), .null, .null, .null, .null, .null, .null, .null]))] sz) := by
  refine Met.ofW (cc := cX2_init) (maxL := 1) (ret := none) (by decide) rfl ?_
  intro p e s m args below meth c s₁ B hml hv
  obtain ⟨rfl, hsz, hP, hK, hD0, hNw, hw⟩ := hv
  have hx := B.exec
  have hb := B.bytes
  have hr := B.returns
  have hts := atoms_spec (ws := wsX2_init) B.pre
  have hown : s.vm.findClass RX2 = some m.cls := findClass_of_methodNamed B.named
  have hlocks := B.notSynchronized
  have hin : meth.name = "<init>" := (name_of_methodNamed B.named B.method).1
  subst hsz
  have hD := hD0.self (sz := s.heap.size)
  generalize hAe : va_A [(ag, .inr (2, [.int (0 : Int32), .null, .null, .null, .null, .null, .null, .null]))] s.heap.size = A at hD ⊢
  have hA : ∀ q : Nat, s.heap.size ≤ q → A q := fun q h => by rw [← hAe]; exact Or.inr h
  have hS : va_S A s.heap s.heap [] := va_S.rf
  have hl := lv_entry ([.ref ag]) (n := 1) (Nat.le_of_ble_eq_true rfl)
  rw [lg_entry_eq]
  generalize (lg_sl ([.ref ag]) ++ List.replicate (1 - (lg_sl ([.ref ag])).length) Slot.unset).toArray = ls at hl ⊢
  have hl : lv_has ls 1 [(0, .ref ag)] := hl
  refine gx_q (fun Q9 hQ => ?_)
  unfold nf_Guests_init at hw
  have hi_X2 : ∀ w ∈ wsX20, w ∈ wsX2_init := (sub_c (nq_m (n := 13) rfl) (sub_c (nq_m (n := 14) rfl) (sub_c (nq_m (n := 15) rfl) (sub_c (nq_m (n := 16) rfl) (sub_c (nq_m (n := 17) rfl) (sub_c (nq_m (n := 18) rfl) (sub_c (nq_m (n := 19) rfl) (sub_c (nq_m (n := 20) rfl) sub_n))))))))
  have hf9 : (Cond.fieldLink RX2 9 "CoatsHall$Guests" (TX2 0).2.1 (TX2 0).2.2.1).before ([.ref ag] : List Value).toArray s = true := hts (.fieldLink RX2 9 "CoatsHall$Guests" "number" "I") (nq_m (n := 4) rfl)
  have hf15 : (Cond.fieldLink RX2 15 "CoatsHall$Guests" (TX2 1).2.1 (TX2 1).2.2.1).before ([.ref ag] : List Value).toArray s = true := hts (.fieldLink RX2 15 "CoatsHall$Guests" "sort" "[I") (nq_m (n := 6) rfl)
  have hf19 : (Cond.fieldLink RX2 19 "CoatsHall$Guests" (TX2 2).2.1 (TX2 2).2.2.1).before ([.ref ag] : List Value).toArray s = true := hts (.fieldLink RX2 19 "CoatsHall$Guests" "kind" "[I") (nq_m (n := 7) rfl)
  have hf22 : (Cond.fieldLink RX2 22 "CoatsHall$Guests" (TX2 3).2.1 (TX2 3).2.2.1).before ([.ref ag] : List Value).toArray s = true := hts (.fieldLink RX2 22 "CoatsHall$Guests" "tip" "[I") (nq_m (n := 8) rfl)
  have hf25 : (Cond.fieldLink RX2 25 "CoatsHall$Guests" (TX2 4).2.1 (TX2 4).2.2.1).before ([.ref ag] : List Value).toArray s = true := hts (.fieldLink RX2 25 "CoatsHall$Guests" "marks" "[I") (nq_m (n := 9) rfl)
  have hf28 : (Cond.fieldLink RX2 28 "CoatsHall$Guests" (TX2 5).2.1 (TX2 5).2.2.1).before ([.ref ag] : List Value).toArray s = true := hts (.fieldLink RX2 28 "CoatsHall$Guests" "brass" "[I") (nq_m (n := 10) rfl)
  have hf31 : (Cond.fieldLink RX2 31 "CoatsHall$Guests" (TX2 6).2.1 (TX2 6).2.2.1).before ([.ref ag] : List Value).toArray s = true := hts (.fieldLink RX2 31 "CoatsHall$Guests" "peg" "[I") (nq_m (n := 11) rfl)
  have hf34 : (Cond.fieldLink RX2 34 "CoatsHall$Guests" (TX2 7).2.1 (TX2 7).2.2.1).before ([.ref ag] : List Value).toArray s = true := hts (.fieldLink RX2 34 "CoatsHall$Guests" "has" "[I") (nq_m (n := 12) rfl)
  refine lv_aload_n hx hb dX2_init_0 rfl (lv_at hl 0 rfl) ?_
  refine W.objInit hx hb hown (hts (.methodLink RX2 3 objectInit) (nq_m (n := 1) rfl)) (hts (.instanceMethod objectInit) (nq_m (n := 2) rfl)) (hts (.code objectInit ⟨#[0xb1]⟩ 1 none) (nq_m (n := 3) rfl)) rfl (by rw [hml]; exact hl.1) rfl dX2_init_1 (Nat.le_of_ble_eq_true rfl) (Nat.le_of_ble_eq_true rfl) ?_
  refine lv_aload_n hx hb dX2_init_4 rfl (lv_at hl 0 rfl) ?_
  refine lv_iconst (v := (0 : Int32)) hx hb dX2_init_5 (by decide) ?_
  refine gx_put (D := (dC, dI)) (ci := 2) (v := .int (0 : Int32)) (ty := .int) (C := RX2) (T := TX2) (N := 8) hx hb hts hi_X2 tyX2 tyX2_ok nmX2 hown hK hP hD hS 0 rfl rfl 0 (by decide) hf9 (fun _ h9 => h9) rfl (by decide +kernel) rfl rfl (Nat.le_of_ble_eq_true rfl) dX2_init_6 [(ag, .inr (2, [.int (0 : Int32), .null, .null, .null, .null, .null, .null, .null]))] rfl (fun H locs hP hD hS => ?_)
  refine lv_aload_n hx hb dX2_init_9 rfl (lv_at hl 0 rfl) ?_
  refine lv_bipush (v := (16 : Int32)) hx hb dX2_init_10 (by decide) ?_
  refine gx_newi (N := 16) hx hb (hts (.arrayClass .int) (nq_m (n := 5) rfl)) hK hP hD hS hA 1 rfl (by decide) (by decide) (Nat.le_of_ble_eq_true rfl) (Nat.le_of_ble_eq_true rfl) (Nat.le_of_ble_eq_true rfl) dX2_init_12 hw (fun q1 f2 H hw hP hD hS => ?_)
  have hP : va_P (dC, dI) vwCl [(ag, .inr (2, [.int (0 : Int32), .null, .null, .null, .null, .null, .null, .null])), (q1, .inl (cyI, 16, .inl f2))] H := hP
  have hD : va_D A [(ag, .inr (2, [.int (0 : Int32), .null, .null, .null, .null, .null, .null, .null])), (q1, .inl (cyI, 16, .inl f2))] := hD
  refine gx_putF (D := (dC, dI)) (ci := 2) (v := .ref q1) (ty := (tyX2 1)) (C := RX2) (T := TX2) (N := 8) hx hb hts hi_X2 tyX2 tyX2_ok nmX2 hown hK hP hD hS 0 rfl rfl 1 (by decide) hf15 (fun _ h9 => h9) rfl hin rfl (by decide +kernel) rfl rfl (Nat.le_of_ble_eq_true rfl) dX2_init_14 [(ag, .inr (2, [.int (0 : Int32), .ref q1, .null, .null, .null, .null, .null, .null])), (q1, .inl (cyI, 16, .inl f2))] rfl (fun H locs hP hD hS => ?_)
  refine lv_aload_n hx hb dX2_init_17 rfl (lv_at hl 0 rfl) ?_
  refine lv_bipush (v := (16 : Int32)) hx hb dX2_init_18 (by decide) ?_
  refine gx_newi (N := 16) hx hb (hts (.arrayClass .int) (nq_m (n := 5) rfl)) hK hP hD hS hA 1 rfl (by decide) (by decide) (Nat.le_of_ble_eq_true rfl) (Nat.le_of_ble_eq_true rfl) (Nat.le_of_ble_eq_true rfl) dX2_init_20 hw (fun q3 f4 H hw hP hD hS => ?_)
  have hP : va_P (dC, dI) vwCl [(ag, .inr (2, [.int (0 : Int32), .ref q1, .null, .null, .null, .null, .null, .null])), (q1, .inl (cyI, 16, .inl f2)), (q3, .inl (cyI, 16, .inl f4))] H := hP
  have hD : va_D A [(ag, .inr (2, [.int (0 : Int32), .ref q1, .null, .null, .null, .null, .null, .null])), (q1, .inl (cyI, 16, .inl f2)), (q3, .inl (cyI, 16, .inl f4))] := hD
  refine gx_putF (D := (dC, dI)) (ci := 2) (v := .ref q3) (ty := (tyX2 2)) (C := RX2) (T := TX2) (N := 8) hx hb hts hi_X2 tyX2 tyX2_ok nmX2 hown hK hP hD hS 0 rfl rfl 2 (by decide) hf19 (fun _ h9 => h9) rfl hin rfl (by decide +kernel) rfl rfl (Nat.le_of_ble_eq_true rfl) dX2_init_22 [(ag, .inr (2, [.int (0 : Int32), .ref q1, .ref q3, .null, .null, .null, .null, .null])), (q1, .inl (cyI, 16, .inl f2)), (q3, .inl (cyI, 16, .inl f4))] rfl (fun H locs hP hD hS => ?_)
  refine lv_aload_n hx hb dX2_init_25 rfl (lv_at hl 0 rfl) ?_
  refine lv_bipush (v := (16 : Int32)) hx hb dX2_init_26 (by decide) ?_
  refine gx_newi (N := 16) hx hb (hts (.arrayClass .int) (nq_m (n := 5) rfl)) hK hP hD hS hA 1 rfl (by decide) (by decide) (Nat.le_of_ble_eq_true rfl) (Nat.le_of_ble_eq_true rfl) (Nat.le_of_ble_eq_true rfl) dX2_init_28 hw (fun q5 f6 H hw hP hD hS => ?_)
  have hP : va_P (dC, dI) vwCl [(ag, .inr (2, [.int (0 : Int32), .ref q1, .ref q3, .null, .null, .null, .null, .null])), (q1, .inl (cyI, 16, .inl f2)), (q3, .inl (cyI, 16, .inl f4)), (q5, .inl (cyI, 16, .inl f6))] H := hP
  have hD : va_D A [(ag, .inr (2, [.int (0 : Int32), .ref q1, .ref q3, .null, .null, .null, .null, .null])), (q1, .inl (cyI, 16, .inl f2)), (q3, .inl (cyI, 16, .inl f4)), (q5, .inl (cyI, 16, .inl f6))] := hD
  refine gx_putF (D := (dC, dI)) (ci := 2) (v := .ref q5) (ty := (tyX2 3)) (C := RX2) (T := TX2) (N := 8) hx hb hts hi_X2 tyX2 tyX2_ok nmX2 hown hK hP hD hS 0 rfl rfl 3 (by decide) hf22 (fun _ h9 => h9) rfl hin rfl (by decide +kernel) rfl rfl (Nat.le_of_ble_eq_true rfl) dX2_init_30 [(ag, .inr (2, [.int (0 : Int32), .ref q1, .ref q3, .ref q5, .null, .null, .null, .null])), (q1, .inl (cyI, 16, .inl f2)), (q3, .inl (cyI, 16, .inl f4)), (q5, .inl (cyI, 16, .inl f6))] rfl (fun H locs hP hD hS => ?_)
  refine lv_aload_n hx hb dX2_init_33 rfl (lv_at hl 0 rfl) ?_
  refine lv_bipush (v := (16 : Int32)) hx hb dX2_init_34 (by decide) ?_
  refine gx_newi (N := 16) hx hb (hts (.arrayClass .int) (nq_m (n := 5) rfl)) hK hP hD hS hA 1 rfl (by decide) (by decide) (Nat.le_of_ble_eq_true rfl) (Nat.le_of_ble_eq_true rfl) (Nat.le_of_ble_eq_true rfl) dX2_init_36 hw (fun q7 f8 H hw hP hD hS => ?_)
  have hP : va_P (dC, dI) vwCl [(ag, .inr (2, [.int (0 : Int32), .ref q1, .ref q3, .ref q5, .null, .null, .null, .null])), (q1, .inl (cyI, 16, .inl f2)), (q3, .inl (cyI, 16, .inl f4)), (q5, .inl (cyI, 16, .inl f6)), (q7, .inl (cyI, 16, .inl f8))] H := hP
  have hD : va_D A [(ag, .inr (2, [.int (0 : Int32), .ref q1, .ref q3, .ref q5, .null, .null, .null, .null])), (q1, .inl (cyI, 16, .inl f2)), (q3, .inl (cyI, 16, .inl f4)), (q5, .inl (cyI, 16, .inl f6)), (q7, .inl (cyI, 16, .inl f8))] := hD
  refine gx_putF (D := (dC, dI)) (ci := 2) (v := .ref q7) (ty := (tyX2 4)) (C := RX2) (T := TX2) (N := 8) hx hb hts hi_X2 tyX2 tyX2_ok nmX2 hown hK hP hD hS 0 rfl rfl 4 (by decide) hf25 (fun _ h9 => h9) rfl hin rfl (by decide +kernel) rfl rfl (Nat.le_of_ble_eq_true rfl) dX2_init_38 [(ag, .inr (2, [.int (0 : Int32), .ref q1, .ref q3, .ref q5, .ref q7, .null, .null, .null])), (q1, .inl (cyI, 16, .inl f2)), (q3, .inl (cyI, 16, .inl f4)), (q5, .inl (cyI, 16, .inl f6)), (q7, .inl (cyI, 16, .inl f8))] rfl (fun H locs hP hD hS => ?_)
  refine lv_aload_n hx hb dX2_init_41 rfl (lv_at hl 0 rfl) ?_
  refine lv_bipush (v := (16 : Int32)) hx hb dX2_init_42 (by decide) ?_
  refine gx_newi (N := 16) hx hb (hts (.arrayClass .int) (nq_m (n := 5) rfl)) hK hP hD hS hA 1 rfl (by decide) (by decide) (Nat.le_of_ble_eq_true rfl) (Nat.le_of_ble_eq_true rfl) (Nat.le_of_ble_eq_true rfl) dX2_init_44 hw (fun q9 f10 H hw hP hD hS => ?_)
  have hP : va_P (dC, dI) vwCl [(ag, .inr (2, [.int (0 : Int32), .ref q1, .ref q3, .ref q5, .ref q7, .null, .null, .null])), (q1, .inl (cyI, 16, .inl f2)), (q3, .inl (cyI, 16, .inl f4)), (q5, .inl (cyI, 16, .inl f6)), (q7, .inl (cyI, 16, .inl f8)), (q9, .inl (cyI, 16, .inl f10))] H := hP
  have hD : va_D A [(ag, .inr (2, [.int (0 : Int32), .ref q1, .ref q3, .ref q5, .ref q7, .null, .null, .null])), (q1, .inl (cyI, 16, .inl f2)), (q3, .inl (cyI, 16, .inl f4)), (q5, .inl (cyI, 16, .inl f6)), (q7, .inl (cyI, 16, .inl f8)), (q9, .inl (cyI, 16, .inl f10))] := hD
  refine gx_putF (D := (dC, dI)) (ci := 2) (v := .ref q9) (ty := (tyX2 5)) (C := RX2) (T := TX2) (N := 8) hx hb hts hi_X2 tyX2 tyX2_ok nmX2 hown hK hP hD hS 0 rfl rfl 5 (by decide) hf28 (fun _ h9 => h9) rfl hin rfl (by decide +kernel) rfl rfl (Nat.le_of_ble_eq_true rfl) dX2_init_46 [(ag, .inr (2, [.int (0 : Int32), .ref q1, .ref q3, .ref q5, .ref q7, .ref q9, .null, .null])), (q1, .inl (cyI, 16, .inl f2)), (q3, .inl (cyI, 16, .inl f4)), (q5, .inl (cyI, 16, .inl f6)), (q7, .inl (cyI, 16, .inl f8)), (q9, .inl (cyI, 16, .inl f10))] rfl (fun H locs hP hD hS => ?_)
  refine lv_aload_n hx hb dX2_init_49 rfl (lv_at hl 0 rfl) ?_
  refine lv_bipush (v := (16 : Int32)) hx hb dX2_init_50 (by decide) ?_
  refine gx_newi (N := 16) hx hb (hts (.arrayClass .int) (nq_m (n := 5) rfl)) hK hP hD hS hA 1 rfl (by decide) (by decide) (Nat.le_of_ble_eq_true rfl) (Nat.le_of_ble_eq_true rfl) (Nat.le_of_ble_eq_true rfl) dX2_init_52 hw (fun q11 f12 H hw hP hD hS => ?_)
  have hP : va_P (dC, dI) vwCl [(ag, .inr (2, [.int (0 : Int32), .ref q1, .ref q3, .ref q5, .ref q7, .ref q9, .null, .null])), (q1, .inl (cyI, 16, .inl f2)), (q3, .inl (cyI, 16, .inl f4)), (q5, .inl (cyI, 16, .inl f6)), (q7, .inl (cyI, 16, .inl f8)), (q9, .inl (cyI, 16, .inl f10)), (q11, .inl (cyI, 16, .inl f12))] H := hP
  have hD : va_D A [(ag, .inr (2, [.int (0 : Int32), .ref q1, .ref q3, .ref q5, .ref q7, .ref q9, .null, .null])), (q1, .inl (cyI, 16, .inl f2)), (q3, .inl (cyI, 16, .inl f4)), (q5, .inl (cyI, 16, .inl f6)), (q7, .inl (cyI, 16, .inl f8)), (q9, .inl (cyI, 16, .inl f10)), (q11, .inl (cyI, 16, .inl f12))] := hD
  refine gx_putF (D := (dC, dI)) (ci := 2) (v := .ref q11) (ty := (tyX2 6)) (C := RX2) (T := TX2) (N := 8) hx hb hts hi_X2 tyX2 tyX2_ok nmX2 hown hK hP hD hS 0 rfl rfl 6 (by decide) hf31 (fun _ h9 => h9) rfl hin rfl (by decide +kernel) rfl rfl (Nat.le_of_ble_eq_true rfl) dX2_init_54 [(ag, .inr (2, [.int (0 : Int32), .ref q1, .ref q3, .ref q5, .ref q7, .ref q9, .ref q11, .null])), (q1, .inl (cyI, 16, .inl f2)), (q3, .inl (cyI, 16, .inl f4)), (q5, .inl (cyI, 16, .inl f6)), (q7, .inl (cyI, 16, .inl f8)), (q9, .inl (cyI, 16, .inl f10)), (q11, .inl (cyI, 16, .inl f12))] rfl (fun H locs hP hD hS => ?_)
  refine lv_aload_n hx hb dX2_init_57 rfl (lv_at hl 0 rfl) ?_
  refine lv_bipush (v := (16 : Int32)) hx hb dX2_init_58 (by decide) ?_
  refine gx_newi (N := 16) hx hb (hts (.arrayClass .int) (nq_m (n := 5) rfl)) hK hP hD hS hA 1 rfl (by decide) (by decide) (Nat.le_of_ble_eq_true rfl) (Nat.le_of_ble_eq_true rfl) (Nat.le_of_ble_eq_true rfl) dX2_init_60 hw (fun q13 f14 H hw hP hD hS => ?_)
  have hP : va_P (dC, dI) vwCl [(ag, .inr (2, [.int (0 : Int32), .ref q1, .ref q3, .ref q5, .ref q7, .ref q9, .ref q11, .null])), (q1, .inl (cyI, 16, .inl f2)), (q3, .inl (cyI, 16, .inl f4)), (q5, .inl (cyI, 16, .inl f6)), (q7, .inl (cyI, 16, .inl f8)), (q9, .inl (cyI, 16, .inl f10)), (q11, .inl (cyI, 16, .inl f12)), (q13, .inl (cyI, 16, .inl f14))] H := hP
  have hD : va_D A [(ag, .inr (2, [.int (0 : Int32), .ref q1, .ref q3, .ref q5, .ref q7, .ref q9, .ref q11, .null])), (q1, .inl (cyI, 16, .inl f2)), (q3, .inl (cyI, 16, .inl f4)), (q5, .inl (cyI, 16, .inl f6)), (q7, .inl (cyI, 16, .inl f8)), (q9, .inl (cyI, 16, .inl f10)), (q11, .inl (cyI, 16, .inl f12)), (q13, .inl (cyI, 16, .inl f14))] := hD
  refine gx_putF (D := (dC, dI)) (ci := 2) (v := .ref q13) (ty := (tyX2 7)) (C := RX2) (T := TX2) (N := 8) hx hb hts hi_X2 tyX2 tyX2_ok nmX2 hown hK hP hD hS 0 rfl rfl 7 (by decide) hf34 (fun _ h9 => h9) rfl hin rfl (by decide +kernel) rfl rfl (Nat.le_of_ble_eq_true rfl) dX2_init_62 [(ag, .inr (2, [.int (0 : Int32), .ref q1, .ref q3, .ref q5, .ref q7, .ref q9, .ref q11, .ref q13])), (q1, .inl (cyI, 16, .inl f2)), (q3, .inl (cyI, 16, .inl f4)), (q5, .inl (cyI, 16, .inl f6)), (q7, .inl (cyI, 16, .inl f8)), (q9, .inl (cyI, 16, .inl f10)), (q11, .inl (cyI, 16, .inl f12)), (q13, .inl (cyI, 16, .inl f14))] rfl (fun H locs hP hD hS => ?_)
  refine W.widen (k := 7) (n := 112) (Nat.le_of_ble_eq_true rfl) (Nat.le_of_ble_eq_true rfl) ?_
  refine W.widen (k := 7) (n := 112) (Nat.le_of_ble_eq_true rfl) (Nat.le_of_ble_eq_true rfl) ?_
  have hP := hP.sub [0, 1, 2, 3, 4, 5, 6, 7] rfl
  have hD := hD.sub (ws' := [(ag, .inr (2, [.int (0 : Int32), .ref q1, .ref q3, .ref q5, .ref q7, .ref q9, .ref q11, .ref q13])), (q1, .inl (cyI, 16, .inl f2)), (q3, .inl (cyI, 16, .inl f4)), (q5, .inl (cyI, 16, .inl f6)), (q7, .inl (cyI, 16, .inl f8)), (q9, .inl (cyI, 16, .inl f10)), (q11, .inl (cyI, 16, .inl f12)), (q13, .inl (cyI, 16, .inl f14))]) [0, 1, 2, 3, 4, 5, 6, 7] (by decide) rfl
  exact rt_b hQ hx hb hr hlocks hS (fun t ht => ⟨q1, q3, q5, q7, q9, q11, q13, (0 : Int32), f2, f4, f6, f8, f10, f12, f14, by rw [ht]; exact hP, hD, hw⟩) dX2_init_65
abbrev rmX1_init : Room := { frames := 1, cells := 1, slots := 420, locals := 12 }
theorem cd_X1_init : yX1_init.cls = RX1 ∧ yX1_init.cls ≠ "java/lang/invoke/MethodHandle" ∧ yX1_init.cls ≠ "java/lang/invoke/VarHandle" ∧ (parseMethodDescriptor yX1_init.desc).map (fun d => d.parameters.length) = some 0 := by decide +kernel
set_option maxRecDepth 100000 in
abbrev at_Events_init (dC : Nat → ClassId) (dI : Nat → Nat → Nat) (cyB cyI cyJ cyZ : ClassId) (ae : Nat) (A : Nat → Prop) (Q : Int → (Int → Int) → Prop) : Unit → State → Prop := fun _ t => ∃ (ae_facts : Nat) (e_number : Int32) (e_facts : Nat → Int32), va_P (dC, dI) vwCl [(ae, .inr (1, [.int e_number, .ref ae_facts])), (ae_facts, .inl (cyI, 420, .inl e_facts))] t.heap ∧ va_D A [(ae, .inr (1, [.int e_number, .ref ae_facts])), (ae_facts, .inl (cyI, 420, .inl e_facts))] ∧ Q e_number.toInt (aI 420 e_facts)
set_option maxHeartbeats 4000000 in
set_option maxRecDepth 100000 in
theorem ct_Events_init (l : Launch) (dC : Nat → ClassId) (dI : Nat → Nat → Nat) (cyB cyI cyJ cyZ : ClassId) (ae : Nat) (sz : Nat) (Q : Int → (Int → Int) → Prop) : Met l yX1_init wsX1_init rmX1_init (va_Pc [.ref ae] (cPre (dC, dI) vwCl (tyS cyB cyI cyJ cyZ) [(ae, .inr (1, [.int (0 : Int32), .null]))] sz (nf_Events_init Q))) (va_Qv (fun _ => True) (at_Events_init dC dI cyB cyI cyJ cyZ ae (va_A [(ae, .inr (1, [.int (0 : Int32), .null]))] sz) Q) (va_A [(ae, .inr (1, [.int (0 : Int32), .null]))] sz)) 1 420 (va_A [(ae, .inr (1, [.int (0 : Int32), .null]))] sz) := by
  refine Met.ofW (cc := cX1_init) (maxL := 1) (ret := none) (by decide) rfl ?_
  intro p e s m args below meth c s₁ B hml hv
  obtain ⟨rfl, hsz, hP, hK, hD0, hNw, hw⟩ := hv
  have hx := B.exec
  have hb := B.bytes
  have hr := B.returns
  have hts := atoms_spec (ws := wsX1_init) B.pre
  have hown : s.vm.findClass RX1 = some m.cls := findClass_of_methodNamed B.named
  have hlocks := B.notSynchronized
  have hin : meth.name = "<init>" := (name_of_methodNamed B.named B.method).1
  subst hsz
  have hD := hD0.self (sz := s.heap.size)
  generalize hAe : va_A [(ae, .inr (1, [.int (0 : Int32), .null]))] s.heap.size = A at hD ⊢
  have hA : ∀ q : Nat, s.heap.size ≤ q → A q := fun q h => by rw [← hAe]; exact Or.inr h
  have hS : va_S A s.heap s.heap [] := va_S.rf
  have hl := lv_entry ([.ref ae]) (n := 1) (Nat.le_of_ble_eq_true rfl)
  rw [lg_entry_eq]
  generalize (lg_sl ([.ref ae]) ++ List.replicate (1 - (lg_sl ([.ref ae])).length) Slot.unset).toArray = ls at hl ⊢
  have hl : lv_has ls 1 [(0, .ref ae)] := hl
  refine gx_q (fun Q9 hQ => ?_)
  unfold nf_Events_init at hw
  have hi_X1 : ∀ w ∈ wsX10, w ∈ wsX1_init := (sub_c (nq_m (n := 7) rfl) (sub_c (nq_m (n := 8) rfl) sub_n))
  have hf9 : (Cond.fieldLink RX1 9 "CoatsHall$Events" (TX1 0).2.1 (TX1 0).2.2.1).before ([.ref ae] : List Value).toArray s = true := hts (.fieldLink RX1 9 "CoatsHall$Events" "number" "I") (nq_m (n := 4) rfl)
  have hf15 : (Cond.fieldLink RX1 15 "CoatsHall$Events" (TX1 1).2.1 (TX1 1).2.2.1).before ([.ref ae] : List Value).toArray s = true := hts (.fieldLink RX1 15 "CoatsHall$Events" "facts" "[I") (nq_m (n := 6) rfl)
  refine lv_aload_n hx hb dX1_init_0 rfl (lv_at hl 0 rfl) ?_
  refine W.objInit hx hb hown (hts (.methodLink RX1 3 objectInit) (nq_m (n := 1) rfl)) (hts (.instanceMethod objectInit) (nq_m (n := 2) rfl)) (hts (.code objectInit ⟨#[0xb1]⟩ 1 none) (nq_m (n := 3) rfl)) rfl (by rw [hml]; exact hl.1) rfl dX1_init_1 (Nat.le_of_ble_eq_true rfl) (Nat.le_of_ble_eq_true rfl) ?_
  refine lv_aload_n hx hb dX1_init_4 rfl (lv_at hl 0 rfl) ?_
  refine lv_iconst (v := (0 : Int32)) hx hb dX1_init_5 (by decide) ?_
  refine gx_put (D := (dC, dI)) (ci := 1) (v := .int (0 : Int32)) (ty := .int) (C := RX1) (T := TX1) (N := 2) hx hb hts hi_X1 tyX1 tyX1_ok nmX1 hown hK hP hD hS 0 rfl rfl 0 (by decide) hf9 (fun _ h9 => h9) rfl (by decide +kernel) rfl rfl (Nat.le_of_ble_eq_true rfl) dX1_init_6 [(ae, .inr (1, [.int (0 : Int32), .null]))] rfl (fun H locs hP hD hS => ?_)
  refine lv_aload_n hx hb dX1_init_9 rfl (lv_at hl 0 rfl) ?_
  refine lv_sipush (v := (420 : Int32)) hx hb dX1_init_10 (by decide) ?_
  refine gx_newi (N := 420) hx hb (hts (.arrayClass .int) (nq_m (n := 5) rfl)) hK hP hD hS hA 1 rfl (by decide) (by decide) (Nat.le_of_ble_eq_true rfl) (Nat.le_of_ble_eq_true rfl) (Nat.le_of_ble_eq_true rfl) dX1_init_13 hw (fun q1 f2 H hw hP hD hS => ?_)
  have hP : va_P (dC, dI) vwCl [(ae, .inr (1, [.int (0 : Int32), .null])), (q1, .inl (cyI, 420, .inl f2))] H := hP
  have hD : va_D A [(ae, .inr (1, [.int (0 : Int32), .null])), (q1, .inl (cyI, 420, .inl f2))] := hD
  refine gx_putF (D := (dC, dI)) (ci := 1) (v := .ref q1) (ty := (tyX1 1)) (C := RX1) (T := TX1) (N := 2) hx hb hts hi_X1 tyX1 tyX1_ok nmX1 hown hK hP hD hS 0 rfl rfl 1 (by decide) hf15 (fun _ h9 => h9) rfl hin rfl (by decide +kernel) rfl rfl (Nat.le_of_ble_eq_true rfl) dX1_init_15 [(ae, .inr (1, [.int (0 : Int32), .ref q1])), (q1, .inl (cyI, 420, .inl f2))] rfl (fun H locs hP hD hS => ?_)
  refine W.widen (k := 1) (n := 420) (Nat.le_of_ble_eq_true rfl) (Nat.le_of_ble_eq_true rfl) ?_
  refine W.widen (k := 1) (n := 420) (Nat.le_of_ble_eq_true rfl) (Nat.le_of_ble_eq_true rfl) ?_
  have hP := hP.sub [0, 1] rfl
  have hD := hD.sub (ws' := [(ae, .inr (1, [.int (0 : Int32), .ref q1])), (q1, .inl (cyI, 420, .inl f2))]) [0, 1] (by decide) rfl
  exact rt_b hQ hx hb hr hlocks hS (fun t ht => ⟨q1, (0 : Int32), f2, by rw [ht]; exact hP, hD, hw⟩) dX1_init_18
abbrev rmX0_init : Room := { frames := 1, cells := 3, slots := 18, locals := 12 }
theorem cd_X0_init : yX0_init.cls = RX0 ∧ yX0_init.cls ≠ "java/lang/invoke/MethodHandle" ∧ yX0_init.cls ≠ "java/lang/invoke/VarHandle" ∧ (parseMethodDescriptor yX0_init.desc).map (fun d => d.parameters.length) = some 0 := by decide +kernel
set_option maxRecDepth 100000 in
abbrev at_Claims_init (dC : Nat → ClassId) (dI : Nat → Nat → Nat) (cyB cyI cyJ cyZ : ClassId) (ac : Nat) (A : Nat → Prop) (Q : Int → (Int → Int) → (Int → Int) → (Int → Int) → Prop) : Unit → State → Prop := fun _ t => ∃ (ac_guest : Nat) (ac_yes : Nat) (ac_no : Nat) (c_number : Int32) (c_guest : Nat → Int32) (c_yes : Nat → Int32) (c_no : Nat → Int32), va_P (dC, dI) vwCl [(ac, .inr (0, [.int c_number, .ref ac_guest, .ref ac_yes, .ref ac_no])), (ac_guest, .inl (cyI, 6, .inl c_guest)), (ac_yes, .inl (cyI, 6, .inl c_yes)), (ac_no, .inl (cyI, 6, .inl c_no))] t.heap ∧ va_D A [(ac, .inr (0, [.int c_number, .ref ac_guest, .ref ac_yes, .ref ac_no])), (ac_guest, .inl (cyI, 6, .inl c_guest)), (ac_yes, .inl (cyI, 6, .inl c_yes)), (ac_no, .inl (cyI, 6, .inl c_no))] ∧ Q c_number.toInt (aI 6 c_guest) (aI 6 c_yes) (aI 6 c_no)
set_option maxHeartbeats 4000000 in
set_option maxRecDepth 100000 in
theorem ct_Claims_init (l : Launch) (dC : Nat → ClassId) (dI : Nat → Nat → Nat) (cyB cyI cyJ cyZ : ClassId) (ac : Nat) (sz : Nat) (Q : Int → (Int → Int) → (Int → Int) → (Int → Int) → Prop) : Met l yX0_init wsX0_init rmX0_init (va_Pc [.ref ac] (cPre (dC, dI) vwCl (tyS cyB cyI cyJ cyZ) [(ac, .inr (0, [.int (0 : Int32), .null, .null, .null]))] sz (nf_Claims_init Q))) (va_Qv (fun _ => True) (at_Claims_init dC dI cyB cyI cyJ cyZ ac (va_A [(ac, .inr (0, [.int (0 : Int32), .null, .null, .null]))] sz) Q) (va_A [(ac, .inr (0, [.int (0 : Int32), .null, .null, .null]))] sz)) 3 18 (va_A [(ac, .inr (0, [.int (0 : Int32), .null, .null, .null]))] sz) := by
  refine Met.ofW (cc := cX0_init) (maxL := 1) (ret := none) (by decide) rfl ?_
  intro p e s m args below meth c s₁ B hml hv
  obtain ⟨rfl, hsz, hP, hK, hD0, hNw, hw⟩ := hv
  have hx := B.exec
  have hb := B.bytes
  have hr := B.returns
  have hts := atoms_spec (ws := wsX0_init) B.pre
  have hown : s.vm.findClass RX0 = some m.cls := findClass_of_methodNamed B.named
  have hlocks := B.notSynchronized
  have hin : meth.name = "<init>" := (name_of_methodNamed B.named B.method).1
  subst hsz
  have hD := hD0.self (sz := s.heap.size)
  generalize hAe : va_A [(ac, .inr (0, [.int (0 : Int32), .null, .null, .null]))] s.heap.size = A at hD ⊢
  have hA : ∀ q : Nat, s.heap.size ≤ q → A q := fun q h => by rw [← hAe]; exact Or.inr h
  have hS : va_S A s.heap s.heap [] := va_S.rf
  have hl := lv_entry ([.ref ac]) (n := 1) (Nat.le_of_ble_eq_true rfl)
  rw [lg_entry_eq]
  generalize (lg_sl ([.ref ac]) ++ List.replicate (1 - (lg_sl ([.ref ac])).length) Slot.unset).toArray = ls at hl ⊢
  have hl : lv_has ls 1 [(0, .ref ac)] := hl
  refine gx_q (fun Q9 hQ => ?_)
  unfold nf_Claims_init at hw
  have hi_X0 : ∀ w ∈ wsX00, w ∈ wsX0_init := (sub_c (nq_m (n := 9) rfl) (sub_c (nq_m (n := 10) rfl) (sub_c (nq_m (n := 11) rfl) (sub_c (nq_m (n := 12) rfl) sub_n))))
  have hf9 : (Cond.fieldLink RX0 9 "CoatsHall$Claims" (TX0 0).2.1 (TX0 0).2.2.1).before ([.ref ac] : List Value).toArray s = true := hts (.fieldLink RX0 9 "CoatsHall$Claims" "number" "I") (nq_m (n := 4) rfl)
  have hf15 : (Cond.fieldLink RX0 15 "CoatsHall$Claims" (TX0 1).2.1 (TX0 1).2.2.1).before ([.ref ac] : List Value).toArray s = true := hts (.fieldLink RX0 15 "CoatsHall$Claims" "guest" "[I") (nq_m (n := 6) rfl)
  have hf19 : (Cond.fieldLink RX0 19 "CoatsHall$Claims" (TX0 2).2.1 (TX0 2).2.2.1).before ([.ref ac] : List Value).toArray s = true := hts (.fieldLink RX0 19 "CoatsHall$Claims" "yes" "[I") (nq_m (n := 7) rfl)
  have hf22 : (Cond.fieldLink RX0 22 "CoatsHall$Claims" (TX0 3).2.1 (TX0 3).2.2.1).before ([.ref ac] : List Value).toArray s = true := hts (.fieldLink RX0 22 "CoatsHall$Claims" "no" "[I") (nq_m (n := 8) rfl)
  refine lv_aload_n hx hb dX0_init_0 rfl (lv_at hl 0 rfl) ?_
  refine W.objInit hx hb hown (hts (.methodLink RX0 3 objectInit) (nq_m (n := 1) rfl)) (hts (.instanceMethod objectInit) (nq_m (n := 2) rfl)) (hts (.code objectInit ⟨#[0xb1]⟩ 1 none) (nq_m (n := 3) rfl)) rfl (by rw [hml]; exact hl.1) rfl dX0_init_1 (Nat.le_of_ble_eq_true rfl) (Nat.le_of_ble_eq_true rfl) ?_
  refine lv_aload_n hx hb dX0_init_4 rfl (lv_at hl 0 rfl) ?_
  refine lv_iconst (v := (0 : Int32)) hx hb dX0_init_5 (by decide) ?_
  refine gx_put (D := (dC, dI)) (ci := 0) (v := .int (0 : Int32)) (ty := .int) (C := RX0) (T := TX0) (N := 4) hx hb hts hi_X0 tyX0 tyX0_ok nmX0 hown hK hP hD hS 0 rfl rfl 0 (by decide) hf9 (fun _ h9 => h9) rfl (by decide +kernel) rfl rfl (Nat.le_of_ble_eq_true rfl) dX0_init_6 [(ac, .inr (0, [.int (0 : Int32), .null, .null, .null]))] rfl (fun H locs hP hD hS => ?_)
  refine lv_aload_n hx hb dX0_init_9 rfl (lv_at hl 0 rfl) ?_
  refine lv_bipush (v := (6 : Int32)) hx hb dX0_init_10 (by decide) ?_
  refine gx_newi (N := 6) hx hb (hts (.arrayClass .int) (nq_m (n := 5) rfl)) hK hP hD hS hA 1 rfl (by decide) (by decide) (Nat.le_of_ble_eq_true rfl) (Nat.le_of_ble_eq_true rfl) (Nat.le_of_ble_eq_true rfl) dX0_init_12 hw (fun q1 f2 H hw hP hD hS => ?_)
  have hP : va_P (dC, dI) vwCl [(ac, .inr (0, [.int (0 : Int32), .null, .null, .null])), (q1, .inl (cyI, 6, .inl f2))] H := hP
  have hD : va_D A [(ac, .inr (0, [.int (0 : Int32), .null, .null, .null])), (q1, .inl (cyI, 6, .inl f2))] := hD
  refine gx_putF (D := (dC, dI)) (ci := 0) (v := .ref q1) (ty := (tyX0 1)) (C := RX0) (T := TX0) (N := 4) hx hb hts hi_X0 tyX0 tyX0_ok nmX0 hown hK hP hD hS 0 rfl rfl 1 (by decide) hf15 (fun _ h9 => h9) rfl hin rfl (by decide +kernel) rfl rfl (Nat.le_of_ble_eq_true rfl) dX0_init_14 [(ac, .inr (0, [.int (0 : Int32), .ref q1, .null, .null])), (q1, .inl (cyI, 6, .inl f2))] rfl (fun H locs hP hD hS => ?_)
  refine lv_aload_n hx hb dX0_init_17 rfl (lv_at hl 0 rfl) ?_
  refine lv_bipush (v := (6 : Int32)) hx hb dX0_init_18 (by decide) ?_
  refine gx_newi (N := 6) hx hb (hts (.arrayClass .int) (nq_m (n := 5) rfl)) hK hP hD hS hA 1 rfl (by decide) (by decide) (Nat.le_of_ble_eq_true rfl) (Nat.le_of_ble_eq_true rfl) (Nat.le_of_ble_eq_true rfl) dX0_init_20 hw (fun q3 f4 H hw hP hD hS => ?_)
  have hP : va_P (dC, dI) vwCl [(ac, .inr (0, [.int (0 : Int32), .ref q1, .null, .null])), (q1, .inl (cyI, 6, .inl f2)), (q3, .inl (cyI, 6, .inl f4))] H := hP
  have hD : va_D A [(ac, .inr (0, [.int (0 : Int32), .ref q1, .null, .null])), (q1, .inl (cyI, 6, .inl f2)), (q3, .inl (cyI, 6, .inl f4))] := hD
  refine gx_putF (D := (dC, dI)) (ci := 0) (v := .ref q3) (ty := (tyX0 2)) (C := RX0) (T := TX0) (N := 4) hx hb hts hi_X0 tyX0 tyX0_ok nmX0 hown hK hP hD hS 0 rfl rfl 2 (by decide) hf19 (fun _ h9 => h9) rfl hin rfl (by decide +kernel) rfl rfl (Nat.le_of_ble_eq_true rfl) dX0_init_22 [(ac, .inr (0, [.int (0 : Int32), .ref q1, .ref q3, .null])), (q1, .inl (cyI, 6, .inl f2)), (q3, .inl (cyI, 6, .inl f4))] rfl (fun H locs hP hD hS => ?_)
  refine lv_aload_n hx hb dX0_init_25 rfl (lv_at hl 0 rfl) ?_
  refine lv_bipush (v := (6 : Int32)) hx hb dX0_init_26 (by decide) ?_
  refine gx_newi (N := 6) hx hb (hts (.arrayClass .int) (nq_m (n := 5) rfl)) hK hP hD hS hA 1 rfl (by decide) (by decide) (Nat.le_of_ble_eq_true rfl) (Nat.le_of_ble_eq_true rfl) (Nat.le_of_ble_eq_true rfl) dX0_init_28 hw (fun q5 f6 H hw hP hD hS => ?_)
  have hP : va_P (dC, dI) vwCl [(ac, .inr (0, [.int (0 : Int32), .ref q1, .ref q3, .null])), (q1, .inl (cyI, 6, .inl f2)), (q3, .inl (cyI, 6, .inl f4)), (q5, .inl (cyI, 6, .inl f6))] H := hP
  have hD : va_D A [(ac, .inr (0, [.int (0 : Int32), .ref q1, .ref q3, .null])), (q1, .inl (cyI, 6, .inl f2)), (q3, .inl (cyI, 6, .inl f4)), (q5, .inl (cyI, 6, .inl f6))] := hD
  refine gx_putF (D := (dC, dI)) (ci := 0) (v := .ref q5) (ty := (tyX0 3)) (C := RX0) (T := TX0) (N := 4) hx hb hts hi_X0 tyX0 tyX0_ok nmX0 hown hK hP hD hS 0 rfl rfl 3 (by decide) hf22 (fun _ h9 => h9) rfl hin rfl (by decide +kernel) rfl rfl (Nat.le_of_ble_eq_true rfl) dX0_init_30 [(ac, .inr (0, [.int (0 : Int32), .ref q1, .ref q3, .ref q5])), (q1, .inl (cyI, 6, .inl f2)), (q3, .inl (cyI, 6, .inl f4)), (q5, .inl (cyI, 6, .inl f6))] rfl (fun H locs hP hD hS => ?_)
  refine W.widen (k := 3) (n := 18) (Nat.le_of_ble_eq_true rfl) (Nat.le_of_ble_eq_true rfl) ?_
  refine W.widen (k := 3) (n := 18) (Nat.le_of_ble_eq_true rfl) (Nat.le_of_ble_eq_true rfl) ?_
  have hP := hP.sub [0, 1, 2, 3] rfl
  have hD := hD.sub (ws' := [(ac, .inr (0, [.int (0 : Int32), .ref q1, .ref q3, .ref q5])), (q1, .inl (cyI, 6, .inl f2)), (q3, .inl (cyI, 6, .inl f4)), (q5, .inl (cyI, 6, .inl f6))]) [0, 1, 2, 3] (by decide) rfl
  exact rt_b hQ hx hb hr hlocks hS (fun t ht => ⟨q1, q3, q5, (0 : Int32), f2, f4, f6, by rw [ht]; exact hP, hD, hw⟩) dX0_init_33
abbrev rmX6_init : Room := { frames := 1, cells := 1, slots := 24, locals := 12 }
theorem cd_X6_init : yX6_init.cls = RX6 ∧ yX6_init.cls ≠ "java/lang/invoke/MethodHandle" ∧ yX6_init.cls ≠ "java/lang/invoke/VarHandle" ∧ (parseMethodDescriptor yX6_init.desc).map (fun d => d.parameters.length) = some 0 := by decide +kernel
set_option maxRecDepth 100000 in
abbrev at_Nights_init (dC : Nat → ClassId) (dI : Nat → Nat → Nat) (cyB cyI cyJ cyZ : ClassId) (an : Nat) (A : Nat → Prop) (Q : Int → (Int → Int) → Prop) : Unit → State → Prop := fun _ t => ∃ (an_left : Nat) (n_number : Int32) (n_left : Nat → Int32), va_P (dC, dI) vwCl [(an, .inr (6, [.int n_number, .ref an_left])), (an_left, .inl (cyI, 24, .inl n_left))] t.heap ∧ va_D A [(an, .inr (6, [.int n_number, .ref an_left])), (an_left, .inl (cyI, 24, .inl n_left))] ∧ Q n_number.toInt (aI 24 n_left)
set_option maxHeartbeats 4000000 in
set_option maxRecDepth 100000 in
theorem ct_Nights_init (l : Launch) (dC : Nat → ClassId) (dI : Nat → Nat → Nat) (cyB cyI cyJ cyZ : ClassId) (an : Nat) (sz : Nat) (Q : Int → (Int → Int) → Prop) : Met l yX6_init wsX6_init rmX6_init (va_Pc [.ref an] (cPre (dC, dI) vwCl (tyS cyB cyI cyJ cyZ) [(an, .inr (6, [.int (0 : Int32), .null]))] sz (nf_Nights_init Q))) (va_Qv (fun _ => True) (at_Nights_init dC dI cyB cyI cyJ cyZ an (va_A [(an, .inr (6, [.int (0 : Int32), .null]))] sz) Q) (va_A [(an, .inr (6, [.int (0 : Int32), .null]))] sz)) 1 24 (va_A [(an, .inr (6, [.int (0 : Int32), .null]))] sz) := by
  refine Met.ofW (cc := cX6_init) (maxL := 1) (ret := none) (by decide) rfl ?_
  intro p e s m args below meth c s₁ B hml hv
  obtain ⟨rfl, hsz, hP, hK, hD0, hNw, hw⟩ := hv
  have hx := B.exec
  have hb := B.bytes
  have hr := B.returns
  have hts := atoms_spec (ws := wsX6_init) B.pre
  have hown : s.vm.findClass RX6 = some m.cls := findClass_of_methodNamed B.named
  have hlocks := B.notSynchronized
  have hin : meth.name = "<init>" := (name_of_methodNamed B.named B.method).1
  subst hsz
  have hD := hD0.self (sz := s.heap.size)
  generalize hAe : va_A [(an, .inr (6, [.int (0 : Int32), .null]))] s.heap.size = A at hD ⊢
  have hA : ∀ q : Nat, s.heap.size ≤ q → A q := fun q h => by rw [← hAe]; exact Or.inr h
  have hS : va_S A s.heap s.heap [] := va_S.rf
  have hl := lv_entry ([.ref an]) (n := 1) (Nat.le_of_ble_eq_true rfl)
  rw [lg_entry_eq]
  generalize (lg_sl ([.ref an]) ++ List.replicate (1 - (lg_sl ([.ref an])).length) Slot.unset).toArray = ls at hl ⊢
  have hl : lv_has ls 1 [(0, .ref an)] := hl
  refine gx_q (fun Q9 hQ => ?_)
  unfold nf_Nights_init at hw
  have hi_X6 : ∀ w ∈ wsX60, w ∈ wsX6_init := (sub_c (nq_m (n := 7) rfl) (sub_c (nq_m (n := 8) rfl) sub_n))
  have hf9 : (Cond.fieldLink RX6 9 "CoatsHall$Nights" (TX6 0).2.1 (TX6 0).2.2.1).before ([.ref an] : List Value).toArray s = true := hts (.fieldLink RX6 9 "CoatsHall$Nights" "number" "I") (nq_m (n := 4) rfl)
  have hf15 : (Cond.fieldLink RX6 15 "CoatsHall$Nights" (TX6 1).2.1 (TX6 1).2.2.1).before ([.ref an] : List Value).toArray s = true := hts (.fieldLink RX6 15 "CoatsHall$Nights" "left" "[I") (nq_m (n := 6) rfl)
  refine lv_aload_n hx hb dX6_init_0 rfl (lv_at hl 0 rfl) ?_
  refine W.objInit hx hb hown (hts (.methodLink RX6 3 objectInit) (nq_m (n := 1) rfl)) (hts (.instanceMethod objectInit) (nq_m (n := 2) rfl)) (hts (.code objectInit ⟨#[0xb1]⟩ 1 none) (nq_m (n := 3) rfl)) rfl (by rw [hml]; exact hl.1) rfl dX6_init_1 (Nat.le_of_ble_eq_true rfl) (Nat.le_of_ble_eq_true rfl) ?_
  refine lv_aload_n hx hb dX6_init_4 rfl (lv_at hl 0 rfl) ?_
  refine lv_iconst (v := (0 : Int32)) hx hb dX6_init_5 (by decide) ?_
  refine gx_put (D := (dC, dI)) (ci := 6) (v := .int (0 : Int32)) (ty := .int) (C := RX6) (T := TX6) (N := 2) hx hb hts hi_X6 tyX6 tyX6_ok nmX6 hown hK hP hD hS 0 rfl rfl 0 (by decide) hf9 (fun _ h9 => h9) rfl (by decide +kernel) rfl rfl (Nat.le_of_ble_eq_true rfl) dX6_init_6 [(an, .inr (6, [.int (0 : Int32), .null]))] rfl (fun H locs hP hD hS => ?_)
  refine lv_aload_n hx hb dX6_init_9 rfl (lv_at hl 0 rfl) ?_
  refine lv_bipush (v := (24 : Int32)) hx hb dX6_init_10 (by decide) ?_
  refine gx_newi (N := 24) hx hb (hts (.arrayClass .int) (nq_m (n := 5) rfl)) hK hP hD hS hA 1 rfl (by decide) (by decide) (Nat.le_of_ble_eq_true rfl) (Nat.le_of_ble_eq_true rfl) (Nat.le_of_ble_eq_true rfl) dX6_init_12 hw (fun q1 f2 H hw hP hD hS => ?_)
  have hP : va_P (dC, dI) vwCl [(an, .inr (6, [.int (0 : Int32), .null])), (q1, .inl (cyI, 24, .inl f2))] H := hP
  have hD : va_D A [(an, .inr (6, [.int (0 : Int32), .null])), (q1, .inl (cyI, 24, .inl f2))] := hD
  refine gx_putF (D := (dC, dI)) (ci := 6) (v := .ref q1) (ty := (tyX6 1)) (C := RX6) (T := TX6) (N := 2) hx hb hts hi_X6 tyX6 tyX6_ok nmX6 hown hK hP hD hS 0 rfl rfl 1 (by decide) hf15 (fun _ h9 => h9) rfl hin rfl (by decide +kernel) rfl rfl (Nat.le_of_ble_eq_true rfl) dX6_init_14 [(an, .inr (6, [.int (0 : Int32), .ref q1])), (q1, .inl (cyI, 24, .inl f2))] rfl (fun H locs hP hD hS => ?_)
  refine W.widen (k := 1) (n := 24) (Nat.le_of_ble_eq_true rfl) (Nat.le_of_ble_eq_true rfl) ?_
  refine W.widen (k := 1) (n := 24) (Nat.le_of_ble_eq_true rfl) (Nat.le_of_ble_eq_true rfl) ?_
  have hP := hP.sub [0, 1] rfl
  have hD := hD.sub (ws' := [(an, .inr (6, [.int (0 : Int32), .ref q1])), (q1, .inl (cyI, 24, .inl f2))]) [0, 1] (by decide) rfl
  exact rt_b hQ hx hb hr hlocks hS (fun t ht => ⟨q1, (0 : Int32), f2, by rw [ht]; exact hP, hD, hw⟩) dX6_init_17
abbrev rmX3_init : Room := { frames := 1, cells := 4, slots := 63, locals := 12 }
theorem cd_X3_init : yX3_init.cls = RX3 ∧ yX3_init.cls ≠ "java/lang/invoke/MethodHandle" ∧ yX3_init.cls ≠ "java/lang/invoke/VarHandle" ∧ (parseMethodDescriptor yX3_init.desc).map (fun d => d.parameters.length) = some 0 := by decide +kernel
set_option maxRecDepth 100000 in
abbrev at_Hall_init (dC : Nat → ClassId) (dI : Nat → Nat → Nat) (cyB cyI cyJ cyZ : ClassId) (ah : Nat) (A : Nat → Prop) (Q : Int → Int → Int → (Int → Int) → (Int → Int) → (Int → Int) → (Int → Int) → Prop) : Unit → State → Prop := fun _ t => ∃ (ah_kind : Nat) (ah_walk : Nat) (ah_share : Nat) (ah_weight : Nat) (h_pegs : Int32) (h_ticks : Int32) (h_loss : Int32) (h_kind : Nat → Int32) (h_walk : Nat → Int32) (h_share : Nat → Int32) (h_weight : Nat → Int32), va_P (dC, dI) vwCl [(ah, .inr (3, [.ref ah_kind, .ref ah_walk, .ref ah_share, .ref ah_weight, .int h_pegs, .int h_ticks, .int h_loss])), (ah_kind, .inl (cyI, 24, .inl h_kind)), (ah_walk, .inl (cyI, 24, .inl h_walk)), (ah_share, .inl (cyI, 12, .inl h_share)), (ah_weight, .inl (cyI, 3, .inl h_weight))] t.heap ∧ va_D A [(ah, .inr (3, [.ref ah_kind, .ref ah_walk, .ref ah_share, .ref ah_weight, .int h_pegs, .int h_ticks, .int h_loss])), (ah_kind, .inl (cyI, 24, .inl h_kind)), (ah_walk, .inl (cyI, 24, .inl h_walk)), (ah_share, .inl (cyI, 12, .inl h_share)), (ah_weight, .inl (cyI, 3, .inl h_weight))] ∧ Q h_pegs.toInt h_ticks.toInt h_loss.toInt (aI 24 h_kind) (aI 24 h_walk) (aI 12 h_share) (aI 3 h_weight)
set_option maxHeartbeats 4000000 in
set_option maxRecDepth 100000 in
theorem ct_Hall_init (l : Launch) (dC : Nat → ClassId) (dI : Nat → Nat → Nat) (cyB cyI cyJ cyZ : ClassId) (ah : Nat) (sz : Nat) (Q : Int → Int → Int → (Int → Int) → (Int → Int) → (Int → Int) → (Int → Int) → Prop) : Met l yX3_init wsX3_init rmX3_init (va_Pc [.ref ah] (cPre (dC, dI) vwCl (tyS cyB cyI cyJ cyZ) [(ah, .inr (3, [.null, .null, .null, .null, .int (0 : Int32), .int (0 : Int32), .int (0 : Int32)]))] sz (nf_Hall_init Q))) (va_Qv (fun _ => True) (at_Hall_init dC dI cyB cyI cyJ cyZ ah (va_A [(ah, .inr (3, [.null, .null, .null, .null, .int (0 : Int32), .int (0 : Int32), .int (0 : Int32)]))] sz) Q) (va_A [(ah, .inr (3, [.null, .null, .null, .null, .int (0 : Int32), .int (0 : Int32), .int (0 : Int32)]))] sz)) 4 63 (va_A [(ah, .inr (3, [.null, .null, .null, .null, .int (0 : Int32), .int (0 : Int32), .int (0 : Int32)]))] sz) := by
  refine Met.ofW (cc := cX3_init) (maxL := 1) (ret := none) (by decide) rfl ?_
  intro p e s m args below meth c s₁ B hml hv
  obtain ⟨rfl, hsz, hP, hK, hD0, hNw, hw⟩ := hv
  have hx := B.exec
  have hb := B.bytes
  have hr := B.returns
  have hts := atoms_spec (ws := wsX3_init) B.pre
  have hown : s.vm.findClass RX3 = some m.cls := findClass_of_methodNamed B.named
  have hlocks := B.notSynchronized
  have hin : meth.name = "<init>" := (name_of_methodNamed B.named B.method).1
  subst hsz
  have hD := hD0.self (sz := s.heap.size)
  generalize hAe : va_A [(ah, .inr (3, [.null, .null, .null, .null, .int (0 : Int32), .int (0 : Int32), .int (0 : Int32)]))] s.heap.size = A at hD ⊢
  have hA : ∀ q : Nat, s.heap.size ≤ q → A q := fun q h => by rw [← hAe]; exact Or.inr h
  have hS : va_S A s.heap s.heap [] := va_S.rf
  have hl := lv_entry ([.ref ah]) (n := 1) (Nat.le_of_ble_eq_true rfl)
  rw [lg_entry_eq]
  generalize (lg_sl ([.ref ah]) ++ List.replicate (1 - (lg_sl ([.ref ah])).length) Slot.unset).toArray = ls at hl ⊢
  have hl : lv_has ls 1 [(0, .ref ah)] := hl
  refine gx_q (fun Q9 hQ => ?_)
  unfold nf_Hall_init at hw
  have hi_X3 : ∀ w ∈ wsX30, w ∈ wsX3_init := (sub_c (nq_m (n := 12) rfl) (sub_c (nq_m (n := 13) rfl) (sub_c (nq_m (n := 14) rfl) (sub_c (nq_m (n := 15) rfl) (sub_c (nq_m (n := 16) rfl) (sub_c (nq_m (n := 17) rfl) (sub_c (nq_m (n := 18) rfl) sub_n)))))))
  have hf9 : (Cond.fieldLink RX3 9 "CoatsHall$Hall" (TX3 0).2.1 (TX3 0).2.2.1).before ([.ref ah] : List Value).toArray s = true := hts (.fieldLink RX3 9 "CoatsHall$Hall" "kind" "[I") (nq_m (n := 5) rfl)
  have hf15 : (Cond.fieldLink RX3 15 "CoatsHall$Hall" (TX3 1).2.1 (TX3 1).2.2.1).before ([.ref ah] : List Value).toArray s = true := hts (.fieldLink RX3 15 "CoatsHall$Hall" "walk" "[I") (nq_m (n := 6) rfl)
  have hf18 : (Cond.fieldLink RX3 18 "CoatsHall$Hall" (TX3 2).2.1 (TX3 2).2.2.1).before ([.ref ah] : List Value).toArray s = true := hts (.fieldLink RX3 18 "CoatsHall$Hall" "share" "[I") (nq_m (n := 7) rfl)
  have hf21 : (Cond.fieldLink RX3 21 "CoatsHall$Hall" (TX3 3).2.1 (TX3 3).2.2.1).before ([.ref ah] : List Value).toArray s = true := hts (.fieldLink RX3 21 "CoatsHall$Hall" "weight" "[I") (nq_m (n := 8) rfl)
  have hf24 : (Cond.fieldLink RX3 24 "CoatsHall$Hall" (TX3 4).2.1 (TX3 4).2.2.1).before ([.ref ah] : List Value).toArray s = true := hts (.fieldLink RX3 24 "CoatsHall$Hall" "pegs" "I") (nq_m (n := 9) rfl)
  have hf28 : (Cond.fieldLink RX3 28 "CoatsHall$Hall" (TX3 5).2.1 (TX3 5).2.2.1).before ([.ref ah] : List Value).toArray s = true := hts (.fieldLink RX3 28 "CoatsHall$Hall" "ticks" "I") (nq_m (n := 10) rfl)
  have hf31 : (Cond.fieldLink RX3 31 "CoatsHall$Hall" (TX3 6).2.1 (TX3 6).2.2.1).before ([.ref ah] : List Value).toArray s = true := hts (.fieldLink RX3 31 "CoatsHall$Hall" "loss" "I") (nq_m (n := 11) rfl)
  refine lv_aload_n hx hb dX3_init_0 rfl (lv_at hl 0 rfl) ?_
  refine W.objInit hx hb hown (hts (.methodLink RX3 3 objectInit) (nq_m (n := 1) rfl)) (hts (.instanceMethod objectInit) (nq_m (n := 2) rfl)) (hts (.code objectInit ⟨#[0xb1]⟩ 1 none) (nq_m (n := 3) rfl)) rfl (by rw [hml]; exact hl.1) rfl dX3_init_1 (Nat.le_of_ble_eq_true rfl) (Nat.le_of_ble_eq_true rfl) ?_
  refine lv_aload_n hx hb dX3_init_4 rfl (lv_at hl 0 rfl) ?_
  refine lv_bipush (v := (24 : Int32)) hx hb dX3_init_5 (by decide) ?_
  refine gx_newi (N := 24) hx hb (hts (.arrayClass .int) (nq_m (n := 4) rfl)) hK hP hD hS hA 1 rfl (by decide) (by decide) (Nat.le_of_ble_eq_true rfl) (Nat.le_of_ble_eq_true rfl) (Nat.le_of_ble_eq_true rfl) dX3_init_7 hw (fun q1 f2 H hw hP hD hS => ?_)
  have hP : va_P (dC, dI) vwCl [(ah, .inr (3, [.null, .null, .null, .null, .int (0 : Int32), .int (0 : Int32), .int (0 : Int32)])), (q1, .inl (cyI, 24, .inl f2))] H := hP
  have hD : va_D A [(ah, .inr (3, [.null, .null, .null, .null, .int (0 : Int32), .int (0 : Int32), .int (0 : Int32)])), (q1, .inl (cyI, 24, .inl f2))] := hD
  refine gx_putF (D := (dC, dI)) (ci := 3) (v := .ref q1) (ty := (tyX3 0)) (C := RX3) (T := TX3) (N := 7) hx hb hts hi_X3 tyX3 tyX3_ok nmX3 hown hK hP hD hS 0 rfl rfl 0 (by decide) hf9 (fun _ h9 => h9) rfl hin rfl (by decide +kernel) rfl rfl (Nat.le_of_ble_eq_true rfl) dX3_init_9 [(ah, .inr (3, [.ref q1, .null, .null, .null, .int (0 : Int32), .int (0 : Int32), .int (0 : Int32)])), (q1, .inl (cyI, 24, .inl f2))] rfl (fun H locs hP hD hS => ?_)
  refine lv_aload_n hx hb dX3_init_12 rfl (lv_at hl 0 rfl) ?_
  refine lv_bipush (v := (24 : Int32)) hx hb dX3_init_13 (by decide) ?_
  refine gx_newi (N := 24) hx hb (hts (.arrayClass .int) (nq_m (n := 4) rfl)) hK hP hD hS hA 1 rfl (by decide) (by decide) (Nat.le_of_ble_eq_true rfl) (Nat.le_of_ble_eq_true rfl) (Nat.le_of_ble_eq_true rfl) dX3_init_15 hw (fun q3 f4 H hw hP hD hS => ?_)
  have hP : va_P (dC, dI) vwCl [(ah, .inr (3, [.ref q1, .null, .null, .null, .int (0 : Int32), .int (0 : Int32), .int (0 : Int32)])), (q1, .inl (cyI, 24, .inl f2)), (q3, .inl (cyI, 24, .inl f4))] H := hP
  have hD : va_D A [(ah, .inr (3, [.ref q1, .null, .null, .null, .int (0 : Int32), .int (0 : Int32), .int (0 : Int32)])), (q1, .inl (cyI, 24, .inl f2)), (q3, .inl (cyI, 24, .inl f4))] := hD
  refine gx_putF (D := (dC, dI)) (ci := 3) (v := .ref q3) (ty := (tyX3 1)) (C := RX3) (T := TX3) (N := 7) hx hb hts hi_X3 tyX3 tyX3_ok nmX3 hown hK hP hD hS 0 rfl rfl 1 (by decide) hf15 (fun _ h9 => h9) rfl hin rfl (by decide +kernel) rfl rfl (Nat.le_of_ble_eq_true rfl) dX3_init_17 [(ah, .inr (3, [.ref q1, .ref q3, .null, .null, .int (0 : Int32), .int (0 : Int32), .int (0 : Int32)])), (q1, .inl (cyI, 24, .inl f2)), (q3, .inl (cyI, 24, .inl f4))] rfl (fun H locs hP hD hS => ?_)
  refine lv_aload_n hx hb dX3_init_20 rfl (lv_at hl 0 rfl) ?_
  refine lv_bipush (v := (12 : Int32)) hx hb dX3_init_21 (by decide) ?_
  refine gx_newi (N := 12) hx hb (hts (.arrayClass .int) (nq_m (n := 4) rfl)) hK hP hD hS hA 1 rfl (by decide) (by decide) (Nat.le_of_ble_eq_true rfl) (Nat.le_of_ble_eq_true rfl) (Nat.le_of_ble_eq_true rfl) dX3_init_23 hw (fun q5 f6 H hw hP hD hS => ?_)
  have hP : va_P (dC, dI) vwCl [(ah, .inr (3, [.ref q1, .ref q3, .null, .null, .int (0 : Int32), .int (0 : Int32), .int (0 : Int32)])), (q1, .inl (cyI, 24, .inl f2)), (q3, .inl (cyI, 24, .inl f4)), (q5, .inl (cyI, 12, .inl f6))] H := hP
  have hD : va_D A [(ah, .inr (3, [.ref q1, .ref q3, .null, .null, .int (0 : Int32), .int (0 : Int32), .int (0 : Int32)])), (q1, .inl (cyI, 24, .inl f2)), (q3, .inl (cyI, 24, .inl f4)), (q5, .inl (cyI, 12, .inl f6))] := hD
  refine gx_putF (D := (dC, dI)) (ci := 3) (v := .ref q5) (ty := (tyX3 2)) (C := RX3) (T := TX3) (N := 7) hx hb hts hi_X3 tyX3 tyX3_ok nmX3 hown hK hP hD hS 0 rfl rfl 2 (by decide) hf18 (fun _ h9 => h9) rfl hin rfl (by decide +kernel) rfl rfl (Nat.le_of_ble_eq_true rfl) dX3_init_25 [(ah, .inr (3, [.ref q1, .ref q3, .ref q5, .null, .int (0 : Int32), .int (0 : Int32), .int (0 : Int32)])), (q1, .inl (cyI, 24, .inl f2)), (q3, .inl (cyI, 24, .inl f4)), (q5, .inl (cyI, 12, .inl f6))] rfl (fun H locs hP hD hS => ?_)
  refine lv_aload_n hx hb dX3_init_28 rfl (lv_at hl 0 rfl) ?_
  refine lv_iconst (v := (3 : Int32)) hx hb dX3_init_29 (by decide) ?_
  refine gx_newi (N := 3) hx hb (hts (.arrayClass .int) (nq_m (n := 4) rfl)) hK hP hD hS hA 1 rfl (by decide) (by decide) (Nat.le_of_ble_eq_true rfl) (Nat.le_of_ble_eq_true rfl) (Nat.le_of_ble_eq_true rfl) dX3_init_30 hw (fun q7 f8 H hw hP hD hS => ?_)
  have hP : va_P (dC, dI) vwCl [(ah, .inr (3, [.ref q1, .ref q3, .ref q5, .null, .int (0 : Int32), .int (0 : Int32), .int (0 : Int32)])), (q1, .inl (cyI, 24, .inl f2)), (q3, .inl (cyI, 24, .inl f4)), (q5, .inl (cyI, 12, .inl f6)), (q7, .inl (cyI, 3, .inl f8))] H := hP
  have hD : va_D A [(ah, .inr (3, [.ref q1, .ref q3, .ref q5, .null, .int (0 : Int32), .int (0 : Int32), .int (0 : Int32)])), (q1, .inl (cyI, 24, .inl f2)), (q3, .inl (cyI, 24, .inl f4)), (q5, .inl (cyI, 12, .inl f6)), (q7, .inl (cyI, 3, .inl f8))] := hD
  refine gx_putF (D := (dC, dI)) (ci := 3) (v := .ref q7) (ty := (tyX3 3)) (C := RX3) (T := TX3) (N := 7) hx hb hts hi_X3 tyX3 tyX3_ok nmX3 hown hK hP hD hS 0 rfl rfl 3 (by decide) hf21 (fun _ h9 => h9) rfl hin rfl (by decide +kernel) rfl rfl (Nat.le_of_ble_eq_true rfl) dX3_init_32 [(ah, .inr (3, [.ref q1, .ref q3, .ref q5, .ref q7, .int (0 : Int32), .int (0 : Int32), .int (0 : Int32)])), (q1, .inl (cyI, 24, .inl f2)), (q3, .inl (cyI, 24, .inl f4)), (q5, .inl (cyI, 12, .inl f6)), (q7, .inl (cyI, 3, .inl f8))] rfl (fun H locs hP hD hS => ?_)
  refine lv_aload_n hx hb dX3_init_35 rfl (lv_at hl 0 rfl) ?_
  refine lv_iconst (v := (0 : Int32)) hx hb dX3_init_36 (by decide) ?_
  refine gx_put (D := (dC, dI)) (ci := 3) (v := .int (0 : Int32)) (ty := .int) (C := RX3) (T := TX3) (N := 7) hx hb hts hi_X3 tyX3 tyX3_ok nmX3 hown hK hP hD hS 0 rfl rfl 4 (by decide) hf24 (fun _ h9 => h9) rfl (by decide +kernel) rfl rfl (Nat.le_of_ble_eq_true rfl) dX3_init_37 [(ah, .inr (3, [.ref q1, .ref q3, .ref q5, .ref q7, .int (0 : Int32), .int (0 : Int32), .int (0 : Int32)])), (q1, .inl (cyI, 24, .inl f2)), (q3, .inl (cyI, 24, .inl f4)), (q5, .inl (cyI, 12, .inl f6)), (q7, .inl (cyI, 3, .inl f8))] rfl (fun H locs hP hD hS => ?_)
  refine lv_aload_n hx hb dX3_init_40 rfl (lv_at hl 0 rfl) ?_
  refine lv_iconst (v := (0 : Int32)) hx hb dX3_init_41 (by decide) ?_
  refine gx_put (D := (dC, dI)) (ci := 3) (v := .int (0 : Int32)) (ty := .int) (C := RX3) (T := TX3) (N := 7) hx hb hts hi_X3 tyX3 tyX3_ok nmX3 hown hK hP hD hS 0 rfl rfl 5 (by decide) hf28 (fun _ h9 => h9) rfl (by decide +kernel) rfl rfl (Nat.le_of_ble_eq_true rfl) dX3_init_42 [(ah, .inr (3, [.ref q1, .ref q3, .ref q5, .ref q7, .int (0 : Int32), .int (0 : Int32), .int (0 : Int32)])), (q1, .inl (cyI, 24, .inl f2)), (q3, .inl (cyI, 24, .inl f4)), (q5, .inl (cyI, 12, .inl f6)), (q7, .inl (cyI, 3, .inl f8))] rfl (fun H locs hP hD hS => ?_)
  refine lv_aload_n hx hb dX3_init_45 rfl (lv_at hl 0 rfl) ?_
  refine lv_iconst (v := (0 : Int32)) hx hb dX3_init_46 (by decide) ?_
  refine gx_put (D := (dC, dI)) (ci := 3) (v := .int (0 : Int32)) (ty := .int) (C := RX3) (T := TX3) (N := 7) hx hb hts hi_X3 tyX3 tyX3_ok nmX3 hown hK hP hD hS 0 rfl rfl 6 (by decide) hf31 (fun _ h9 => h9) rfl (by decide +kernel) rfl rfl (Nat.le_of_ble_eq_true rfl) dX3_init_47 [(ah, .inr (3, [.ref q1, .ref q3, .ref q5, .ref q7, .int (0 : Int32), .int (0 : Int32), .int (0 : Int32)])), (q1, .inl (cyI, 24, .inl f2)), (q3, .inl (cyI, 24, .inl f4)), (q5, .inl (cyI, 12, .inl f6)), (q7, .inl (cyI, 3, .inl f8))] rfl (fun H locs hP hD hS => ?_)
  refine W.widen (k := 4) (n := 63) (Nat.le_of_ble_eq_true rfl) (Nat.le_of_ble_eq_true rfl) ?_
  refine W.widen (k := 4) (n := 63) (Nat.le_of_ble_eq_true rfl) (Nat.le_of_ble_eq_true rfl) ?_
  have hP := hP.sub [0, 1, 2, 3, 4] rfl
  have hD := hD.sub (ws' := [(ah, .inr (3, [.ref q1, .ref q3, .ref q5, .ref q7, .int (0 : Int32), .int (0 : Int32), .int (0 : Int32)])), (q1, .inl (cyI, 24, .inl f2)), (q3, .inl (cyI, 24, .inl f4)), (q5, .inl (cyI, 12, .inl f6)), (q7, .inl (cyI, 3, .inl f8))]) [0, 1, 2, 3, 4] (by decide) rfl
  exact rt_b hQ hx hb hr hlocks hS (fun t ht => ⟨q1, q3, q5, q7, (0 : Int32), (0 : Int32), (0 : Int32), f2, f4, f6, f8, by rw [ht]; exact hP, hD, hw⟩) dX3_init_50
abbrev rmX4_init : Room := { frames := 2, cells := 16, slots := 590, locals := 32 }
theorem cd_X4_init : yX4_init.cls = RX4 ∧ yX4_init.cls ≠ "java/lang/invoke/MethodHandle" ∧ yX4_init.cls ≠ "java/lang/invoke/VarHandle" ∧ (parseMethodDescriptor yX4_init.desc).map (fun d => d.parameters.length) = some 0 := by decide +kernel
set_option maxRecDepth 100000 in
abbrev at_Image_init (dC : Nat → ClassId) (dI : Nat → Nat → Nat) (cyB cyI cyJ cyZ : ClassId) (aw : Nat) (A : Nat → Prop) (Q : Int → Int → (Int → Int) → (Int → Int) → (Int → Int) → (Int → Int) → (Int → Int) → (Int → Int) → (Int → Int) → Int → (Int → Int) → Int → (Int → Int) → (Int → Int) → (Int → Int) → Int → (Int → Int) → Prop) : Unit → State → Prop := fun _ t => ∃ (ag : Nat) (ag_sort : Nat) (ag_kind : Nat) (ag_tip : Nat) (ag_marks : Nat) (ag_brass : Nat) (ag_peg : Nat) (ag_has : Nat) (ae : Nat) (ae_facts : Nat) (ac : Nat) (ac_guest : Nat) (ac_yes : Nat) (ac_no : Nat) (an : Nat) (an_left : Nat) (w_kept : Int32) (g_number : Int32) (e_number : Int32) (c_number : Int32) (n_number : Int32) (g_sort : Nat → Int32) (g_kind : Nat → Int32) (g_tip : Nat → Int32) (g_marks : Nat → Int32) (g_brass : Nat → Int32) (g_peg : Nat → Int32) (g_has : Nat → Int32) (e_facts : Nat → Int32) (c_guest : Nat → Int32) (c_yes : Nat → Int32) (c_no : Nat → Int32) (n_left : Nat → Int32), va_P (dC, dI) vwCl [(aw, .inr (4, [.ref ag, .ref ae, .ref ac, .ref an, .int w_kept])), (ag, .inr (2, [.int g_number, .ref ag_sort, .ref ag_kind, .ref ag_tip, .ref ag_marks, .ref ag_brass, .ref ag_peg, .ref ag_has])), (ag_sort, .inl (cyI, 16, .inl g_sort)), (ag_kind, .inl (cyI, 16, .inl g_kind)), (ag_tip, .inl (cyI, 16, .inl g_tip)), (ag_marks, .inl (cyI, 16, .inl g_marks)), (ag_brass, .inl (cyI, 16, .inl g_brass)), (ag_peg, .inl (cyI, 16, .inl g_peg)), (ag_has, .inl (cyI, 16, .inl g_has)), (ae, .inr (1, [.int e_number, .ref ae_facts])), (ae_facts, .inl (cyI, 420, .inl e_facts)), (ac, .inr (0, [.int c_number, .ref ac_guest, .ref ac_yes, .ref ac_no])), (ac_guest, .inl (cyI, 6, .inl c_guest)), (ac_yes, .inl (cyI, 6, .inl c_yes)), (ac_no, .inl (cyI, 6, .inl c_no)), (an, .inr (6, [.int n_number, .ref an_left])), (an_left, .inl (cyI, 24, .inl n_left))] t.heap ∧ va_D A [(aw, .inr (4, [.ref ag, .ref ae, .ref ac, .ref an, .int w_kept])), (ag, .inr (2, [.int g_number, .ref ag_sort, .ref ag_kind, .ref ag_tip, .ref ag_marks, .ref ag_brass, .ref ag_peg, .ref ag_has])), (ag_sort, .inl (cyI, 16, .inl g_sort)), (ag_kind, .inl (cyI, 16, .inl g_kind)), (ag_tip, .inl (cyI, 16, .inl g_tip)), (ag_marks, .inl (cyI, 16, .inl g_marks)), (ag_brass, .inl (cyI, 16, .inl g_brass)), (ag_peg, .inl (cyI, 16, .inl g_peg)), (ag_has, .inl (cyI, 16, .inl g_has)), (ae, .inr (1, [.int e_number, .ref ae_facts])), (ae_facts, .inl (cyI, 420, .inl e_facts)), (ac, .inr (0, [.int c_number, .ref ac_guest, .ref ac_yes, .ref ac_no])), (ac_guest, .inl (cyI, 6, .inl c_guest)), (ac_yes, .inl (cyI, 6, .inl c_yes)), (ac_no, .inl (cyI, 6, .inl c_no)), (an, .inr (6, [.int n_number, .ref an_left])), (an_left, .inl (cyI, 24, .inl n_left))] ∧ Q w_kept.toInt g_number.toInt (aI 16 g_sort) (aI 16 g_kind) (aI 16 g_tip) (aI 16 g_marks) (aI 16 g_brass) (aI 16 g_peg) (aI 16 g_has) e_number.toInt (aI 420 e_facts) c_number.toInt (aI 6 c_guest) (aI 6 c_yes) (aI 6 c_no) n_number.toInt (aI 24 n_left)
set_option maxHeartbeats 4000000 in
set_option maxRecDepth 100000 in
theorem ct_Image_init (l : Launch) (dC : Nat → ClassId) (dI : Nat → Nat → Nat) (cyB cyI cyJ cyZ : ClassId) (aw : Nat) (sz : Nat) (Q : Int → Int → (Int → Int) → (Int → Int) → (Int → Int) → (Int → Int) → (Int → Int) → (Int → Int) → (Int → Int) → Int → (Int → Int) → Int → (Int → Int) → (Int → Int) → (Int → Int) → Int → (Int → Int) → Prop) : Met l yX4_init wsX4_init rmX4_init (va_Pc [.ref aw] (cPre (dC, dI) vwCl (tyS cyB cyI cyJ cyZ) [(aw, .inr (4, [.null, .null, .null, .null, .int (0 : Int32)]))] sz (nf_Image_init Q))) (va_Qv (fun _ => True) (at_Image_init dC dI cyB cyI cyJ cyZ aw (va_A [(aw, .inr (4, [.null, .null, .null, .null, .int (0 : Int32)]))] sz) Q) (va_A [(aw, .inr (4, [.null, .null, .null, .null, .int (0 : Int32)]))] sz)) 16 590 (va_A [(aw, .inr (4, [.null, .null, .null, .null, .int (0 : Int32)]))] sz) := by
  refine Met.ofW (cc := cX4_init) (maxL := 1) (ret := none) (by decide) rfl ?_
  intro p e s m args below meth c s₁ B hml hv
  obtain ⟨rfl, hsz, hP, hK, hD0, hNw, hw⟩ := hv
  have hx := B.exec
  have hb := B.bytes
  have hr := B.returns
  have hts := atoms_spec (ws := wsX4_init) B.pre
  have hown : s.vm.findClass RX4 = some m.cls := findClass_of_methodNamed B.named
  have hlocks := B.notSynchronized
  have hin : meth.name = "<init>" := (name_of_methodNamed B.named B.method).1
  subst hsz
  have hD := hD0.self (sz := s.heap.size)
  generalize hAe : va_A [(aw, .inr (4, [.null, .null, .null, .null, .int (0 : Int32)]))] s.heap.size = A at hD ⊢
  have hA : ∀ q : Nat, s.heap.size ≤ q → A q := fun q h => by rw [← hAe]; exact Or.inr h
  have hS : va_S A s.heap s.heap [] := va_S.rf
  have hl := lv_entry ([.ref aw]) (n := 1) (Nat.le_of_ble_eq_true rfl)
  rw [lg_entry_eq]
  generalize (lg_sl ([.ref aw]) ++ List.replicate (1 - (lg_sl ([.ref aw])).length) Slot.unset).toArray = ls at hl ⊢
  have hl : lv_has ls 1 [(0, .ref aw)] := hl
  refine gx_q (fun Q9 hQ => ?_)
  unfold nf_Image_init at hw
  have hi_X2 : ∀ w ∈ wsX20, w ∈ wsX4_init := (sub_c (nq_m (n := 50) rfl) (sub_c (nq_m (n := 51) rfl) (sub_c (nq_m (n := 52) rfl) (sub_c (nq_m (n := 53) rfl) (sub_c (nq_m (n := 54) rfl) (sub_c (nq_m (n := 55) rfl) (sub_c (nq_m (n := 56) rfl) (sub_c (nq_m (n := 57) rfl) sub_n))))))))
  have hi_X4 : ∀ w ∈ wsX40, w ∈ wsX4_init := (sub_c (nq_m (n := 58) rfl) (sub_c (nq_m (n := 59) rfl) (sub_c (nq_m (n := 60) rfl) (sub_c (nq_m (n := 61) rfl) (sub_c (nq_m (n := 62) rfl) sub_n)))))
  have hf10 : (Cond.fieldLink RX4 10 "CoatsHall$Image" (TX4 0).2.1 (TX4 0).2.2.1).before ([.ref aw] : List Value).toArray s = true := hts (.fieldLink RX4 10 "CoatsHall$Image" "guests" "LCoatsHall$Guests;") (nq_m (n := 7) rfl)
  have hi_X1 : ∀ w ∈ wsX10, w ∈ wsX4_init := (sub_c (nq_m (n := 63) rfl) (sub_c (nq_m (n := 64) rfl) sub_n))
  have hf19 : (Cond.fieldLink RX4 19 "CoatsHall$Image" (TX4 1).2.1 (TX4 1).2.2.1).before ([.ref aw] : List Value).toArray s = true := hts (.fieldLink RX4 19 "CoatsHall$Image" "events" "LCoatsHall$Events;") (nq_m (n := 11) rfl)
  have hi_X0 : ∀ w ∈ wsX00, w ∈ wsX4_init := (sub_c (nq_m (n := 65) rfl) (sub_c (nq_m (n := 66) rfl) (sub_c (nq_m (n := 67) rfl) (sub_c (nq_m (n := 68) rfl) sub_n))))
  have hf26 : (Cond.fieldLink RX4 26 "CoatsHall$Image" (TX4 2).2.1 (TX4 2).2.2.1).before ([.ref aw] : List Value).toArray s = true := hts (.fieldLink RX4 26 "CoatsHall$Image" "claims" "LCoatsHall$Claims;") (nq_m (n := 15) rfl)
  have hi_X6 : ∀ w ∈ wsX60, w ∈ wsX4_init := (sub_c (nq_m (n := 69) rfl) (sub_c (nq_m (n := 70) rfl) sub_n))
  have hf33 : (Cond.fieldLink RX4 33 "CoatsHall$Image" (TX4 3).2.1 (TX4 3).2.2.1).before ([.ref aw] : List Value).toArray s = true := hts (.fieldLink RX4 33 "CoatsHall$Image" "nights" "LCoatsHall$Nights;") (nq_m (n := 19) rfl)
  have hf37 : (Cond.fieldLink RX4 37 "CoatsHall$Image" (TX4 4).2.1 (TX4 4).2.2.1).before ([.ref aw] : List Value).toArray s = true := hts (.fieldLink RX4 37 "CoatsHall$Image" "kept" "Z") (nq_m (n := 20) rfl)
  refine lv_aload_n hx hb dX4_init_0 rfl (lv_at hl 0 rfl) ?_
  refine W.objInit hx hb hown (hts (.methodLink RX4 1 objectInit) (nq_m (n := 1) rfl)) (hts (.instanceMethod objectInit) (nq_m (n := 2) rfl)) (hts (.code objectInit ⟨#[0xb1]⟩ 1 none) (nq_m (n := 3) rfl)) rfl (by rw [hml]; exact hl.1) rfl dX4_init_1 (Nat.le_of_ble_eq_true rfl) (Nat.le_of_ble_eq_true rfl) ?_
  refine lv_aload_n hx hb dX4_init_4 rfl (lv_at hl 0 rfl) ?_
  refine va_new (ci := 2) (fs := [.int (0 : Int32), .null, .null, .null, .null, .null, .null, .null]) (C := RX2) (T := TX2) (N := 8) hx hb hts hi_X2 tyX2 tyX2_ok hown (hts (.classLink RX4 7 RX2) (nq_m (n := 4) rfl)) (hts (.instantiable RX2 8) (nq_m (n := 5) rfl)) (hts (.initialized RX2) (nq_m (n := 6) rfl)) hK hP hD hS hA rfl (fun j hj => match j, hj with | 0, _ => rfl | 1, _ => rfl | 2, _ => rfl | 3, _ => rfl | 4, _ => rfl | 5, _ => rfl | 6, _ => rfl | 7, _ => rfl | z + 8, h => absurd h (by omega)) (Nat.le_of_ble_eq_true rfl) (Nat.le_of_ble_eq_true rfl) dX4_init_5 (fun q1 H hP hD hS => ?_)
  have hP : va_P (dC, dI) vwCl [(aw, .inr (4, [.null, .null, .null, .null, .int (0 : Int32)])), (q1, .inr (2, [.int (0 : Int32), .null, .null, .null, .null, .null, .null, .null]))] H := hP
  have hD : va_D A [(aw, .inr (4, [.null, .null, .null, .null, .int (0 : Int32)])), (q1, .inr (2, [.int (0 : Int32), .null, .null, .null, .null, .null, .null, .null]))] := hD
  refine lv_dup hx hb dX4_init_8 rfl ?_
  refine gx_rb (wr := [(aw, .inr (4, [.null, .null, .null, .null, .int (0 : Int32)]))]) (va_runIN (As := []) (rest := [.ref q1, .ref aw]) ⟨hx, hb, hml, hown, hts⟩ (ct_Guests_init l dC dI cyB cyI cyJ cyZ q1 _ _) ⟨va_cnB 0 hts gX4_init_X2_init_n9 rfl rfl rfl (hNw 4 _ rfl) (hts (.initialized RX2) (nq_m (n := 6) rfl)) cd_X2_init.2 ⟨Nat.le_of_ble_eq_true rfl, Nat.le_of_ble_eq_true rfl⟩, rfl, hts (.instanceMethod yX2_init) (nq_m (n := 21) rfl)⟩ (gx_preS hK hP hD hNw [1] rfl (by decide) hw) rfl rfl hl.1 rfl (lv_room (Nat.le_of_ble_eq_true rfl)) dX4_init_9 ⟨Nat.le_of_ble_eq_true rfl, Nat.le_of_ble_eq_true rfl⟩) hP hD hS hA [1] [0] rfl rfl (by decide) (by decide) (fun t H locs hB hj hS => ?_)
  obtain ⟨q2, q3, q4, q5, q6, q7, q8, z9, f10, f11, f12, f13, f14, f15, f16, hP1, hD1, hw⟩ := hB
  obtain ⟨hP, hD⟩ := hj _ hP1 hD1
  have hP : va_P (dC, dI) vwCl [(aw, .inr (4, [.null, .null, .null, .null, .int (0 : Int32)])), (q1, .inr (2, [.int z9, .ref q2, .ref q3, .ref q4, .ref q5, .ref q6, .ref q7, .ref q8])), (q2, .inl (cyI, 16, .inl f10)), (q3, .inl (cyI, 16, .inl f11)), (q4, .inl (cyI, 16, .inl f12)), (q5, .inl (cyI, 16, .inl f13)), (q6, .inl (cyI, 16, .inl f14)), (q7, .inl (cyI, 16, .inl f15)), (q8, .inl (cyI, 16, .inl f16))] H := hP
  have hD : va_D A [(aw, .inr (4, [.null, .null, .null, .null, .int (0 : Int32)])), (q1, .inr (2, [.int z9, .ref q2, .ref q3, .ref q4, .ref q5, .ref q6, .ref q7, .ref q8])), (q2, .inl (cyI, 16, .inl f10)), (q3, .inl (cyI, 16, .inl f11)), (q4, .inl (cyI, 16, .inl f12)), (q5, .inl (cyI, 16, .inl f13)), (q6, .inl (cyI, 16, .inl f14)), (q7, .inl (cyI, 16, .inl f15)), (q8, .inl (cyI, 16, .inl f16))] := hD
  refine gx_putF (D := (dC, dI)) (ci := 4) (v := .ref q1) (ty := (tyX4 0)) (C := RX4) (T := TX4) (N := 5) hx hb hts hi_X4 tyX4 tyX4_ok nmX4 hown hK hP hD hS 0 rfl rfl 0 (by decide) hf10 (fun _ h9 => h9) rfl hin rfl (by decide +kernel) rfl rfl (Nat.le_of_ble_eq_true rfl) dX4_init_12 [(aw, .inr (4, [.ref q1, .null, .null, .null, .int (0 : Int32)])), (q1, .inr (2, [.int z9, .ref q2, .ref q3, .ref q4, .ref q5, .ref q6, .ref q7, .ref q8])), (q2, .inl (cyI, 16, .inl f10)), (q3, .inl (cyI, 16, .inl f11)), (q4, .inl (cyI, 16, .inl f12)), (q5, .inl (cyI, 16, .inl f13)), (q6, .inl (cyI, 16, .inl f14)), (q7, .inl (cyI, 16, .inl f15)), (q8, .inl (cyI, 16, .inl f16))] rfl (fun H locs hP hD hS => ?_)
  refine lv_aload_n hx hb dX4_init_15 rfl (lv_at hl 0 rfl) ?_
  refine va_new (ci := 1) (fs := [.int (0 : Int32), .null]) (C := RX1) (T := TX1) (N := 2) hx hb hts hi_X1 tyX1 tyX1_ok hown (hts (.classLink RX4 16 RX1) (nq_m (n := 8) rfl)) (hts (.instantiable RX1 2) (nq_m (n := 9) rfl)) (hts (.initialized RX1) (nq_m (n := 10) rfl)) hK hP hD hS hA rfl (fun j hj => match j, hj with | 0, _ => rfl | 1, _ => rfl | z + 2, h => absurd h (by omega)) (Nat.le_of_ble_eq_true rfl) (Nat.le_of_ble_eq_true rfl) dX4_init_16 (fun q17 H hP hD hS => ?_)
  have hP : va_P (dC, dI) vwCl [(aw, .inr (4, [.ref q1, .null, .null, .null, .int (0 : Int32)])), (q1, .inr (2, [.int z9, .ref q2, .ref q3, .ref q4, .ref q5, .ref q6, .ref q7, .ref q8])), (q2, .inl (cyI, 16, .inl f10)), (q3, .inl (cyI, 16, .inl f11)), (q4, .inl (cyI, 16, .inl f12)), (q5, .inl (cyI, 16, .inl f13)), (q6, .inl (cyI, 16, .inl f14)), (q7, .inl (cyI, 16, .inl f15)), (q8, .inl (cyI, 16, .inl f16)), (q17, .inr (1, [.int (0 : Int32), .null]))] H := hP
  have hD : va_D A [(aw, .inr (4, [.ref q1, .null, .null, .null, .int (0 : Int32)])), (q1, .inr (2, [.int z9, .ref q2, .ref q3, .ref q4, .ref q5, .ref q6, .ref q7, .ref q8])), (q2, .inl (cyI, 16, .inl f10)), (q3, .inl (cyI, 16, .inl f11)), (q4, .inl (cyI, 16, .inl f12)), (q5, .inl (cyI, 16, .inl f13)), (q6, .inl (cyI, 16, .inl f14)), (q7, .inl (cyI, 16, .inl f15)), (q8, .inl (cyI, 16, .inl f16)), (q17, .inr (1, [.int (0 : Int32), .null]))] := hD
  refine lv_dup hx hb dX4_init_19 rfl ?_
  refine gx_rb (wr := [(aw, .inr (4, [.ref q1, .null, .null, .null, .int (0 : Int32)])), (q1, .inr (2, [.int z9, .ref q2, .ref q3, .ref q4, .ref q5, .ref q6, .ref q7, .ref q8])), (q2, .inl (cyI, 16, .inl f10)), (q3, .inl (cyI, 16, .inl f11)), (q4, .inl (cyI, 16, .inl f12)), (q5, .inl (cyI, 16, .inl f13)), (q6, .inl (cyI, 16, .inl f14)), (q7, .inl (cyI, 16, .inl f15)), (q8, .inl (cyI, 16, .inl f16))]) (va_runIN (As := []) (rest := [.ref q17, .ref aw]) ⟨hx, hb, hml, hown, hts⟩ (ct_Events_init l dC dI cyB cyI cyJ cyZ q17 _ _) ⟨va_cnB 0 hts gX4_init_X1_init_n18 rfl rfl rfl (hNw 5 _ rfl) (hts (.initialized RX1) (nq_m (n := 10) rfl)) cd_X1_init.2 ⟨Nat.le_of_ble_eq_true rfl, Nat.le_of_ble_eq_true rfl⟩, rfl, hts (.instanceMethod yX1_init) (nq_m (n := 33) rfl)⟩ (gx_preS hK hP hD hNw [9] rfl (by decide) hw) rfl rfl hl.1 rfl (lv_room (Nat.le_of_ble_eq_true rfl)) dX4_init_20 ⟨Nat.le_of_ble_eq_true rfl, Nat.le_of_ble_eq_true rfl⟩) hP hD hS hA [9] [0, 1, 2, 3, 4, 5, 6, 7, 8] rfl rfl (by decide) (by decide) (fun t H locs hB hj hS => ?_)
  obtain ⟨q18, z19, f20, hP1, hD1, hw⟩ := hB
  obtain ⟨hP, hD⟩ := hj _ hP1 hD1
  have hP : va_P (dC, dI) vwCl [(aw, .inr (4, [.ref q1, .null, .null, .null, .int (0 : Int32)])), (q1, .inr (2, [.int z9, .ref q2, .ref q3, .ref q4, .ref q5, .ref q6, .ref q7, .ref q8])), (q2, .inl (cyI, 16, .inl f10)), (q3, .inl (cyI, 16, .inl f11)), (q4, .inl (cyI, 16, .inl f12)), (q5, .inl (cyI, 16, .inl f13)), (q6, .inl (cyI, 16, .inl f14)), (q7, .inl (cyI, 16, .inl f15)), (q8, .inl (cyI, 16, .inl f16)), (q17, .inr (1, [.int z19, .ref q18])), (q18, .inl (cyI, 420, .inl f20))] H := hP
  have hD : va_D A [(aw, .inr (4, [.ref q1, .null, .null, .null, .int (0 : Int32)])), (q1, .inr (2, [.int z9, .ref q2, .ref q3, .ref q4, .ref q5, .ref q6, .ref q7, .ref q8])), (q2, .inl (cyI, 16, .inl f10)), (q3, .inl (cyI, 16, .inl f11)), (q4, .inl (cyI, 16, .inl f12)), (q5, .inl (cyI, 16, .inl f13)), (q6, .inl (cyI, 16, .inl f14)), (q7, .inl (cyI, 16, .inl f15)), (q8, .inl (cyI, 16, .inl f16)), (q17, .inr (1, [.int z19, .ref q18])), (q18, .inl (cyI, 420, .inl f20))] := hD
  refine gx_putF (D := (dC, dI)) (ci := 4) (v := .ref q17) (ty := (tyX4 1)) (C := RX4) (T := TX4) (N := 5) hx hb hts hi_X4 tyX4 tyX4_ok nmX4 hown hK hP hD hS 0 rfl rfl 1 (by decide) hf19 (fun _ h9 => h9) rfl hin rfl (by decide +kernel) rfl rfl (Nat.le_of_ble_eq_true rfl) dX4_init_23 [(aw, .inr (4, [.ref q1, .ref q17, .null, .null, .int (0 : Int32)])), (q1, .inr (2, [.int z9, .ref q2, .ref q3, .ref q4, .ref q5, .ref q6, .ref q7, .ref q8])), (q2, .inl (cyI, 16, .inl f10)), (q3, .inl (cyI, 16, .inl f11)), (q4, .inl (cyI, 16, .inl f12)), (q5, .inl (cyI, 16, .inl f13)), (q6, .inl (cyI, 16, .inl f14)), (q7, .inl (cyI, 16, .inl f15)), (q8, .inl (cyI, 16, .inl f16)), (q17, .inr (1, [.int z19, .ref q18])), (q18, .inl (cyI, 420, .inl f20))] rfl (fun H locs hP hD hS => ?_)
  refine lv_aload_n hx hb dX4_init_26 rfl (lv_at hl 0 rfl) ?_
  refine va_new (ci := 0) (fs := [.int (0 : Int32), .null, .null, .null]) (C := RX0) (T := TX0) (N := 4) hx hb hts hi_X0 tyX0 tyX0_ok hown (hts (.classLink RX4 23 RX0) (nq_m (n := 12) rfl)) (hts (.instantiable RX0 4) (nq_m (n := 13) rfl)) (hts (.initialized RX0) (nq_m (n := 14) rfl)) hK hP hD hS hA rfl (fun j hj => match j, hj with | 0, _ => rfl | 1, _ => rfl | 2, _ => rfl | 3, _ => rfl | z + 4, h => absurd h (by omega)) (Nat.le_of_ble_eq_true rfl) (Nat.le_of_ble_eq_true rfl) dX4_init_27 (fun q21 H hP hD hS => ?_)
  have hP : va_P (dC, dI) vwCl [(aw, .inr (4, [.ref q1, .ref q17, .null, .null, .int (0 : Int32)])), (q1, .inr (2, [.int z9, .ref q2, .ref q3, .ref q4, .ref q5, .ref q6, .ref q7, .ref q8])), (q2, .inl (cyI, 16, .inl f10)), (q3, .inl (cyI, 16, .inl f11)), (q4, .inl (cyI, 16, .inl f12)), (q5, .inl (cyI, 16, .inl f13)), (q6, .inl (cyI, 16, .inl f14)), (q7, .inl (cyI, 16, .inl f15)), (q8, .inl (cyI, 16, .inl f16)), (q17, .inr (1, [.int z19, .ref q18])), (q18, .inl (cyI, 420, .inl f20)), (q21, .inr (0, [.int (0 : Int32), .null, .null, .null]))] H := hP
  have hD : va_D A [(aw, .inr (4, [.ref q1, .ref q17, .null, .null, .int (0 : Int32)])), (q1, .inr (2, [.int z9, .ref q2, .ref q3, .ref q4, .ref q5, .ref q6, .ref q7, .ref q8])), (q2, .inl (cyI, 16, .inl f10)), (q3, .inl (cyI, 16, .inl f11)), (q4, .inl (cyI, 16, .inl f12)), (q5, .inl (cyI, 16, .inl f13)), (q6, .inl (cyI, 16, .inl f14)), (q7, .inl (cyI, 16, .inl f15)), (q8, .inl (cyI, 16, .inl f16)), (q17, .inr (1, [.int z19, .ref q18])), (q18, .inl (cyI, 420, .inl f20)), (q21, .inr (0, [.int (0 : Int32), .null, .null, .null]))] := hD
  refine lv_dup hx hb dX4_init_30 rfl ?_
  refine gx_rb (wr := [(aw, .inr (4, [.ref q1, .ref q17, .null, .null, .int (0 : Int32)])), (q1, .inr (2, [.int z9, .ref q2, .ref q3, .ref q4, .ref q5, .ref q6, .ref q7, .ref q8])), (q2, .inl (cyI, 16, .inl f10)), (q3, .inl (cyI, 16, .inl f11)), (q4, .inl (cyI, 16, .inl f12)), (q5, .inl (cyI, 16, .inl f13)), (q6, .inl (cyI, 16, .inl f14)), (q7, .inl (cyI, 16, .inl f15)), (q8, .inl (cyI, 16, .inl f16)), (q17, .inr (1, [.int z19, .ref q18])), (q18, .inl (cyI, 420, .inl f20))]) (va_runIN (As := []) (rest := [.ref q21, .ref aw]) ⟨hx, hb, hml, hown, hts⟩ (ct_Claims_init l dC dI cyB cyI cyJ cyZ q21 _ _) ⟨va_cnB 0 hts gX4_init_X0_init_n25 rfl rfl rfl (hNw 6 _ rfl) (hts (.initialized RX0) (nq_m (n := 14) rfl)) cd_X0_init.2 ⟨Nat.le_of_ble_eq_true rfl, Nat.le_of_ble_eq_true rfl⟩, rfl, hts (.instanceMethod yX0_init) (nq_m (n := 38) rfl)⟩ (gx_preS hK hP hD hNw [11] rfl (by decide) hw) rfl rfl hl.1 rfl (lv_room (Nat.le_of_ble_eq_true rfl)) dX4_init_31 ⟨Nat.le_of_ble_eq_true rfl, Nat.le_of_ble_eq_true rfl⟩) hP hD hS hA [11] [0, 1, 2, 3, 4, 5, 6, 7, 8, 9, 10] rfl rfl (by decide) (by decide) (fun t H locs hB hj hS => ?_)
  obtain ⟨q22, q23, q24, z25, f26, f27, f28, hP1, hD1, hw⟩ := hB
  obtain ⟨hP, hD⟩ := hj _ hP1 hD1
  have hP : va_P (dC, dI) vwCl [(aw, .inr (4, [.ref q1, .ref q17, .null, .null, .int (0 : Int32)])), (q1, .inr (2, [.int z9, .ref q2, .ref q3, .ref q4, .ref q5, .ref q6, .ref q7, .ref q8])), (q2, .inl (cyI, 16, .inl f10)), (q3, .inl (cyI, 16, .inl f11)), (q4, .inl (cyI, 16, .inl f12)), (q5, .inl (cyI, 16, .inl f13)), (q6, .inl (cyI, 16, .inl f14)), (q7, .inl (cyI, 16, .inl f15)), (q8, .inl (cyI, 16, .inl f16)), (q17, .inr (1, [.int z19, .ref q18])), (q18, .inl (cyI, 420, .inl f20)), (q21, .inr (0, [.int z25, .ref q22, .ref q23, .ref q24])), (q22, .inl (cyI, 6, .inl f26)), (q23, .inl (cyI, 6, .inl f27)), (q24, .inl (cyI, 6, .inl f28))] H := hP
  have hD : va_D A [(aw, .inr (4, [.ref q1, .ref q17, .null, .null, .int (0 : Int32)])), (q1, .inr (2, [.int z9, .ref q2, .ref q3, .ref q4, .ref q5, .ref q6, .ref q7, .ref q8])), (q2, .inl (cyI, 16, .inl f10)), (q3, .inl (cyI, 16, .inl f11)), (q4, .inl (cyI, 16, .inl f12)), (q5, .inl (cyI, 16, .inl f13)), (q6, .inl (cyI, 16, .inl f14)), (q7, .inl (cyI, 16, .inl f15)), (q8, .inl (cyI, 16, .inl f16)), (q17, .inr (1, [.int z19, .ref q18])), (q18, .inl (cyI, 420, .inl f20)), (q21, .inr (0, [.int z25, .ref q22, .ref q23, .ref q24])), (q22, .inl (cyI, 6, .inl f26)), (q23, .inl (cyI, 6, .inl f27)), (q24, .inl (cyI, 6, .inl f28))] := hD
  refine gx_putF (D := (dC, dI)) (ci := 4) (v := .ref q21) (ty := (tyX4 2)) (C := RX4) (T := TX4) (N := 5) hx hb hts hi_X4 tyX4 tyX4_ok nmX4 hown hK hP hD hS 0 rfl rfl 2 (by decide) hf26 (fun _ h9 => h9) rfl hin rfl (by decide +kernel) rfl rfl (Nat.le_of_ble_eq_true rfl) dX4_init_34 [(aw, .inr (4, [.ref q1, .ref q17, .ref q21, .null, .int (0 : Int32)])), (q1, .inr (2, [.int z9, .ref q2, .ref q3, .ref q4, .ref q5, .ref q6, .ref q7, .ref q8])), (q2, .inl (cyI, 16, .inl f10)), (q3, .inl (cyI, 16, .inl f11)), (q4, .inl (cyI, 16, .inl f12)), (q5, .inl (cyI, 16, .inl f13)), (q6, .inl (cyI, 16, .inl f14)), (q7, .inl (cyI, 16, .inl f15)), (q8, .inl (cyI, 16, .inl f16)), (q17, .inr (1, [.int z19, .ref q18])), (q18, .inl (cyI, 420, .inl f20)), (q21, .inr (0, [.int z25, .ref q22, .ref q23, .ref q24])), (q22, .inl (cyI, 6, .inl f26)), (q23, .inl (cyI, 6, .inl f27)), (q24, .inl (cyI, 6, .inl f28))] rfl (fun H locs hP hD hS => ?_)
  refine lv_aload_n hx hb dX4_init_37 rfl (lv_at hl 0 rfl) ?_
  refine va_new (ci := 6) (fs := [.int (0 : Int32), .null]) (C := RX6) (T := TX6) (N := 2) hx hb hts hi_X6 tyX6 tyX6_ok hown (hts (.classLink RX4 30 RX6) (nq_m (n := 16) rfl)) (hts (.instantiable RX6 2) (nq_m (n := 17) rfl)) (hts (.initialized RX6) (nq_m (n := 18) rfl)) hK hP hD hS hA rfl (fun j hj => match j, hj with | 0, _ => rfl | 1, _ => rfl | z + 2, h => absurd h (by omega)) (Nat.le_of_ble_eq_true rfl) (Nat.le_of_ble_eq_true rfl) dX4_init_38 (fun q29 H hP hD hS => ?_)
  have hP : va_P (dC, dI) vwCl [(aw, .inr (4, [.ref q1, .ref q17, .ref q21, .null, .int (0 : Int32)])), (q1, .inr (2, [.int z9, .ref q2, .ref q3, .ref q4, .ref q5, .ref q6, .ref q7, .ref q8])), (q2, .inl (cyI, 16, .inl f10)), (q3, .inl (cyI, 16, .inl f11)), (q4, .inl (cyI, 16, .inl f12)), (q5, .inl (cyI, 16, .inl f13)), (q6, .inl (cyI, 16, .inl f14)), (q7, .inl (cyI, 16, .inl f15)), (q8, .inl (cyI, 16, .inl f16)), (q17, .inr (1, [.int z19, .ref q18])), (q18, .inl (cyI, 420, .inl f20)), (q21, .inr (0, [.int z25, .ref q22, .ref q23, .ref q24])), (q22, .inl (cyI, 6, .inl f26)), (q23, .inl (cyI, 6, .inl f27)), (q24, .inl (cyI, 6, .inl f28)), (q29, .inr (6, [.int (0 : Int32), .null]))] H := hP
  have hD : va_D A [(aw, .inr (4, [.ref q1, .ref q17, .ref q21, .null, .int (0 : Int32)])), (q1, .inr (2, [.int z9, .ref q2, .ref q3, .ref q4, .ref q5, .ref q6, .ref q7, .ref q8])), (q2, .inl (cyI, 16, .inl f10)), (q3, .inl (cyI, 16, .inl f11)), (q4, .inl (cyI, 16, .inl f12)), (q5, .inl (cyI, 16, .inl f13)), (q6, .inl (cyI, 16, .inl f14)), (q7, .inl (cyI, 16, .inl f15)), (q8, .inl (cyI, 16, .inl f16)), (q17, .inr (1, [.int z19, .ref q18])), (q18, .inl (cyI, 420, .inl f20)), (q21, .inr (0, [.int z25, .ref q22, .ref q23, .ref q24])), (q22, .inl (cyI, 6, .inl f26)), (q23, .inl (cyI, 6, .inl f27)), (q24, .inl (cyI, 6, .inl f28)), (q29, .inr (6, [.int (0 : Int32), .null]))] := hD
  refine lv_dup hx hb dX4_init_41 rfl ?_
  refine gx_rb (wr := [(aw, .inr (4, [.ref q1, .ref q17, .ref q21, .null, .int (0 : Int32)])), (q1, .inr (2, [.int z9, .ref q2, .ref q3, .ref q4, .ref q5, .ref q6, .ref q7, .ref q8])), (q2, .inl (cyI, 16, .inl f10)), (q3, .inl (cyI, 16, .inl f11)), (q4, .inl (cyI, 16, .inl f12)), (q5, .inl (cyI, 16, .inl f13)), (q6, .inl (cyI, 16, .inl f14)), (q7, .inl (cyI, 16, .inl f15)), (q8, .inl (cyI, 16, .inl f16)), (q17, .inr (1, [.int z19, .ref q18])), (q18, .inl (cyI, 420, .inl f20)), (q21, .inr (0, [.int z25, .ref q22, .ref q23, .ref q24])), (q22, .inl (cyI, 6, .inl f26)), (q23, .inl (cyI, 6, .inl f27)), (q24, .inl (cyI, 6, .inl f28))]) (va_runIN (As := []) (rest := [.ref q29, .ref aw]) ⟨hx, hb, hml, hown, hts⟩ (ct_Nights_init l dC dI cyB cyI cyJ cyZ q29 _ _) ⟨va_cnB 0 hts gX4_init_X6_init_n32 rfl rfl rfl (hNw 7 _ rfl) (hts (.initialized RX6) (nq_m (n := 18) rfl)) cd_X6_init.2 ⟨Nat.le_of_ble_eq_true rfl, Nat.le_of_ble_eq_true rfl⟩, rfl, hts (.instanceMethod yX6_init) (nq_m (n := 45) rfl)⟩ (gx_preS hK hP hD hNw [15] rfl (by decide) hw) rfl rfl hl.1 rfl (lv_room (Nat.le_of_ble_eq_true rfl)) dX4_init_42 ⟨Nat.le_of_ble_eq_true rfl, Nat.le_of_ble_eq_true rfl⟩) hP hD hS hA [15] [0, 1, 2, 3, 4, 5, 6, 7, 8, 9, 10, 11, 12, 13, 14] rfl rfl (by decide) (by decide) (fun t H locs hB hj hS => ?_)
  obtain ⟨q30, z31, f32, hP1, hD1, hw⟩ := hB
  obtain ⟨hP, hD⟩ := hj _ hP1 hD1
  have hP : va_P (dC, dI) vwCl [(aw, .inr (4, [.ref q1, .ref q17, .ref q21, .null, .int (0 : Int32)])), (q1, .inr (2, [.int z9, .ref q2, .ref q3, .ref q4, .ref q5, .ref q6, .ref q7, .ref q8])), (q2, .inl (cyI, 16, .inl f10)), (q3, .inl (cyI, 16, .inl f11)), (q4, .inl (cyI, 16, .inl f12)), (q5, .inl (cyI, 16, .inl f13)), (q6, .inl (cyI, 16, .inl f14)), (q7, .inl (cyI, 16, .inl f15)), (q8, .inl (cyI, 16, .inl f16)), (q17, .inr (1, [.int z19, .ref q18])), (q18, .inl (cyI, 420, .inl f20)), (q21, .inr (0, [.int z25, .ref q22, .ref q23, .ref q24])), (q22, .inl (cyI, 6, .inl f26)), (q23, .inl (cyI, 6, .inl f27)), (q24, .inl (cyI, 6, .inl f28)), (q29, .inr (6, [.int z31, .ref q30])), (q30, .inl (cyI, 24, .inl f32))] H := hP
  have hD : va_D A [(aw, .inr (4, [.ref q1, .ref q17, .ref q21, .null, .int (0 : Int32)])), (q1, .inr (2, [.int z9, .ref q2, .ref q3, .ref q4, .ref q5, .ref q6, .ref q7, .ref q8])), (q2, .inl (cyI, 16, .inl f10)), (q3, .inl (cyI, 16, .inl f11)), (q4, .inl (cyI, 16, .inl f12)), (q5, .inl (cyI, 16, .inl f13)), (q6, .inl (cyI, 16, .inl f14)), (q7, .inl (cyI, 16, .inl f15)), (q8, .inl (cyI, 16, .inl f16)), (q17, .inr (1, [.int z19, .ref q18])), (q18, .inl (cyI, 420, .inl f20)), (q21, .inr (0, [.int z25, .ref q22, .ref q23, .ref q24])), (q22, .inl (cyI, 6, .inl f26)), (q23, .inl (cyI, 6, .inl f27)), (q24, .inl (cyI, 6, .inl f28)), (q29, .inr (6, [.int z31, .ref q30])), (q30, .inl (cyI, 24, .inl f32))] := hD
  refine gx_putF (D := (dC, dI)) (ci := 4) (v := .ref q29) (ty := (tyX4 3)) (C := RX4) (T := TX4) (N := 5) hx hb hts hi_X4 tyX4 tyX4_ok nmX4 hown hK hP hD hS 0 rfl rfl 3 (by decide) hf33 (fun _ h9 => h9) rfl hin rfl (by decide +kernel) rfl rfl (Nat.le_of_ble_eq_true rfl) dX4_init_45 [(aw, .inr (4, [.ref q1, .ref q17, .ref q21, .ref q29, .int (0 : Int32)])), (q1, .inr (2, [.int z9, .ref q2, .ref q3, .ref q4, .ref q5, .ref q6, .ref q7, .ref q8])), (q2, .inl (cyI, 16, .inl f10)), (q3, .inl (cyI, 16, .inl f11)), (q4, .inl (cyI, 16, .inl f12)), (q5, .inl (cyI, 16, .inl f13)), (q6, .inl (cyI, 16, .inl f14)), (q7, .inl (cyI, 16, .inl f15)), (q8, .inl (cyI, 16, .inl f16)), (q17, .inr (1, [.int z19, .ref q18])), (q18, .inl (cyI, 420, .inl f20)), (q21, .inr (0, [.int z25, .ref q22, .ref q23, .ref q24])), (q22, .inl (cyI, 6, .inl f26)), (q23, .inl (cyI, 6, .inl f27)), (q24, .inl (cyI, 6, .inl f28)), (q29, .inr (6, [.int z31, .ref q30])), (q30, .inl (cyI, 24, .inl f32))] rfl (fun H locs hP hD hS => ?_)
  refine lv_aload_n hx hb dX4_init_48 rfl (lv_at hl 0 rfl) ?_
  refine lv_iconst (v := (0 : Int32)) hx hb dX4_init_49 (by decide) ?_
  refine gx_put (D := (dC, dI)) (ci := 4) (v := .int (0 : Int32)) (ty := .boolean) (C := RX4) (T := TX4) (N := 5) hx hb hts hi_X4 tyX4 tyX4_ok nmX4 hown hK hP hD hS 0 rfl rfl 4 (by decide) hf37 (fun _ h9 => h9) rfl (by decide +kernel) rfl rfl (Nat.le_of_ble_eq_true rfl) dX4_init_50 [(aw, .inr (4, [.ref q1, .ref q17, .ref q21, .ref q29, .int (0 : Int32)])), (q1, .inr (2, [.int z9, .ref q2, .ref q3, .ref q4, .ref q5, .ref q6, .ref q7, .ref q8])), (q2, .inl (cyI, 16, .inl f10)), (q3, .inl (cyI, 16, .inl f11)), (q4, .inl (cyI, 16, .inl f12)), (q5, .inl (cyI, 16, .inl f13)), (q6, .inl (cyI, 16, .inl f14)), (q7, .inl (cyI, 16, .inl f15)), (q8, .inl (cyI, 16, .inl f16)), (q17, .inr (1, [.int z19, .ref q18])), (q18, .inl (cyI, 420, .inl f20)), (q21, .inr (0, [.int z25, .ref q22, .ref q23, .ref q24])), (q22, .inl (cyI, 6, .inl f26)), (q23, .inl (cyI, 6, .inl f27)), (q24, .inl (cyI, 6, .inl f28)), (q29, .inr (6, [.int z31, .ref q30])), (q30, .inl (cyI, 24, .inl f32))] rfl (fun H locs hP hD hS => ?_)
  refine W.widen (k := 16) (n := 590) (Nat.le_of_ble_eq_true rfl) (Nat.le_of_ble_eq_true rfl) ?_
  refine W.widen (k := 16) (n := 590) (Nat.le_of_ble_eq_true rfl) (Nat.le_of_ble_eq_true rfl) ?_
  have hP := hP.sub [0, 1, 2, 3, 4, 5, 6, 7, 8, 9, 10, 11, 12, 13, 14, 15, 16] rfl
  have hD := hD.sub (ws' := [(aw, .inr (4, [.ref q1, .ref q17, .ref q21, .ref q29, .int (0 : Int32)])), (q1, .inr (2, [.int z9, .ref q2, .ref q3, .ref q4, .ref q5, .ref q6, .ref q7, .ref q8])), (q2, .inl (cyI, 16, .inl f10)), (q3, .inl (cyI, 16, .inl f11)), (q4, .inl (cyI, 16, .inl f12)), (q5, .inl (cyI, 16, .inl f13)), (q6, .inl (cyI, 16, .inl f14)), (q7, .inl (cyI, 16, .inl f15)), (q8, .inl (cyI, 16, .inl f16)), (q17, .inr (1, [.int z19, .ref q18])), (q18, .inl (cyI, 420, .inl f20)), (q21, .inr (0, [.int z25, .ref q22, .ref q23, .ref q24])), (q22, .inl (cyI, 6, .inl f26)), (q23, .inl (cyI, 6, .inl f27)), (q24, .inl (cyI, 6, .inl f28)), (q29, .inr (6, [.int z31, .ref q30])), (q30, .inl (cyI, 24, .inl f32))]) [0, 1, 2, 3, 4, 5, 6, 7, 8, 9, 10, 11, 12, 13, 14, 15, 16] (by decide) rfl
  exact rt_b hQ hx hb hr hlocks hS (fun t ht => ⟨q1, q2, q3, q4, q5, q6, q7, q8, q17, q18, q21, q22, q23, q24, q29, q30, (0 : Int32), z9, z19, z25, z31, f10, f11, f12, f13, f14, f15, f16, f20, f26, f27, f28, f32, by rw [ht]; exact hP, hD, hw⟩) dX4_init_53
abbrev rmX8_init : Room := { frames := 2, cells := 6, slots := 310, locals := 32 }
theorem cd_X8_init : yX8_init.cls = RX8 ∧ yX8_init.cls ≠ "java/lang/invoke/MethodHandle" ∧ yX8_init.cls ≠ "java/lang/invoke/VarHandle" ∧ (parseMethodDescriptor yX8_init.desc).map (fun d => d.parameters.length) = some 0 := by decide +kernel
set_option maxRecDepth 100000 in
abbrev at_Reader_init (dC : Nat → ClassId) (dI : Nat → Nat → Nat) (cyB cyI cyJ cyZ : ClassId) (ar : Nat) (A : Nat → Prop) (Q : Int → Int → Int → Int → Int → Int → (Int → Int) → Int → Int → Int → (Int → Int) → (Int → Int) → (Int → Int) → (Int → Int) → Prop) : Unit → State → Prop := fun _ t => ∃ (ar_text : Nat) (ad : Nat) (ad_kind : Nat) (ad_walk : Nat) (ad_share : Nat) (ad_weight : Nat) (r_length : Int32) (r_place : Int32) (r_failure : Int32) (r_at : Int32) (r_firstFigure : Int32) (r_toldBefore : Int32) (d_pegs : Int32) (d_ticks : Int32) (d_loss : Int32) (r_text : Nat → Int32) (d_kind : Nat → Int32) (d_walk : Nat → Int32) (d_share : Nat → Int32) (d_weight : Nat → Int32), va_P (dC, dI) vwCl [(ar, .inr (8, [.ref ar_text, .int r_length, .int r_place, .int r_failure, .int r_at, .int r_firstFigure, .int r_toldBefore, .ref ad])), (ar_text, .inl (cyB, 240, .inl r_text)), (ad, .inr (3, [.ref ad_kind, .ref ad_walk, .ref ad_share, .ref ad_weight, .int d_pegs, .int d_ticks, .int d_loss])), (ad_kind, .inl (cyI, 24, .inl d_kind)), (ad_walk, .inl (cyI, 24, .inl d_walk)), (ad_share, .inl (cyI, 12, .inl d_share)), (ad_weight, .inl (cyI, 3, .inl d_weight))] t.heap ∧ va_D A [(ar, .inr (8, [.ref ar_text, .int r_length, .int r_place, .int r_failure, .int r_at, .int r_firstFigure, .int r_toldBefore, .ref ad])), (ar_text, .inl (cyB, 240, .inl r_text)), (ad, .inr (3, [.ref ad_kind, .ref ad_walk, .ref ad_share, .ref ad_weight, .int d_pegs, .int d_ticks, .int d_loss])), (ad_kind, .inl (cyI, 24, .inl d_kind)), (ad_walk, .inl (cyI, 24, .inl d_walk)), (ad_share, .inl (cyI, 12, .inl d_share)), (ad_weight, .inl (cyI, 3, .inl d_weight))] ∧ Q r_length.toInt r_place.toInt r_failure.toInt r_at.toInt r_firstFigure.toInt r_toldBefore.toInt (aI 240 r_text) d_pegs.toInt d_ticks.toInt d_loss.toInt (aI 24 d_kind) (aI 24 d_walk) (aI 12 d_share) (aI 3 d_weight)
set_option maxHeartbeats 4000000 in
set_option maxRecDepth 100000 in
theorem ct_Reader_init (l : Launch) (dC : Nat → ClassId) (dI : Nat → Nat → Nat) (cyB cyI cyJ cyZ : ClassId) (ar : Nat) (sz : Nat) (Q : Int → Int → Int → Int → Int → Int → (Int → Int) → Int → Int → Int → (Int → Int) → (Int → Int) → (Int → Int) → (Int → Int) → Prop) : Met l yX8_init wsX8_init rmX8_init (va_Pc [.ref ar] (cPre (dC, dI) vwCl (tyS cyB cyI cyJ cyZ) [(ar, .inr (8, [.null, .int (0 : Int32), .int (0 : Int32), .int (0 : Int32), .int (0 : Int32), .int (0 : Int32), .int (0 : Int32), .null]))] sz (nf_Reader_init Q))) (va_Qv (fun _ => True) (at_Reader_init dC dI cyB cyI cyJ cyZ ar (va_A [(ar, .inr (8, [.null, .int (0 : Int32), .int (0 : Int32), .int (0 : Int32), .int (0 : Int32), .int (0 : Int32), .int (0 : Int32), .null]))] sz) Q) (va_A [(ar, .inr (8, [.null, .int (0 : Int32), .int (0 : Int32), .int (0 : Int32), .int (0 : Int32), .int (0 : Int32), .int (0 : Int32), .null]))] sz)) 6 310 (va_A [(ar, .inr (8, [.null, .int (0 : Int32), .int (0 : Int32), .int (0 : Int32), .int (0 : Int32), .int (0 : Int32), .int (0 : Int32), .null]))] sz) := by
  refine Met.ofW (cc := cX8_init) (maxL := 1) (ret := none) (by decide) rfl ?_
  intro p e s m args below meth c s₁ B hml hv
  obtain ⟨rfl, hsz, hP, hK, hD0, hNw, hw⟩ := hv
  have hx := B.exec
  have hb := B.bytes
  have hr := B.returns
  have hts := atoms_spec (ws := wsX8_init) B.pre
  have hown : s.vm.findClass RX8 = some m.cls := findClass_of_methodNamed B.named
  have hlocks := B.notSynchronized
  have hin : meth.name = "<init>" := (name_of_methodNamed B.named B.method).1
  subst hsz
  have hD := hD0.self (sz := s.heap.size)
  generalize hAe : va_A [(ar, .inr (8, [.null, .int (0 : Int32), .int (0 : Int32), .int (0 : Int32), .int (0 : Int32), .int (0 : Int32), .int (0 : Int32), .null]))] s.heap.size = A at hD ⊢
  have hA : ∀ q : Nat, s.heap.size ≤ q → A q := fun q h => by rw [← hAe]; exact Or.inr h
  have hS : va_S A s.heap s.heap [] := va_S.rf
  have hl := lv_entry ([.ref ar]) (n := 1) (Nat.le_of_ble_eq_true rfl)
  rw [lg_entry_eq]
  generalize (lg_sl ([.ref ar]) ++ List.replicate (1 - (lg_sl ([.ref ar])).length) Slot.unset).toArray = ls at hl ⊢
  have hl : lv_has ls 1 [(0, .ref ar)] := hl
  refine gx_q (fun Q9 hQ => ?_)
  unfold nf_Reader_init at hw
  have hi_X8 : ∀ w ∈ wsX80, w ∈ wsX8_init := (sub_c (nq_m (n := 27) rfl) (sub_c (nq_m (n := 28) rfl) (sub_c (nq_m (n := 29) rfl) (sub_c (nq_m (n := 30) rfl) (sub_c (nq_m (n := 31) rfl) (sub_c (nq_m (n := 32) rfl) (sub_c (nq_m (n := 33) rfl) (sub_c (nq_m (n := 34) rfl) sub_n))))))))
  have hf9 : (Cond.fieldLink RX8 9 "CoatsHall$Reader" (TX8 0).2.1 (TX8 0).2.2.1).before ([.ref ar] : List Value).toArray s = true := hts (.fieldLink RX8 9 "CoatsHall$Reader" "text" "[B") (nq_m (n := 5) rfl)
  have hf15 : (Cond.fieldLink RX8 15 "CoatsHall$Reader" (TX8 1).2.1 (TX8 1).2.2.1).before ([.ref ar] : List Value).toArray s = true := hts (.fieldLink RX8 15 "CoatsHall$Reader" "length" "I") (nq_m (n := 6) rfl)
  have hf19 : (Cond.fieldLink RX8 19 "CoatsHall$Reader" (TX8 2).2.1 (TX8 2).2.2.1).before ([.ref ar] : List Value).toArray s = true := hts (.fieldLink RX8 19 "CoatsHall$Reader" "place" "I") (nq_m (n := 7) rfl)
  have hf22 : (Cond.fieldLink RX8 22 "CoatsHall$Reader" (TX8 3).2.1 (TX8 3).2.2.1).before ([.ref ar] : List Value).toArray s = true := hts (.fieldLink RX8 22 "CoatsHall$Reader" "failure" "I") (nq_m (n := 8) rfl)
  have hf25 : (Cond.fieldLink RX8 25 "CoatsHall$Reader" (TX8 4).2.1 (TX8 4).2.2.1).before ([.ref ar] : List Value).toArray s = true := hts (.fieldLink RX8 25 "CoatsHall$Reader" "at" "I") (nq_m (n := 9) rfl)
  have hf28 : (Cond.fieldLink RX8 28 "CoatsHall$Reader" (TX8 5).2.1 (TX8 5).2.2.1).before ([.ref ar] : List Value).toArray s = true := hts (.fieldLink RX8 28 "CoatsHall$Reader" "firstFigure" "I") (nq_m (n := 10) rfl)
  have hf31 : (Cond.fieldLink RX8 31 "CoatsHall$Reader" (TX8 6).2.1 (TX8 6).2.2.1).before ([.ref ar] : List Value).toArray s = true := hts (.fieldLink RX8 31 "CoatsHall$Reader" "toldBefore" "I") (nq_m (n := 11) rfl)
  have hi_X3 : ∀ w ∈ wsX30, w ∈ wsX8_init := (sub_c (nq_m (n := 35) rfl) (sub_c (nq_m (n := 36) rfl) (sub_c (nq_m (n := 37) rfl) (sub_c (nq_m (n := 38) rfl) (sub_c (nq_m (n := 39) rfl) (sub_c (nq_m (n := 40) rfl) (sub_c (nq_m (n := 41) rfl) sub_n)))))))
  have hf37 : (Cond.fieldLink RX8 37 "CoatsHall$Reader" (TX8 7).2.1 (TX8 7).2.2.1).before ([.ref ar] : List Value).toArray s = true := hts (.fieldLink RX8 37 "CoatsHall$Reader" "draft" "LCoatsHall$Hall;") (nq_m (n := 15) rfl)
  refine lv_aload_n hx hb dX8_init_0 rfl (lv_at hl 0 rfl) ?_
  refine W.objInit hx hb hown (hts (.methodLink RX8 3 objectInit) (nq_m (n := 1) rfl)) (hts (.instanceMethod objectInit) (nq_m (n := 2) rfl)) (hts (.code objectInit ⟨#[0xb1]⟩ 1 none) (nq_m (n := 3) rfl)) rfl (by rw [hml]; exact hl.1) rfl dX8_init_1 (Nat.le_of_ble_eq_true rfl) (Nat.le_of_ble_eq_true rfl) ?_
  refine lv_aload_n hx hb dX8_init_4 rfl (lv_at hl 0 rfl) ?_
  refine lv_sipush (v := (240 : Int32)) hx hb dX8_init_5 (by decide) ?_
  refine gx_newb (N := 240) hx hb (hts (.arrayClass .byte) (nq_m (n := 4) rfl)) hK hP hD hS hA 0 rfl (by decide) (by decide) (Nat.le_of_ble_eq_true rfl) (Nat.le_of_ble_eq_true rfl) (Nat.le_of_ble_eq_true rfl) dX8_init_8 hw (fun q1 f2 H hw hP hD hS => ?_)
  have hP : va_P (dC, dI) vwCl [(ar, .inr (8, [.null, .int (0 : Int32), .int (0 : Int32), .int (0 : Int32), .int (0 : Int32), .int (0 : Int32), .int (0 : Int32), .null])), (q1, .inl (cyB, 240, .inl f2))] H := hP
  have hD : va_D A [(ar, .inr (8, [.null, .int (0 : Int32), .int (0 : Int32), .int (0 : Int32), .int (0 : Int32), .int (0 : Int32), .int (0 : Int32), .null])), (q1, .inl (cyB, 240, .inl f2))] := hD
  refine gx_putF (D := (dC, dI)) (ci := 8) (v := .ref q1) (ty := (tyX8 0)) (C := RX8) (T := TX8) (N := 8) hx hb hts hi_X8 tyX8 tyX8_ok nmX8 hown hK hP hD hS 0 rfl rfl 0 (by decide) hf9 (fun _ h9 => h9) rfl hin rfl (by decide +kernel) rfl rfl (Nat.le_of_ble_eq_true rfl) dX8_init_10 [(ar, .inr (8, [.ref q1, .int (0 : Int32), .int (0 : Int32), .int (0 : Int32), .int (0 : Int32), .int (0 : Int32), .int (0 : Int32), .null])), (q1, .inl (cyB, 240, .inl f2))] rfl (fun H locs hP hD hS => ?_)
  refine lv_aload_n hx hb dX8_init_13 rfl (lv_at hl 0 rfl) ?_
  refine lv_iconst (v := (0 : Int32)) hx hb dX8_init_14 (by decide) ?_
  refine gx_put (D := (dC, dI)) (ci := 8) (v := .int (0 : Int32)) (ty := .int) (C := RX8) (T := TX8) (N := 8) hx hb hts hi_X8 tyX8 tyX8_ok nmX8 hown hK hP hD hS 0 rfl rfl 1 (by decide) hf15 (fun _ h9 => h9) rfl (by decide +kernel) rfl rfl (Nat.le_of_ble_eq_true rfl) dX8_init_15 [(ar, .inr (8, [.ref q1, .int (0 : Int32), .int (0 : Int32), .int (0 : Int32), .int (0 : Int32), .int (0 : Int32), .int (0 : Int32), .null])), (q1, .inl (cyB, 240, .inl f2))] rfl (fun H locs hP hD hS => ?_)
  refine lv_aload_n hx hb dX8_init_18 rfl (lv_at hl 0 rfl) ?_
  refine lv_iconst (v := ((-1) : Int32)) hx hb dX8_init_19 (by decide) ?_
  refine gx_put (D := (dC, dI)) (ci := 8) (v := .int ((-1) : Int32)) (ty := .int) (C := RX8) (T := TX8) (N := 8) hx hb hts hi_X8 tyX8 tyX8_ok nmX8 hown hK hP hD hS 0 rfl rfl 2 (by decide) hf19 (fun _ h9 => h9) rfl (by decide +kernel) rfl rfl (Nat.le_of_ble_eq_true rfl) dX8_init_20 [(ar, .inr (8, [.ref q1, .int (0 : Int32), .int ((-1) : Int32), .int (0 : Int32), .int (0 : Int32), .int (0 : Int32), .int (0 : Int32), .null])), (q1, .inl (cyB, 240, .inl f2))] rfl (fun H locs hP hD hS => ?_)
  refine lv_aload_n hx hb dX8_init_23 rfl (lv_at hl 0 rfl) ?_
  refine lv_iconst (v := (0 : Int32)) hx hb dX8_init_24 (by decide) ?_
  refine gx_put (D := (dC, dI)) (ci := 8) (v := .int (0 : Int32)) (ty := .int) (C := RX8) (T := TX8) (N := 8) hx hb hts hi_X8 tyX8 tyX8_ok nmX8 hown hK hP hD hS 0 rfl rfl 3 (by decide) hf22 (fun _ h9 => h9) rfl (by decide +kernel) rfl rfl (Nat.le_of_ble_eq_true rfl) dX8_init_25 [(ar, .inr (8, [.ref q1, .int (0 : Int32), .int ((-1) : Int32), .int (0 : Int32), .int (0 : Int32), .int (0 : Int32), .int (0 : Int32), .null])), (q1, .inl (cyB, 240, .inl f2))] rfl (fun H locs hP hD hS => ?_)
  refine lv_aload_n hx hb dX8_init_28 rfl (lv_at hl 0 rfl) ?_
  refine lv_iconst (v := (0 : Int32)) hx hb dX8_init_29 (by decide) ?_
  refine gx_put (D := (dC, dI)) (ci := 8) (v := .int (0 : Int32)) (ty := .int) (C := RX8) (T := TX8) (N := 8) hx hb hts hi_X8 tyX8 tyX8_ok nmX8 hown hK hP hD hS 0 rfl rfl 4 (by decide) hf25 (fun _ h9 => h9) rfl (by decide +kernel) rfl rfl (Nat.le_of_ble_eq_true rfl) dX8_init_30 [(ar, .inr (8, [.ref q1, .int (0 : Int32), .int ((-1) : Int32), .int (0 : Int32), .int (0 : Int32), .int (0 : Int32), .int (0 : Int32), .null])), (q1, .inl (cyB, 240, .inl f2))] rfl (fun H locs hP hD hS => ?_)
  refine lv_aload_n hx hb dX8_init_33 rfl (lv_at hl 0 rfl) ?_
  refine lv_iconst (v := (0 : Int32)) hx hb dX8_init_34 (by decide) ?_
  refine gx_put (D := (dC, dI)) (ci := 8) (v := .int (0 : Int32)) (ty := .int) (C := RX8) (T := TX8) (N := 8) hx hb hts hi_X8 tyX8 tyX8_ok nmX8 hown hK hP hD hS 0 rfl rfl 5 (by decide) hf28 (fun _ h9 => h9) rfl (by decide +kernel) rfl rfl (Nat.le_of_ble_eq_true rfl) dX8_init_35 [(ar, .inr (8, [.ref q1, .int (0 : Int32), .int ((-1) : Int32), .int (0 : Int32), .int (0 : Int32), .int (0 : Int32), .int (0 : Int32), .null])), (q1, .inl (cyB, 240, .inl f2))] rfl (fun H locs hP hD hS => ?_)
  refine lv_aload_n hx hb dX8_init_38 rfl (lv_at hl 0 rfl) ?_
  refine lv_iconst (v := (0 : Int32)) hx hb dX8_init_39 (by decide) ?_
  refine gx_put (D := (dC, dI)) (ci := 8) (v := .int (0 : Int32)) (ty := .int) (C := RX8) (T := TX8) (N := 8) hx hb hts hi_X8 tyX8 tyX8_ok nmX8 hown hK hP hD hS 0 rfl rfl 6 (by decide) hf31 (fun _ h9 => h9) rfl (by decide +kernel) rfl rfl (Nat.le_of_ble_eq_true rfl) dX8_init_40 [(ar, .inr (8, [.ref q1, .int (0 : Int32), .int ((-1) : Int32), .int (0 : Int32), .int (0 : Int32), .int (0 : Int32), .int (0 : Int32), .null])), (q1, .inl (cyB, 240, .inl f2))] rfl (fun H locs hP hD hS => ?_)
  refine lv_aload_n hx hb dX8_init_43 rfl (lv_at hl 0 rfl) ?_
  refine va_new (ci := 3) (fs := [.null, .null, .null, .null, .int (0 : Int32), .int (0 : Int32), .int (0 : Int32)]) (C := RX3) (T := TX3) (N := 7) hx hb hts hi_X3 tyX3 tyX3_ok hown (hts (.classLink RX8 34 RX3) (nq_m (n := 12) rfl)) (hts (.instantiable RX3 7) (nq_m (n := 13) rfl)) (hts (.initialized RX3) (nq_m (n := 14) rfl)) hK hP hD hS hA rfl (fun j hj => match j, hj with | 0, _ => rfl | 1, _ => rfl | 2, _ => rfl | 3, _ => rfl | 4, _ => rfl | 5, _ => rfl | 6, _ => rfl | z + 7, h => absurd h (by omega)) (Nat.le_of_ble_eq_true rfl) (Nat.le_of_ble_eq_true rfl) dX8_init_44 (fun q3 H hP hD hS => ?_)
  have hP : va_P (dC, dI) vwCl [(ar, .inr (8, [.ref q1, .int (0 : Int32), .int ((-1) : Int32), .int (0 : Int32), .int (0 : Int32), .int (0 : Int32), .int (0 : Int32), .null])), (q1, .inl (cyB, 240, .inl f2)), (q3, .inr (3, [.null, .null, .null, .null, .int (0 : Int32), .int (0 : Int32), .int (0 : Int32)]))] H := hP
  have hD : va_D A [(ar, .inr (8, [.ref q1, .int (0 : Int32), .int ((-1) : Int32), .int (0 : Int32), .int (0 : Int32), .int (0 : Int32), .int (0 : Int32), .null])), (q1, .inl (cyB, 240, .inl f2)), (q3, .inr (3, [.null, .null, .null, .null, .int (0 : Int32), .int (0 : Int32), .int (0 : Int32)]))] := hD
  refine lv_dup hx hb dX8_init_47 rfl ?_
  refine gx_rb (wr := [(ar, .inr (8, [.ref q1, .int (0 : Int32), .int ((-1) : Int32), .int (0 : Int32), .int (0 : Int32), .int (0 : Int32), .int (0 : Int32), .null])), (q1, .inl (cyB, 240, .inl f2))]) (va_runIN (As := []) (rest := [.ref q3, .ref ar]) ⟨hx, hb, hml, hown, hts⟩ (ct_Hall_init l dC dI cyB cyI cyJ cyZ q3 _ _) ⟨va_cnB 0 hts gX8_init_X3_init_n36 rfl rfl rfl (hNw 2 _ rfl) (hts (.initialized RX3) (nq_m (n := 14) rfl)) cd_X3_init.2 ⟨Nat.le_of_ble_eq_true rfl, Nat.le_of_ble_eq_true rfl⟩, rfl, hts (.instanceMethod yX3_init) (nq_m (n := 16) rfl)⟩ (gx_preS hK hP hD hNw [2] rfl (by decide) hw) rfl rfl hl.1 rfl (lv_room (Nat.le_of_ble_eq_true rfl)) dX8_init_48 ⟨Nat.le_of_ble_eq_true rfl, Nat.le_of_ble_eq_true rfl⟩) hP hD hS hA [2] [0, 1] rfl rfl (by decide) (by decide) (fun t H locs hB hj hS => ?_)
  obtain ⟨q4, q5, q6, q7, z8, z9, z10, f11, f12, f13, f14, hP1, hD1, hw⟩ := hB
  obtain ⟨hP, hD⟩ := hj _ hP1 hD1
  have hP : va_P (dC, dI) vwCl [(ar, .inr (8, [.ref q1, .int (0 : Int32), .int ((-1) : Int32), .int (0 : Int32), .int (0 : Int32), .int (0 : Int32), .int (0 : Int32), .null])), (q1, .inl (cyB, 240, .inl f2)), (q3, .inr (3, [.ref q4, .ref q5, .ref q6, .ref q7, .int z8, .int z9, .int z10])), (q4, .inl (cyI, 24, .inl f11)), (q5, .inl (cyI, 24, .inl f12)), (q6, .inl (cyI, 12, .inl f13)), (q7, .inl (cyI, 3, .inl f14))] H := hP
  have hD : va_D A [(ar, .inr (8, [.ref q1, .int (0 : Int32), .int ((-1) : Int32), .int (0 : Int32), .int (0 : Int32), .int (0 : Int32), .int (0 : Int32), .null])), (q1, .inl (cyB, 240, .inl f2)), (q3, .inr (3, [.ref q4, .ref q5, .ref q6, .ref q7, .int z8, .int z9, .int z10])), (q4, .inl (cyI, 24, .inl f11)), (q5, .inl (cyI, 24, .inl f12)), (q6, .inl (cyI, 12, .inl f13)), (q7, .inl (cyI, 3, .inl f14))] := hD
  refine gx_put (D := (dC, dI)) (ci := 8) (v := .ref q3) (ty := .object "CoatsHall$Hall") (C := RX8) (T := TX8) (N := 8) hx hb hts hi_X8 tyX8 tyX8_ok nmX8 hown hK hP hD hS 0 rfl rfl 7 (by decide) hf37 (fun _ h9 => h9) rfl (by decide +kernel) rfl rfl (Nat.le_of_ble_eq_true rfl) dX8_init_51 [(ar, .inr (8, [.ref q1, .int (0 : Int32), .int ((-1) : Int32), .int (0 : Int32), .int (0 : Int32), .int (0 : Int32), .int (0 : Int32), .ref q3])), (q1, .inl (cyB, 240, .inl f2)), (q3, .inr (3, [.ref q4, .ref q5, .ref q6, .ref q7, .int z8, .int z9, .int z10])), (q4, .inl (cyI, 24, .inl f11)), (q5, .inl (cyI, 24, .inl f12)), (q6, .inl (cyI, 12, .inl f13)), (q7, .inl (cyI, 3, .inl f14))] rfl (fun H locs hP hD hS => ?_)
  refine W.widen (k := 6) (n := 310) (Nat.le_of_ble_eq_true rfl) (Nat.le_of_ble_eq_true rfl) ?_
  refine W.widen (k := 6) (n := 310) (Nat.le_of_ble_eq_true rfl) (Nat.le_of_ble_eq_true rfl) ?_
  have hP := hP.sub [0, 1, 2, 3, 4, 5, 6] rfl
  have hD := hD.sub (ws' := [(ar, .inr (8, [.ref q1, .int (0 : Int32), .int ((-1) : Int32), .int (0 : Int32), .int (0 : Int32), .int (0 : Int32), .int (0 : Int32), .ref q3])), (q1, .inl (cyB, 240, .inl f2)), (q3, .inr (3, [.ref q4, .ref q5, .ref q6, .ref q7, .int z8, .int z9, .int z10])), (q4, .inl (cyI, 24, .inl f11)), (q5, .inl (cyI, 24, .inl f12)), (q6, .inl (cyI, 12, .inl f13)), (q7, .inl (cyI, 3, .inl f14))]) [0, 1, 2, 3, 4, 5, 6] (by decide) rfl
  exact rt_b hQ hx hb hr hlocks hS (fun t ht => ⟨q1, q3, q4, q5, q6, q7, (0 : Int32), ((-1) : Int32), (0 : Int32), (0 : Int32), (0 : Int32), (0 : Int32), z8, z9, z10, f2, f11, f12, f13, f14, by rw [ht]; exact hP, hD, hw⟩) dX8_init_54
abbrev rmX7_init : Room := { frames := 1, cells := 3, slots := 56, locals := 12 }
theorem cd_X7_init : yX7_init.cls = RX7 ∧ yX7_init.cls ≠ "java/lang/invoke/MethodHandle" ∧ yX7_init.cls ≠ "java/lang/invoke/VarHandle" ∧ (parseMethodDescriptor yX7_init.desc).map (fun d => d.parameters.length) = some 0 := by decide +kernel
set_option maxRecDepth 100000 in
abbrev at_Plan_init (dC : Nat → ClassId) (dI : Nat → Nat → Nat) (cyB cyI cyJ cyZ : ClassId) (ap : Nat) (A : Nat → Prop) (Q : Int → (Int → Int) → (Int → Int) → (Int → Int) → Prop) : Unit → State → Prop := fun _ t => ∃ (ap_expected : Nat) (ap_pegFor : Nat) (ap_taken : Nat) (p_sum : Int32) (p_expected : Nat → Int32) (p_pegFor : Nat → Int32) (p_taken : Nat → Int32), va_P (dC, dI) vwCl [(ap, .inr (7, [.ref ap_expected, .ref ap_pegFor, .ref ap_taken, .int p_sum])), (ap_expected, .inl (cyI, 16, .inl p_expected)), (ap_pegFor, .inl (cyI, 16, .inl p_pegFor)), (ap_taken, .inl (cyZ, 24, .inl p_taken))] t.heap ∧ va_D A [(ap, .inr (7, [.ref ap_expected, .ref ap_pegFor, .ref ap_taken, .int p_sum])), (ap_expected, .inl (cyI, 16, .inl p_expected)), (ap_pegFor, .inl (cyI, 16, .inl p_pegFor)), (ap_taken, .inl (cyZ, 24, .inl p_taken))] ∧ Q p_sum.toInt (aI 16 p_expected) (aI 16 p_pegFor) (aI 24 p_taken)
set_option maxHeartbeats 4000000 in
set_option maxRecDepth 100000 in
theorem ct_Plan_init (l : Launch) (dC : Nat → ClassId) (dI : Nat → Nat → Nat) (cyB cyI cyJ cyZ : ClassId) (ap : Nat) (sz : Nat) (Q : Int → (Int → Int) → (Int → Int) → (Int → Int) → Prop) : Met l yX7_init wsX7_init rmX7_init (va_Pc [.ref ap] (cPre (dC, dI) vwCl (tyS cyB cyI cyJ cyZ) [(ap, .inr (7, [.null, .null, .null, .int (0 : Int32)]))] sz (nf_Plan_init Q))) (va_Qv (fun _ => True) (at_Plan_init dC dI cyB cyI cyJ cyZ ap (va_A [(ap, .inr (7, [.null, .null, .null, .int (0 : Int32)]))] sz) Q) (va_A [(ap, .inr (7, [.null, .null, .null, .int (0 : Int32)]))] sz)) 3 56 (va_A [(ap, .inr (7, [.null, .null, .null, .int (0 : Int32)]))] sz) := by
  refine Met.ofW (cc := cX7_init) (maxL := 1) (ret := none) (by decide) rfl ?_
  intro p e s m args below meth c s₁ B hml hv
  obtain ⟨rfl, hsz, hP, hK, hD0, hNw, hw⟩ := hv
  have hx := B.exec
  have hb := B.bytes
  have hr := B.returns
  have hts := atoms_spec (ws := wsX7_init) B.pre
  have hown : s.vm.findClass RX7 = some m.cls := findClass_of_methodNamed B.named
  have hlocks := B.notSynchronized
  have hin : meth.name = "<init>" := (name_of_methodNamed B.named B.method).1
  subst hsz
  have hD := hD0.self (sz := s.heap.size)
  generalize hAe : va_A [(ap, .inr (7, [.null, .null, .null, .int (0 : Int32)]))] s.heap.size = A at hD ⊢
  have hA : ∀ q : Nat, s.heap.size ≤ q → A q := fun q h => by rw [← hAe]; exact Or.inr h
  have hS : va_S A s.heap s.heap [] := va_S.rf
  have hl := lv_entry ([.ref ap]) (n := 1) (Nat.le_of_ble_eq_true rfl)
  rw [lg_entry_eq]
  generalize (lg_sl ([.ref ap]) ++ List.replicate (1 - (lg_sl ([.ref ap])).length) Slot.unset).toArray = ls at hl ⊢
  have hl : lv_has ls 1 [(0, .ref ap)] := hl
  refine gx_q (fun Q9 hQ => ?_)
  unfold nf_Plan_init at hw
  have hi_X7 : ∀ w ∈ wsX70, w ∈ wsX7_init := (sub_c (nq_m (n := 10) rfl) (sub_c (nq_m (n := 11) rfl) (sub_c (nq_m (n := 12) rfl) (sub_c (nq_m (n := 13) rfl) sub_n))))
  have hf9 : (Cond.fieldLink RX7 9 "CoatsHall$Plan" (TX7 0).2.1 (TX7 0).2.2.1).before ([.ref ap] : List Value).toArray s = true := hts (.fieldLink RX7 9 "CoatsHall$Plan" "expected" "[I") (nq_m (n := 5) rfl)
  have hf15 : (Cond.fieldLink RX7 15 "CoatsHall$Plan" (TX7 1).2.1 (TX7 1).2.2.1).before ([.ref ap] : List Value).toArray s = true := hts (.fieldLink RX7 15 "CoatsHall$Plan" "pegFor" "[I") (nq_m (n := 6) rfl)
  have hf18 : (Cond.fieldLink RX7 18 "CoatsHall$Plan" (TX7 2).2.1 (TX7 2).2.2.1).before ([.ref ap] : List Value).toArray s = true := hts (.fieldLink RX7 18 "CoatsHall$Plan" "taken" "[Z") (nq_m (n := 8) rfl)
  have hf22 : (Cond.fieldLink RX7 22 "CoatsHall$Plan" (TX7 3).2.1 (TX7 3).2.2.1).before ([.ref ap] : List Value).toArray s = true := hts (.fieldLink RX7 22 "CoatsHall$Plan" "sum" "I") (nq_m (n := 9) rfl)
  refine lv_aload_n hx hb dX7_init_0 rfl (lv_at hl 0 rfl) ?_
  refine W.objInit hx hb hown (hts (.methodLink RX7 3 objectInit) (nq_m (n := 1) rfl)) (hts (.instanceMethod objectInit) (nq_m (n := 2) rfl)) (hts (.code objectInit ⟨#[0xb1]⟩ 1 none) (nq_m (n := 3) rfl)) rfl (by rw [hml]; exact hl.1) rfl dX7_init_1 (Nat.le_of_ble_eq_true rfl) (Nat.le_of_ble_eq_true rfl) ?_
  refine lv_aload_n hx hb dX7_init_4 rfl (lv_at hl 0 rfl) ?_
  refine lv_bipush (v := (16 : Int32)) hx hb dX7_init_5 (by decide) ?_
  refine gx_newi (N := 16) hx hb (hts (.arrayClass .int) (nq_m (n := 4) rfl)) hK hP hD hS hA 1 rfl (by decide) (by decide) (Nat.le_of_ble_eq_true rfl) (Nat.le_of_ble_eq_true rfl) (Nat.le_of_ble_eq_true rfl) dX7_init_7 hw (fun q1 f2 H hw hP hD hS => ?_)
  have hP : va_P (dC, dI) vwCl [(ap, .inr (7, [.null, .null, .null, .int (0 : Int32)])), (q1, .inl (cyI, 16, .inl f2))] H := hP
  have hD : va_D A [(ap, .inr (7, [.null, .null, .null, .int (0 : Int32)])), (q1, .inl (cyI, 16, .inl f2))] := hD
  refine gx_putF (D := (dC, dI)) (ci := 7) (v := .ref q1) (ty := (tyX7 0)) (C := RX7) (T := TX7) (N := 4) hx hb hts hi_X7 tyX7 tyX7_ok nmX7 hown hK hP hD hS 0 rfl rfl 0 (by decide) hf9 (fun _ h9 => h9) rfl hin rfl (by decide +kernel) rfl rfl (Nat.le_of_ble_eq_true rfl) dX7_init_9 [(ap, .inr (7, [.ref q1, .null, .null, .int (0 : Int32)])), (q1, .inl (cyI, 16, .inl f2))] rfl (fun H locs hP hD hS => ?_)
  refine lv_aload_n hx hb dX7_init_12 rfl (lv_at hl 0 rfl) ?_
  refine lv_bipush (v := (16 : Int32)) hx hb dX7_init_13 (by decide) ?_
  refine gx_newi (N := 16) hx hb (hts (.arrayClass .int) (nq_m (n := 4) rfl)) hK hP hD hS hA 1 rfl (by decide) (by decide) (Nat.le_of_ble_eq_true rfl) (Nat.le_of_ble_eq_true rfl) (Nat.le_of_ble_eq_true rfl) dX7_init_15 hw (fun q3 f4 H hw hP hD hS => ?_)
  have hP : va_P (dC, dI) vwCl [(ap, .inr (7, [.ref q1, .null, .null, .int (0 : Int32)])), (q1, .inl (cyI, 16, .inl f2)), (q3, .inl (cyI, 16, .inl f4))] H := hP
  have hD : va_D A [(ap, .inr (7, [.ref q1, .null, .null, .int (0 : Int32)])), (q1, .inl (cyI, 16, .inl f2)), (q3, .inl (cyI, 16, .inl f4))] := hD
  refine gx_putF (D := (dC, dI)) (ci := 7) (v := .ref q3) (ty := (tyX7 1)) (C := RX7) (T := TX7) (N := 4) hx hb hts hi_X7 tyX7 tyX7_ok nmX7 hown hK hP hD hS 0 rfl rfl 1 (by decide) hf15 (fun _ h9 => h9) rfl hin rfl (by decide +kernel) rfl rfl (Nat.le_of_ble_eq_true rfl) dX7_init_17 [(ap, .inr (7, [.ref q1, .ref q3, .null, .int (0 : Int32)])), (q1, .inl (cyI, 16, .inl f2)), (q3, .inl (cyI, 16, .inl f4))] rfl (fun H locs hP hD hS => ?_)
  refine lv_aload_n hx hb dX7_init_20 rfl (lv_at hl 0 rfl) ?_
  refine lv_bipush (v := (24 : Int32)) hx hb dX7_init_21 (by decide) ?_
  refine gx_newz (N := 24) hx hb (hts (.arrayClass .boolean) (nq_m (n := 7) rfl)) hK hP hD hS hA 3 rfl (by decide) (by decide) (Nat.le_of_ble_eq_true rfl) (Nat.le_of_ble_eq_true rfl) (Nat.le_of_ble_eq_true rfl) dX7_init_23 hw (fun q5 f6 H hw hP hD hS => ?_)
  have hP : va_P (dC, dI) vwCl [(ap, .inr (7, [.ref q1, .ref q3, .null, .int (0 : Int32)])), (q1, .inl (cyI, 16, .inl f2)), (q3, .inl (cyI, 16, .inl f4)), (q5, .inl (cyZ, 24, .inl f6))] H := hP
  have hD : va_D A [(ap, .inr (7, [.ref q1, .ref q3, .null, .int (0 : Int32)])), (q1, .inl (cyI, 16, .inl f2)), (q3, .inl (cyI, 16, .inl f4)), (q5, .inl (cyZ, 24, .inl f6))] := hD
  refine gx_putF (D := (dC, dI)) (ci := 7) (v := .ref q5) (ty := (tyX7 2)) (C := RX7) (T := TX7) (N := 4) hx hb hts hi_X7 tyX7 tyX7_ok nmX7 hown hK hP hD hS 0 rfl rfl 2 (by decide) hf18 (fun _ h9 => h9) rfl hin rfl (by decide +kernel) rfl rfl (Nat.le_of_ble_eq_true rfl) dX7_init_25 [(ap, .inr (7, [.ref q1, .ref q3, .ref q5, .int (0 : Int32)])), (q1, .inl (cyI, 16, .inl f2)), (q3, .inl (cyI, 16, .inl f4)), (q5, .inl (cyZ, 24, .inl f6))] rfl (fun H locs hP hD hS => ?_)
  refine lv_aload_n hx hb dX7_init_28 rfl (lv_at hl 0 rfl) ?_
  refine lv_iconst (v := (0 : Int32)) hx hb dX7_init_29 (by decide) ?_
  refine gx_put (D := (dC, dI)) (ci := 7) (v := .int (0 : Int32)) (ty := .int) (C := RX7) (T := TX7) (N := 4) hx hb hts hi_X7 tyX7 tyX7_ok nmX7 hown hK hP hD hS 0 rfl rfl 3 (by decide) hf22 (fun _ h9 => h9) rfl (by decide +kernel) rfl rfl (Nat.le_of_ble_eq_true rfl) dX7_init_30 [(ap, .inr (7, [.ref q1, .ref q3, .ref q5, .int (0 : Int32)])), (q1, .inl (cyI, 16, .inl f2)), (q3, .inl (cyI, 16, .inl f4)), (q5, .inl (cyZ, 24, .inl f6))] rfl (fun H locs hP hD hS => ?_)
  refine W.widen (k := 3) (n := 56) (Nat.le_of_ble_eq_true rfl) (Nat.le_of_ble_eq_true rfl) ?_
  refine W.widen (k := 3) (n := 56) (Nat.le_of_ble_eq_true rfl) (Nat.le_of_ble_eq_true rfl) ?_
  have hP := hP.sub [0, 1, 2, 3] rfl
  have hD := hD.sub (ws' := [(ap, .inr (7, [.ref q1, .ref q3, .ref q5, .int (0 : Int32)])), (q1, .inl (cyI, 16, .inl f2)), (q3, .inl (cyI, 16, .inl f4)), (q5, .inl (cyZ, 24, .inl f6))]) [0, 1, 2, 3] (by decide) rfl
  exact rt_b hQ hx hb hr hlocks hS (fun t ht => ⟨q1, q3, q5, (0 : Int32), f2, f4, f6, by rw [ht]; exact hP, hD, hw⟩) dX7_init_33
abbrev rmX9_init : Room := { frames := 1, cells := 8, slots := 174, locals := 12 }
theorem cd_X9_init : yX9_init.cls = RX9 ∧ yX9_init.cls ≠ "java/lang/invoke/MethodHandle" ∧ yX9_init.cls ≠ "java/lang/invoke/VarHandle" ∧ (parseMethodDescriptor yX9_init.desc).map (fun d => d.parameters.length) = some 0 := by decide +kernel
set_option maxRecDepth 100000 in
abbrev at_Rush_init (dC : Nat → ClassId) (dI : Nat → Nat → Nat) (cyB cyI cyJ cyZ : ClassId) (au : Nat) (A : Nat → Prop) (Q : Int → Int → Int → Int → (Int → Int) → (Int → Int) → (Int → Int) → (Int → Int) → (Int → Int) → (Int → Int) → (Int → Int) → (Int → Int) → Prop) : Unit → State → Prop := fun _ t => ∃ (au_ticks : Nat) (au_tip : Nat) (au_row : Nat) (au_freeAt : Nat) (au_waits : Nat) (au_greatest : Nat) (au_tips : Nat) (au_best : Nat) (u_size : Int32) (u_loss : Int32) (u_bestTips : Int32) (u_bestWaits : Int32) (u_ticks : Nat → Int32) (u_tip : Nat → Int32) (u_row : Nat → Int32) (u_freeAt : Nat → Int32) (u_waits : Nat → Int32) (u_greatest : Nat → Int32) (u_tips : Nat → Int32) (u_best : Nat → Int32), va_P (dC, dI) vwCl [(au, .inr (9, [.ref au_ticks, .ref au_tip, .ref au_row, .ref au_freeAt, .ref au_waits, .ref au_greatest, .ref au_tips, .ref au_best, .int u_size, .int u_loss, .int u_bestTips, .int u_bestWaits])), (au_ticks, .inl (cyI, 16, .inl u_ticks)), (au_tip, .inl (cyI, 16, .inl u_tip)), (au_row, .inl (cyI, 16, .inl u_row)), (au_freeAt, .inl (cyI, 68, .inl u_freeAt)), (au_waits, .inl (cyI, 17, .inl u_waits)), (au_greatest, .inl (cyI, 17, .inl u_greatest)), (au_tips, .inl (cyI, 17, .inl u_tips)), (au_best, .inl (cyI, 7, .inl u_best))] t.heap ∧ va_D A [(au, .inr (9, [.ref au_ticks, .ref au_tip, .ref au_row, .ref au_freeAt, .ref au_waits, .ref au_greatest, .ref au_tips, .ref au_best, .int u_size, .int u_loss, .int u_bestTips, .int u_bestWaits])), (au_ticks, .inl (cyI, 16, .inl u_ticks)), (au_tip, .inl (cyI, 16, .inl u_tip)), (au_row, .inl (cyI, 16, .inl u_row)), (au_freeAt, .inl (cyI, 68, .inl u_freeAt)), (au_waits, .inl (cyI, 17, .inl u_waits)), (au_greatest, .inl (cyI, 17, .inl u_greatest)), (au_tips, .inl (cyI, 17, .inl u_tips)), (au_best, .inl (cyI, 7, .inl u_best))] ∧ Q u_size.toInt u_loss.toInt u_bestTips.toInt u_bestWaits.toInt (aI 16 u_ticks) (aI 16 u_tip) (aI 16 u_row) (aI 68 u_freeAt) (aI 17 u_waits) (aI 17 u_greatest) (aI 17 u_tips) (aI 7 u_best)
set_option maxHeartbeats 4000000 in
set_option maxRecDepth 100000 in
theorem ct_Rush_init (l : Launch) (dC : Nat → ClassId) (dI : Nat → Nat → Nat) (cyB cyI cyJ cyZ : ClassId) (au : Nat) (sz : Nat) (Q : Int → Int → Int → Int → (Int → Int) → (Int → Int) → (Int → Int) → (Int → Int) → (Int → Int) → (Int → Int) → (Int → Int) → (Int → Int) → Prop) : Met l yX9_init wsX9_init rmX9_init (va_Pc [.ref au] (cPre (dC, dI) vwCl (tyS cyB cyI cyJ cyZ) [(au, .inr (9, [.null, .null, .null, .null, .null, .null, .null, .null, .int (0 : Int32), .int (0 : Int32), .int (0 : Int32), .int (0 : Int32)]))] sz (nf_Rush_init Q))) (va_Qv (fun _ => True) (at_Rush_init dC dI cyB cyI cyJ cyZ au (va_A [(au, .inr (9, [.null, .null, .null, .null, .null, .null, .null, .null, .int (0 : Int32), .int (0 : Int32), .int (0 : Int32), .int (0 : Int32)]))] sz) Q) (va_A [(au, .inr (9, [.null, .null, .null, .null, .null, .null, .null, .null, .int (0 : Int32), .int (0 : Int32), .int (0 : Int32), .int (0 : Int32)]))] sz)) 8 174 (va_A [(au, .inr (9, [.null, .null, .null, .null, .null, .null, .null, .null, .int (0 : Int32), .int (0 : Int32), .int (0 : Int32), .int (0 : Int32)]))] sz) := by
  refine Met.ofW (cc := cX9_init) (maxL := 1) (ret := none) (by decide) rfl ?_
  intro p e s m args below meth c s₁ B hml hv
  obtain ⟨rfl, hsz, hP, hK, hD0, hNw, hw⟩ := hv
  have hx := B.exec
  have hb := B.bytes
  have hr := B.returns
  have hts := atoms_spec (ws := wsX9_init) B.pre
  have hown : s.vm.findClass RX9 = some m.cls := findClass_of_methodNamed B.named
  have hlocks := B.notSynchronized
  have hin : meth.name = "<init>" := (name_of_methodNamed B.named B.method).1
  subst hsz
  have hD := hD0.self (sz := s.heap.size)
  generalize hAe : va_A [(au, .inr (9, [.null, .null, .null, .null, .null, .null, .null, .null, .int (0 : Int32), .int (0 : Int32), .int (0 : Int32), .int (0 : Int32)]))] s.heap.size = A at hD ⊢
  have hA : ∀ q : Nat, s.heap.size ≤ q → A q := fun q h => by rw [← hAe]; exact Or.inr h
  have hS : va_S A s.heap s.heap [] := va_S.rf
  have hl := lv_entry ([.ref au]) (n := 1) (Nat.le_of_ble_eq_true rfl)
  rw [lg_entry_eq]
  generalize (lg_sl ([.ref au]) ++ List.replicate (1 - (lg_sl ([.ref au])).length) Slot.unset).toArray = ls at hl ⊢
  have hl : lv_has ls 1 [(0, .ref au)] := hl
  refine gx_q (fun Q9 hQ => ?_)
  unfold nf_Rush_init at hw
  have hi_X9 : ∀ w ∈ wsX90, w ∈ wsX9_init := (sub_c (nq_m (n := 17) rfl) (sub_c (nq_m (n := 18) rfl) (sub_c (nq_m (n := 19) rfl) (sub_c (nq_m (n := 20) rfl) (sub_c (nq_m (n := 21) rfl) (sub_c (nq_m (n := 22) rfl) (sub_c (nq_m (n := 23) rfl) (sub_c (nq_m (n := 24) rfl) (sub_c (nq_m (n := 25) rfl) (sub_c (nq_m (n := 26) rfl) (sub_c (nq_m (n := 27) rfl) (sub_c (nq_m (n := 28) rfl) sub_n))))))))))))
  have hf9 : (Cond.fieldLink RX9 9 "CoatsHall$Rush" (TX9 0).2.1 (TX9 0).2.2.1).before ([.ref au] : List Value).toArray s = true := hts (.fieldLink RX9 9 "CoatsHall$Rush" "ticks" "[I") (nq_m (n := 5) rfl)
  have hf15 : (Cond.fieldLink RX9 15 "CoatsHall$Rush" (TX9 1).2.1 (TX9 1).2.2.1).before ([.ref au] : List Value).toArray s = true := hts (.fieldLink RX9 15 "CoatsHall$Rush" "tip" "[I") (nq_m (n := 6) rfl)
  have hf18 : (Cond.fieldLink RX9 18 "CoatsHall$Rush" (TX9 2).2.1 (TX9 2).2.2.1).before ([.ref au] : List Value).toArray s = true := hts (.fieldLink RX9 18 "CoatsHall$Rush" "row" "[I") (nq_m (n := 7) rfl)
  have hf21 : (Cond.fieldLink RX9 21 "CoatsHall$Rush" (TX9 3).2.1 (TX9 3).2.2.1).before ([.ref au] : List Value).toArray s = true := hts (.fieldLink RX9 21 "CoatsHall$Rush" "freeAt" "[I") (nq_m (n := 8) rfl)
  have hf24 : (Cond.fieldLink RX9 24 "CoatsHall$Rush" (TX9 4).2.1 (TX9 4).2.2.1).before ([.ref au] : List Value).toArray s = true := hts (.fieldLink RX9 24 "CoatsHall$Rush" "waits" "[I") (nq_m (n := 9) rfl)
  have hf27 : (Cond.fieldLink RX9 27 "CoatsHall$Rush" (TX9 5).2.1 (TX9 5).2.2.1).before ([.ref au] : List Value).toArray s = true := hts (.fieldLink RX9 27 "CoatsHall$Rush" "greatest" "[I") (nq_m (n := 10) rfl)
  have hf30 : (Cond.fieldLink RX9 30 "CoatsHall$Rush" (TX9 6).2.1 (TX9 6).2.2.1).before ([.ref au] : List Value).toArray s = true := hts (.fieldLink RX9 30 "CoatsHall$Rush" "tips" "[I") (nq_m (n := 11) rfl)
  have hf33 : (Cond.fieldLink RX9 33 "CoatsHall$Rush" (TX9 7).2.1 (TX9 7).2.2.1).before ([.ref au] : List Value).toArray s = true := hts (.fieldLink RX9 33 "CoatsHall$Rush" "best" "[I") (nq_m (n := 12) rfl)
  have hf36 : (Cond.fieldLink RX9 36 "CoatsHall$Rush" (TX9 8).2.1 (TX9 8).2.2.1).before ([.ref au] : List Value).toArray s = true := hts (.fieldLink RX9 36 "CoatsHall$Rush" "size" "I") (nq_m (n := 13) rfl)
  have hf40 : (Cond.fieldLink RX9 40 "CoatsHall$Rush" (TX9 9).2.1 (TX9 9).2.2.1).before ([.ref au] : List Value).toArray s = true := hts (.fieldLink RX9 40 "CoatsHall$Rush" "loss" "I") (nq_m (n := 14) rfl)
  have hf43 : (Cond.fieldLink RX9 43 "CoatsHall$Rush" (TX9 10).2.1 (TX9 10).2.2.1).before ([.ref au] : List Value).toArray s = true := hts (.fieldLink RX9 43 "CoatsHall$Rush" "bestTips" "I") (nq_m (n := 15) rfl)
  have hf46 : (Cond.fieldLink RX9 46 "CoatsHall$Rush" (TX9 11).2.1 (TX9 11).2.2.1).before ([.ref au] : List Value).toArray s = true := hts (.fieldLink RX9 46 "CoatsHall$Rush" "bestWaits" "I") (nq_m (n := 16) rfl)
  refine lv_aload_n hx hb dX9_init_0 rfl (lv_at hl 0 rfl) ?_
  refine W.objInit hx hb hown (hts (.methodLink RX9 3 objectInit) (nq_m (n := 1) rfl)) (hts (.instanceMethod objectInit) (nq_m (n := 2) rfl)) (hts (.code objectInit ⟨#[0xb1]⟩ 1 none) (nq_m (n := 3) rfl)) rfl (by rw [hml]; exact hl.1) rfl dX9_init_1 (Nat.le_of_ble_eq_true rfl) (Nat.le_of_ble_eq_true rfl) ?_
  refine lv_aload_n hx hb dX9_init_4 rfl (lv_at hl 0 rfl) ?_
  refine lv_bipush (v := (16 : Int32)) hx hb dX9_init_5 (by decide) ?_
  refine gx_newi (N := 16) hx hb (hts (.arrayClass .int) (nq_m (n := 4) rfl)) hK hP hD hS hA 1 rfl (by decide) (by decide) (Nat.le_of_ble_eq_true rfl) (Nat.le_of_ble_eq_true rfl) (Nat.le_of_ble_eq_true rfl) dX9_init_7 hw (fun q1 f2 H hw hP hD hS => ?_)
  have hP : va_P (dC, dI) vwCl [(au, .inr (9, [.null, .null, .null, .null, .null, .null, .null, .null, .int (0 : Int32), .int (0 : Int32), .int (0 : Int32), .int (0 : Int32)])), (q1, .inl (cyI, 16, .inl f2))] H := hP
  have hD : va_D A [(au, .inr (9, [.null, .null, .null, .null, .null, .null, .null, .null, .int (0 : Int32), .int (0 : Int32), .int (0 : Int32), .int (0 : Int32)])), (q1, .inl (cyI, 16, .inl f2))] := hD
  refine gx_putF (D := (dC, dI)) (ci := 9) (v := .ref q1) (ty := (tyX9 0)) (C := RX9) (T := TX9) (N := 12) hx hb hts hi_X9 tyX9 tyX9_ok nmX9 hown hK hP hD hS 0 rfl rfl 0 (by decide) hf9 (fun _ h9 => h9) rfl hin rfl (by decide +kernel) rfl rfl (Nat.le_of_ble_eq_true rfl) dX9_init_9 [(au, .inr (9, [.ref q1, .null, .null, .null, .null, .null, .null, .null, .int (0 : Int32), .int (0 : Int32), .int (0 : Int32), .int (0 : Int32)])), (q1, .inl (cyI, 16, .inl f2))] rfl (fun H locs hP hD hS => ?_)
  refine lv_aload_n hx hb dX9_init_12 rfl (lv_at hl 0 rfl) ?_
  refine lv_bipush (v := (16 : Int32)) hx hb dX9_init_13 (by decide) ?_
  refine gx_newi (N := 16) hx hb (hts (.arrayClass .int) (nq_m (n := 4) rfl)) hK hP hD hS hA 1 rfl (by decide) (by decide) (Nat.le_of_ble_eq_true rfl) (Nat.le_of_ble_eq_true rfl) (Nat.le_of_ble_eq_true rfl) dX9_init_15 hw (fun q3 f4 H hw hP hD hS => ?_)
  have hP : va_P (dC, dI) vwCl [(au, .inr (9, [.ref q1, .null, .null, .null, .null, .null, .null, .null, .int (0 : Int32), .int (0 : Int32), .int (0 : Int32), .int (0 : Int32)])), (q1, .inl (cyI, 16, .inl f2)), (q3, .inl (cyI, 16, .inl f4))] H := hP
  have hD : va_D A [(au, .inr (9, [.ref q1, .null, .null, .null, .null, .null, .null, .null, .int (0 : Int32), .int (0 : Int32), .int (0 : Int32), .int (0 : Int32)])), (q1, .inl (cyI, 16, .inl f2)), (q3, .inl (cyI, 16, .inl f4))] := hD
  refine gx_putF (D := (dC, dI)) (ci := 9) (v := .ref q3) (ty := (tyX9 1)) (C := RX9) (T := TX9) (N := 12) hx hb hts hi_X9 tyX9 tyX9_ok nmX9 hown hK hP hD hS 0 rfl rfl 1 (by decide) hf15 (fun _ h9 => h9) rfl hin rfl (by decide +kernel) rfl rfl (Nat.le_of_ble_eq_true rfl) dX9_init_17 [(au, .inr (9, [.ref q1, .ref q3, .null, .null, .null, .null, .null, .null, .int (0 : Int32), .int (0 : Int32), .int (0 : Int32), .int (0 : Int32)])), (q1, .inl (cyI, 16, .inl f2)), (q3, .inl (cyI, 16, .inl f4))] rfl (fun H locs hP hD hS => ?_)
  refine lv_aload_n hx hb dX9_init_20 rfl (lv_at hl 0 rfl) ?_
  refine lv_bipush (v := (16 : Int32)) hx hb dX9_init_21 (by decide) ?_
  refine gx_newi (N := 16) hx hb (hts (.arrayClass .int) (nq_m (n := 4) rfl)) hK hP hD hS hA 1 rfl (by decide) (by decide) (Nat.le_of_ble_eq_true rfl) (Nat.le_of_ble_eq_true rfl) (Nat.le_of_ble_eq_true rfl) dX9_init_23 hw (fun q5 f6 H hw hP hD hS => ?_)
  have hP : va_P (dC, dI) vwCl [(au, .inr (9, [.ref q1, .ref q3, .null, .null, .null, .null, .null, .null, .int (0 : Int32), .int (0 : Int32), .int (0 : Int32), .int (0 : Int32)])), (q1, .inl (cyI, 16, .inl f2)), (q3, .inl (cyI, 16, .inl f4)), (q5, .inl (cyI, 16, .inl f6))] H := hP
  have hD : va_D A [(au, .inr (9, [.ref q1, .ref q3, .null, .null, .null, .null, .null, .null, .int (0 : Int32), .int (0 : Int32), .int (0 : Int32), .int (0 : Int32)])), (q1, .inl (cyI, 16, .inl f2)), (q3, .inl (cyI, 16, .inl f4)), (q5, .inl (cyI, 16, .inl f6))] := hD
  refine gx_putF (D := (dC, dI)) (ci := 9) (v := .ref q5) (ty := (tyX9 2)) (C := RX9) (T := TX9) (N := 12) hx hb hts hi_X9 tyX9 tyX9_ok nmX9 hown hK hP hD hS 0 rfl rfl 2 (by decide) hf18 (fun _ h9 => h9) rfl hin rfl (by decide +kernel) rfl rfl (Nat.le_of_ble_eq_true rfl) dX9_init_25 [(au, .inr (9, [.ref q1, .ref q3, .ref q5, .null, .null, .null, .null, .null, .int (0 : Int32), .int (0 : Int32), .int (0 : Int32), .int (0 : Int32)])), (q1, .inl (cyI, 16, .inl f2)), (q3, .inl (cyI, 16, .inl f4)), (q5, .inl (cyI, 16, .inl f6))] rfl (fun H locs hP hD hS => ?_)
  refine lv_aload_n hx hb dX9_init_28 rfl (lv_at hl 0 rfl) ?_
  refine lv_bipush (v := (68 : Int32)) hx hb dX9_init_29 (by decide) ?_
  refine gx_newi (N := 68) hx hb (hts (.arrayClass .int) (nq_m (n := 4) rfl)) hK hP hD hS hA 1 rfl (by decide) (by decide) (Nat.le_of_ble_eq_true rfl) (Nat.le_of_ble_eq_true rfl) (Nat.le_of_ble_eq_true rfl) dX9_init_31 hw (fun q7 f8 H hw hP hD hS => ?_)
  have hP : va_P (dC, dI) vwCl [(au, .inr (9, [.ref q1, .ref q3, .ref q5, .null, .null, .null, .null, .null, .int (0 : Int32), .int (0 : Int32), .int (0 : Int32), .int (0 : Int32)])), (q1, .inl (cyI, 16, .inl f2)), (q3, .inl (cyI, 16, .inl f4)), (q5, .inl (cyI, 16, .inl f6)), (q7, .inl (cyI, 68, .inl f8))] H := hP
  have hD : va_D A [(au, .inr (9, [.ref q1, .ref q3, .ref q5, .null, .null, .null, .null, .null, .int (0 : Int32), .int (0 : Int32), .int (0 : Int32), .int (0 : Int32)])), (q1, .inl (cyI, 16, .inl f2)), (q3, .inl (cyI, 16, .inl f4)), (q5, .inl (cyI, 16, .inl f6)), (q7, .inl (cyI, 68, .inl f8))] := hD
  refine gx_putF (D := (dC, dI)) (ci := 9) (v := .ref q7) (ty := (tyX9 3)) (C := RX9) (T := TX9) (N := 12) hx hb hts hi_X9 tyX9 tyX9_ok nmX9 hown hK hP hD hS 0 rfl rfl 3 (by decide) hf21 (fun _ h9 => h9) rfl hin rfl (by decide +kernel) rfl rfl (Nat.le_of_ble_eq_true rfl) dX9_init_33 [(au, .inr (9, [.ref q1, .ref q3, .ref q5, .ref q7, .null, .null, .null, .null, .int (0 : Int32), .int (0 : Int32), .int (0 : Int32), .int (0 : Int32)])), (q1, .inl (cyI, 16, .inl f2)), (q3, .inl (cyI, 16, .inl f4)), (q5, .inl (cyI, 16, .inl f6)), (q7, .inl (cyI, 68, .inl f8))] rfl (fun H locs hP hD hS => ?_)
  refine lv_aload_n hx hb dX9_init_36 rfl (lv_at hl 0 rfl) ?_
  refine lv_bipush (v := (17 : Int32)) hx hb dX9_init_37 (by decide) ?_
  refine gx_newi (N := 17) hx hb (hts (.arrayClass .int) (nq_m (n := 4) rfl)) hK hP hD hS hA 1 rfl (by decide) (by decide) (Nat.le_of_ble_eq_true rfl) (Nat.le_of_ble_eq_true rfl) (Nat.le_of_ble_eq_true rfl) dX9_init_39 hw (fun q9 f10 H hw hP hD hS => ?_)
  have hP : va_P (dC, dI) vwCl [(au, .inr (9, [.ref q1, .ref q3, .ref q5, .ref q7, .null, .null, .null, .null, .int (0 : Int32), .int (0 : Int32), .int (0 : Int32), .int (0 : Int32)])), (q1, .inl (cyI, 16, .inl f2)), (q3, .inl (cyI, 16, .inl f4)), (q5, .inl (cyI, 16, .inl f6)), (q7, .inl (cyI, 68, .inl f8)), (q9, .inl (cyI, 17, .inl f10))] H := hP
  have hD : va_D A [(au, .inr (9, [.ref q1, .ref q3, .ref q5, .ref q7, .null, .null, .null, .null, .int (0 : Int32), .int (0 : Int32), .int (0 : Int32), .int (0 : Int32)])), (q1, .inl (cyI, 16, .inl f2)), (q3, .inl (cyI, 16, .inl f4)), (q5, .inl (cyI, 16, .inl f6)), (q7, .inl (cyI, 68, .inl f8)), (q9, .inl (cyI, 17, .inl f10))] := hD
  refine gx_putF (D := (dC, dI)) (ci := 9) (v := .ref q9) (ty := (tyX9 4)) (C := RX9) (T := TX9) (N := 12) hx hb hts hi_X9 tyX9 tyX9_ok nmX9 hown hK hP hD hS 0 rfl rfl 4 (by decide) hf24 (fun _ h9 => h9) rfl hin rfl (by decide +kernel) rfl rfl (Nat.le_of_ble_eq_true rfl) dX9_init_41 [(au, .inr (9, [.ref q1, .ref q3, .ref q5, .ref q7, .ref q9, .null, .null, .null, .int (0 : Int32), .int (0 : Int32), .int (0 : Int32), .int (0 : Int32)])), (q1, .inl (cyI, 16, .inl f2)), (q3, .inl (cyI, 16, .inl f4)), (q5, .inl (cyI, 16, .inl f6)), (q7, .inl (cyI, 68, .inl f8)), (q9, .inl (cyI, 17, .inl f10))] rfl (fun H locs hP hD hS => ?_)
  refine lv_aload_n hx hb dX9_init_44 rfl (lv_at hl 0 rfl) ?_
  refine lv_bipush (v := (17 : Int32)) hx hb dX9_init_45 (by decide) ?_
  refine gx_newi (N := 17) hx hb (hts (.arrayClass .int) (nq_m (n := 4) rfl)) hK hP hD hS hA 1 rfl (by decide) (by decide) (Nat.le_of_ble_eq_true rfl) (Nat.le_of_ble_eq_true rfl) (Nat.le_of_ble_eq_true rfl) dX9_init_47 hw (fun q11 f12 H hw hP hD hS => ?_)
  have hP : va_P (dC, dI) vwCl [(au, .inr (9, [.ref q1, .ref q3, .ref q5, .ref q7, .ref q9, .null, .null, .null, .int (0 : Int32), .int (0 : Int32), .int (0 : Int32), .int (0 : Int32)])), (q1, .inl (cyI, 16, .inl f2)), (q3, .inl (cyI, 16, .inl f4)), (q5, .inl (cyI, 16, .inl f6)), (q7, .inl (cyI, 68, .inl f8)), (q9, .inl (cyI, 17, .inl f10)), (q11, .inl (cyI, 17, .inl f12))] H := hP
  have hD : va_D A [(au, .inr (9, [.ref q1, .ref q3, .ref q5, .ref q7, .ref q9, .null, .null, .null, .int (0 : Int32), .int (0 : Int32), .int (0 : Int32), .int (0 : Int32)])), (q1, .inl (cyI, 16, .inl f2)), (q3, .inl (cyI, 16, .inl f4)), (q5, .inl (cyI, 16, .inl f6)), (q7, .inl (cyI, 68, .inl f8)), (q9, .inl (cyI, 17, .inl f10)), (q11, .inl (cyI, 17, .inl f12))] := hD
  refine gx_putF (D := (dC, dI)) (ci := 9) (v := .ref q11) (ty := (tyX9 5)) (C := RX9) (T := TX9) (N := 12) hx hb hts hi_X9 tyX9 tyX9_ok nmX9 hown hK hP hD hS 0 rfl rfl 5 (by decide) hf27 (fun _ h9 => h9) rfl hin rfl (by decide +kernel) rfl rfl (Nat.le_of_ble_eq_true rfl) dX9_init_49 [(au, .inr (9, [.ref q1, .ref q3, .ref q5, .ref q7, .ref q9, .ref q11, .null, .null, .int (0 : Int32), .int (0 : Int32), .int (0 : Int32), .int (0 : Int32)])), (q1, .inl (cyI, 16, .inl f2)), (q3, .inl (cyI, 16, .inl f4)), (q5, .inl (cyI, 16, .inl f6)), (q7, .inl (cyI, 68, .inl f8)), (q9, .inl (cyI, 17, .inl f10)), (q11, .inl (cyI, 17, .inl f12))] rfl (fun H locs hP hD hS => ?_)
  refine lv_aload_n hx hb dX9_init_52 rfl (lv_at hl 0 rfl) ?_
  refine lv_bipush (v := (17 : Int32)) hx hb dX9_init_53 (by decide) ?_
  refine gx_newi (N := 17) hx hb (hts (.arrayClass .int) (nq_m (n := 4) rfl)) hK hP hD hS hA 1 rfl (by decide) (by decide) (Nat.le_of_ble_eq_true rfl) (Nat.le_of_ble_eq_true rfl) (Nat.le_of_ble_eq_true rfl) dX9_init_55 hw (fun q13 f14 H hw hP hD hS => ?_)
  have hP : va_P (dC, dI) vwCl [(au, .inr (9, [.ref q1, .ref q3, .ref q5, .ref q7, .ref q9, .ref q11, .null, .null, .int (0 : Int32), .int (0 : Int32), .int (0 : Int32), .int (0 : Int32)])), (q1, .inl (cyI, 16, .inl f2)), (q3, .inl (cyI, 16, .inl f4)), (q5, .inl (cyI, 16, .inl f6)), (q7, .inl (cyI, 68, .inl f8)), (q9, .inl (cyI, 17, .inl f10)), (q11, .inl (cyI, 17, .inl f12)), (q13, .inl (cyI, 17, .inl f14))] H := hP
  have hD : va_D A [(au, .inr (9, [.ref q1, .ref q3, .ref q5, .ref q7, .ref q9, .ref q11, .null, .null, .int (0 : Int32), .int (0 : Int32), .int (0 : Int32), .int (0 : Int32)])), (q1, .inl (cyI, 16, .inl f2)), (q3, .inl (cyI, 16, .inl f4)), (q5, .inl (cyI, 16, .inl f6)), (q7, .inl (cyI, 68, .inl f8)), (q9, .inl (cyI, 17, .inl f10)), (q11, .inl (cyI, 17, .inl f12)), (q13, .inl (cyI, 17, .inl f14))] := hD
  refine gx_putF (D := (dC, dI)) (ci := 9) (v := .ref q13) (ty := (tyX9 6)) (C := RX9) (T := TX9) (N := 12) hx hb hts hi_X9 tyX9 tyX9_ok nmX9 hown hK hP hD hS 0 rfl rfl 6 (by decide) hf30 (fun _ h9 => h9) rfl hin rfl (by decide +kernel) rfl rfl (Nat.le_of_ble_eq_true rfl) dX9_init_57 [(au, .inr (9, [.ref q1, .ref q3, .ref q5, .ref q7, .ref q9, .ref q11, .ref q13, .null, .int (0 : Int32), .int (0 : Int32), .int (0 : Int32), .int (0 : Int32)])), (q1, .inl (cyI, 16, .inl f2)), (q3, .inl (cyI, 16, .inl f4)), (q5, .inl (cyI, 16, .inl f6)), (q7, .inl (cyI, 68, .inl f8)), (q9, .inl (cyI, 17, .inl f10)), (q11, .inl (cyI, 17, .inl f12)), (q13, .inl (cyI, 17, .inl f14))] rfl (fun H locs hP hD hS => ?_)
  refine lv_aload_n hx hb dX9_init_60 rfl (lv_at hl 0 rfl) ?_
  refine lv_bipush (v := (7 : Int32)) hx hb dX9_init_61 (by decide) ?_
  refine gx_newi (N := 7) hx hb (hts (.arrayClass .int) (nq_m (n := 4) rfl)) hK hP hD hS hA 1 rfl (by decide) (by decide) (Nat.le_of_ble_eq_true rfl) (Nat.le_of_ble_eq_true rfl) (Nat.le_of_ble_eq_true rfl) dX9_init_63 hw (fun q15 f16 H hw hP hD hS => ?_)
  have hP : va_P (dC, dI) vwCl [(au, .inr (9, [.ref q1, .ref q3, .ref q5, .ref q7, .ref q9, .ref q11, .ref q13, .null, .int (0 : Int32), .int (0 : Int32), .int (0 : Int32), .int (0 : Int32)])), (q1, .inl (cyI, 16, .inl f2)), (q3, .inl (cyI, 16, .inl f4)), (q5, .inl (cyI, 16, .inl f6)), (q7, .inl (cyI, 68, .inl f8)), (q9, .inl (cyI, 17, .inl f10)), (q11, .inl (cyI, 17, .inl f12)), (q13, .inl (cyI, 17, .inl f14)), (q15, .inl (cyI, 7, .inl f16))] H := hP
  have hD : va_D A [(au, .inr (9, [.ref q1, .ref q3, .ref q5, .ref q7, .ref q9, .ref q11, .ref q13, .null, .int (0 : Int32), .int (0 : Int32), .int (0 : Int32), .int (0 : Int32)])), (q1, .inl (cyI, 16, .inl f2)), (q3, .inl (cyI, 16, .inl f4)), (q5, .inl (cyI, 16, .inl f6)), (q7, .inl (cyI, 68, .inl f8)), (q9, .inl (cyI, 17, .inl f10)), (q11, .inl (cyI, 17, .inl f12)), (q13, .inl (cyI, 17, .inl f14)), (q15, .inl (cyI, 7, .inl f16))] := hD
  refine gx_putF (D := (dC, dI)) (ci := 9) (v := .ref q15) (ty := (tyX9 7)) (C := RX9) (T := TX9) (N := 12) hx hb hts hi_X9 tyX9 tyX9_ok nmX9 hown hK hP hD hS 0 rfl rfl 7 (by decide) hf33 (fun _ h9 => h9) rfl hin rfl (by decide +kernel) rfl rfl (Nat.le_of_ble_eq_true rfl) dX9_init_65 [(au, .inr (9, [.ref q1, .ref q3, .ref q5, .ref q7, .ref q9, .ref q11, .ref q13, .ref q15, .int (0 : Int32), .int (0 : Int32), .int (0 : Int32), .int (0 : Int32)])), (q1, .inl (cyI, 16, .inl f2)), (q3, .inl (cyI, 16, .inl f4)), (q5, .inl (cyI, 16, .inl f6)), (q7, .inl (cyI, 68, .inl f8)), (q9, .inl (cyI, 17, .inl f10)), (q11, .inl (cyI, 17, .inl f12)), (q13, .inl (cyI, 17, .inl f14)), (q15, .inl (cyI, 7, .inl f16))] rfl (fun H locs hP hD hS => ?_)
  refine lv_aload_n hx hb dX9_init_68 rfl (lv_at hl 0 rfl) ?_
  refine lv_iconst (v := (0 : Int32)) hx hb dX9_init_69 (by decide) ?_
  refine gx_put (D := (dC, dI)) (ci := 9) (v := .int (0 : Int32)) (ty := .int) (C := RX9) (T := TX9) (N := 12) hx hb hts hi_X9 tyX9 tyX9_ok nmX9 hown hK hP hD hS 0 rfl rfl 8 (by decide) hf36 (fun _ h9 => h9) rfl (by decide +kernel) rfl rfl (Nat.le_of_ble_eq_true rfl) dX9_init_70 [(au, .inr (9, [.ref q1, .ref q3, .ref q5, .ref q7, .ref q9, .ref q11, .ref q13, .ref q15, .int (0 : Int32), .int (0 : Int32), .int (0 : Int32), .int (0 : Int32)])), (q1, .inl (cyI, 16, .inl f2)), (q3, .inl (cyI, 16, .inl f4)), (q5, .inl (cyI, 16, .inl f6)), (q7, .inl (cyI, 68, .inl f8)), (q9, .inl (cyI, 17, .inl f10)), (q11, .inl (cyI, 17, .inl f12)), (q13, .inl (cyI, 17, .inl f14)), (q15, .inl (cyI, 7, .inl f16))] rfl (fun H locs hP hD hS => ?_)
  refine lv_aload_n hx hb dX9_init_73 rfl (lv_at hl 0 rfl) ?_
  refine lv_iconst (v := (0 : Int32)) hx hb dX9_init_74 (by decide) ?_
  refine gx_put (D := (dC, dI)) (ci := 9) (v := .int (0 : Int32)) (ty := .int) (C := RX9) (T := TX9) (N := 12) hx hb hts hi_X9 tyX9 tyX9_ok nmX9 hown hK hP hD hS 0 rfl rfl 9 (by decide) hf40 (fun _ h9 => h9) rfl (by decide +kernel) rfl rfl (Nat.le_of_ble_eq_true rfl) dX9_init_75 [(au, .inr (9, [.ref q1, .ref q3, .ref q5, .ref q7, .ref q9, .ref q11, .ref q13, .ref q15, .int (0 : Int32), .int (0 : Int32), .int (0 : Int32), .int (0 : Int32)])), (q1, .inl (cyI, 16, .inl f2)), (q3, .inl (cyI, 16, .inl f4)), (q5, .inl (cyI, 16, .inl f6)), (q7, .inl (cyI, 68, .inl f8)), (q9, .inl (cyI, 17, .inl f10)), (q11, .inl (cyI, 17, .inl f12)), (q13, .inl (cyI, 17, .inl f14)), (q15, .inl (cyI, 7, .inl f16))] rfl (fun H locs hP hD hS => ?_)
  refine lv_aload_n hx hb dX9_init_78 rfl (lv_at hl 0 rfl) ?_
  refine lv_iconst (v := (0 : Int32)) hx hb dX9_init_79 (by decide) ?_
  refine gx_put (D := (dC, dI)) (ci := 9) (v := .int (0 : Int32)) (ty := .int) (C := RX9) (T := TX9) (N := 12) hx hb hts hi_X9 tyX9 tyX9_ok nmX9 hown hK hP hD hS 0 rfl rfl 10 (by decide) hf43 (fun _ h9 => h9) rfl (by decide +kernel) rfl rfl (Nat.le_of_ble_eq_true rfl) dX9_init_80 [(au, .inr (9, [.ref q1, .ref q3, .ref q5, .ref q7, .ref q9, .ref q11, .ref q13, .ref q15, .int (0 : Int32), .int (0 : Int32), .int (0 : Int32), .int (0 : Int32)])), (q1, .inl (cyI, 16, .inl f2)), (q3, .inl (cyI, 16, .inl f4)), (q5, .inl (cyI, 16, .inl f6)), (q7, .inl (cyI, 68, .inl f8)), (q9, .inl (cyI, 17, .inl f10)), (q11, .inl (cyI, 17, .inl f12)), (q13, .inl (cyI, 17, .inl f14)), (q15, .inl (cyI, 7, .inl f16))] rfl (fun H locs hP hD hS => ?_)
  refine lv_aload_n hx hb dX9_init_83 rfl (lv_at hl 0 rfl) ?_
  refine lv_iconst (v := (0 : Int32)) hx hb dX9_init_84 (by decide) ?_
  refine gx_put (D := (dC, dI)) (ci := 9) (v := .int (0 : Int32)) (ty := .int) (C := RX9) (T := TX9) (N := 12) hx hb hts hi_X9 tyX9 tyX9_ok nmX9 hown hK hP hD hS 0 rfl rfl 11 (by decide) hf46 (fun _ h9 => h9) rfl (by decide +kernel) rfl rfl (Nat.le_of_ble_eq_true rfl) dX9_init_85 [(au, .inr (9, [.ref q1, .ref q3, .ref q5, .ref q7, .ref q9, .ref q11, .ref q13, .ref q15, .int (0 : Int32), .int (0 : Int32), .int (0 : Int32), .int (0 : Int32)])), (q1, .inl (cyI, 16, .inl f2)), (q3, .inl (cyI, 16, .inl f4)), (q5, .inl (cyI, 16, .inl f6)), (q7, .inl (cyI, 68, .inl f8)), (q9, .inl (cyI, 17, .inl f10)), (q11, .inl (cyI, 17, .inl f12)), (q13, .inl (cyI, 17, .inl f14)), (q15, .inl (cyI, 7, .inl f16))] rfl (fun H locs hP hD hS => ?_)
  refine W.widen (k := 8) (n := 174) (Nat.le_of_ble_eq_true rfl) (Nat.le_of_ble_eq_true rfl) ?_
  refine W.widen (k := 8) (n := 174) (Nat.le_of_ble_eq_true rfl) (Nat.le_of_ble_eq_true rfl) ?_
  have hP := hP.sub [0, 1, 2, 3, 4, 5, 6, 7, 8] rfl
  have hD := hD.sub (ws' := [(au, .inr (9, [.ref q1, .ref q3, .ref q5, .ref q7, .ref q9, .ref q11, .ref q13, .ref q15, .int (0 : Int32), .int (0 : Int32), .int (0 : Int32), .int (0 : Int32)])), (q1, .inl (cyI, 16, .inl f2)), (q3, .inl (cyI, 16, .inl f4)), (q5, .inl (cyI, 16, .inl f6)), (q7, .inl (cyI, 68, .inl f8)), (q9, .inl (cyI, 17, .inl f10)), (q11, .inl (cyI, 17, .inl f12)), (q13, .inl (cyI, 17, .inl f14)), (q15, .inl (cyI, 7, .inl f16))]) [0, 1, 2, 3, 4, 5, 6, 7, 8] (by decide) rfl
  exact rt_b hQ hx hb hr hlocks hS (fun t ht => ⟨q1, q3, q5, q7, q9, q11, q13, q15, (0 : Int32), (0 : Int32), (0 : Int32), (0 : Int32), f2, f4, f6, f8, f10, f12, f14, f16, by rw [ht]; exact hP, hD, hw⟩) dX9_init_88
abbrev rmX5_init : Room := { frames := 1, cells := 2, slots := 70, locals := 12 }
theorem cd_X5_init : yX5_init.cls = RX5 ∧ yX5_init.cls ≠ "java/lang/invoke/MethodHandle" ∧ yX5_init.cls ≠ "java/lang/invoke/VarHandle" ∧ (parseMethodDescriptor yX5_init.desc).map (fun d => d.parameters.length) = some 0 := by decide +kernel
set_option maxRecDepth 100000 in
abbrev at_Matching_init (dC : Nat → ClassId) (dI : Nat → Nat → Nat) (cyB cyI cyJ cyZ : ClassId) (aq : Nat) (A : Nat → Prop) (Q : Int → (Int → Int) → (Int → Int) → Prop) : Unit → State → Prop := fun _ t => ∃ (aq_fitting : Nat) (aq_waysOf : Nat) (q_claims : Int32) (q_fitting : Nat → Int32) (q_waysOf : Nat → Int64), va_P (dC, dI) vwCl [(aq, .inr (5, [.ref aq_fitting, .ref aq_waysOf, .int q_claims])), (aq_fitting, .inl (cyI, 6, .inl q_fitting)), (aq_waysOf, .inl (cyJ, 64, .inr (.inl q_waysOf)))] t.heap ∧ va_D A [(aq, .inr (5, [.ref aq_fitting, .ref aq_waysOf, .int q_claims])), (aq_fitting, .inl (cyI, 6, .inl q_fitting)), (aq_waysOf, .inl (cyJ, 64, .inr (.inl q_waysOf)))] ∧ Q q_claims.toInt (aI 6 q_fitting) (aL 64 q_waysOf)
set_option maxHeartbeats 4000000 in
set_option maxRecDepth 100000 in
theorem ct_Matching_init (l : Launch) (dC : Nat → ClassId) (dI : Nat → Nat → Nat) (cyB cyI cyJ cyZ : ClassId) (aq : Nat) (sz : Nat) (Q : Int → (Int → Int) → (Int → Int) → Prop) : Met l yX5_init wsX5_init rmX5_init (va_Pc [.ref aq] (cPre (dC, dI) vwCl (tyS cyB cyI cyJ cyZ) [(aq, .inr (5, [.null, .null, .int (0 : Int32)]))] sz (nf_Matching_init Q))) (va_Qv (fun _ => True) (at_Matching_init dC dI cyB cyI cyJ cyZ aq (va_A [(aq, .inr (5, [.null, .null, .int (0 : Int32)]))] sz) Q) (va_A [(aq, .inr (5, [.null, .null, .int (0 : Int32)]))] sz)) 2 70 (va_A [(aq, .inr (5, [.null, .null, .int (0 : Int32)]))] sz) := by
  refine Met.ofW (cc := cX5_init) (maxL := 1) (ret := none) (by decide) rfl ?_
  intro p e s m args below meth c s₁ B hml hv
  obtain ⟨rfl, hsz, hP, hK, hD0, hNw, hw⟩ := hv
  have hx := B.exec
  have hb := B.bytes
  have hr := B.returns
  have hts := atoms_spec (ws := wsX5_init) B.pre
  have hown : s.vm.findClass RX5 = some m.cls := findClass_of_methodNamed B.named
  have hlocks := B.notSynchronized
  have hin : meth.name = "<init>" := (name_of_methodNamed B.named B.method).1
  subst hsz
  have hD := hD0.self (sz := s.heap.size)
  generalize hAe : va_A [(aq, .inr (5, [.null, .null, .int (0 : Int32)]))] s.heap.size = A at hD ⊢
  have hA : ∀ q : Nat, s.heap.size ≤ q → A q := fun q h => by rw [← hAe]; exact Or.inr h
  have hS : va_S A s.heap s.heap [] := va_S.rf
  have hl := lv_entry ([.ref aq]) (n := 1) (Nat.le_of_ble_eq_true rfl)
  rw [lg_entry_eq]
  generalize (lg_sl ([.ref aq]) ++ List.replicate (1 - (lg_sl ([.ref aq])).length) Slot.unset).toArray = ls at hl ⊢
  have hl : lv_has ls 1 [(0, .ref aq)] := hl
  refine gx_q (fun Q9 hQ => ?_)
  unfold nf_Matching_init at hw
  have hi_X5 : ∀ w ∈ wsX50, w ∈ wsX5_init := (sub_c (nq_m (n := 9) rfl) (sub_c (nq_m (n := 10) rfl) (sub_c (nq_m (n := 11) rfl) sub_n)))
  have hf9 : (Cond.fieldLink RX5 9 "CoatsHall$Matching" (TX5 0).2.1 (TX5 0).2.2.1).before ([.ref aq] : List Value).toArray s = true := hts (.fieldLink RX5 9 "CoatsHall$Matching" "fitting" "[I") (nq_m (n := 5) rfl)
  have hf15 : (Cond.fieldLink RX5 15 "CoatsHall$Matching" (TX5 1).2.1 (TX5 1).2.2.1).before ([.ref aq] : List Value).toArray s = true := hts (.fieldLink RX5 15 "CoatsHall$Matching" "waysOf" "[J") (nq_m (n := 7) rfl)
  have hf19 : (Cond.fieldLink RX5 19 "CoatsHall$Matching" (TX5 2).2.1 (TX5 2).2.2.1).before ([.ref aq] : List Value).toArray s = true := hts (.fieldLink RX5 19 "CoatsHall$Matching" "claims" "I") (nq_m (n := 8) rfl)
  refine lv_aload_n hx hb dX5_init_0 rfl (lv_at hl 0 rfl) ?_
  refine W.objInit hx hb hown (hts (.methodLink RX5 3 objectInit) (nq_m (n := 1) rfl)) (hts (.instanceMethod objectInit) (nq_m (n := 2) rfl)) (hts (.code objectInit ⟨#[0xb1]⟩ 1 none) (nq_m (n := 3) rfl)) rfl (by rw [hml]; exact hl.1) rfl dX5_init_1 (Nat.le_of_ble_eq_true rfl) (Nat.le_of_ble_eq_true rfl) ?_
  refine lv_aload_n hx hb dX5_init_4 rfl (lv_at hl 0 rfl) ?_
  refine lv_bipush (v := (6 : Int32)) hx hb dX5_init_5 (by decide) ?_
  refine gx_newi (N := 6) hx hb (hts (.arrayClass .int) (nq_m (n := 4) rfl)) hK hP hD hS hA 1 rfl (by decide) (by decide) (Nat.le_of_ble_eq_true rfl) (Nat.le_of_ble_eq_true rfl) (Nat.le_of_ble_eq_true rfl) dX5_init_7 hw (fun q1 f2 H hw hP hD hS => ?_)
  have hP : va_P (dC, dI) vwCl [(aq, .inr (5, [.null, .null, .int (0 : Int32)])), (q1, .inl (cyI, 6, .inl f2))] H := hP
  have hD : va_D A [(aq, .inr (5, [.null, .null, .int (0 : Int32)])), (q1, .inl (cyI, 6, .inl f2))] := hD
  refine gx_putF (D := (dC, dI)) (ci := 5) (v := .ref q1) (ty := (tyX5 0)) (C := RX5) (T := TX5) (N := 3) hx hb hts hi_X5 tyX5 tyX5_ok nmX5 hown hK hP hD hS 0 rfl rfl 0 (by decide) hf9 (fun _ h9 => h9) rfl hin rfl (by decide +kernel) rfl rfl (Nat.le_of_ble_eq_true rfl) dX5_init_9 [(aq, .inr (5, [.ref q1, .null, .int (0 : Int32)])), (q1, .inl (cyI, 6, .inl f2))] rfl (fun H locs hP hD hS => ?_)
  refine lv_aload_n hx hb dX5_init_12 rfl (lv_at hl 0 rfl) ?_
  refine lv_bipush (v := (64 : Int32)) hx hb dX5_init_13 (by decide) ?_
  refine gx_newl (N := 64) hx hb (hts (.arrayClass .long) (nq_m (n := 6) rfl)) hK hP hD hS hA 2 rfl (by decide) (by decide) (Nat.le_of_ble_eq_true rfl) (Nat.le_of_ble_eq_true rfl) (Nat.le_of_ble_eq_true rfl) dX5_init_15 hw (fun q3 f4 H hw hP hD hS => ?_)
  have hP : va_P (dC, dI) vwCl [(aq, .inr (5, [.ref q1, .null, .int (0 : Int32)])), (q1, .inl (cyI, 6, .inl f2)), (q3, .inl (cyJ, 64, .inr (.inl f4)))] H := hP
  have hD : va_D A [(aq, .inr (5, [.ref q1, .null, .int (0 : Int32)])), (q1, .inl (cyI, 6, .inl f2)), (q3, .inl (cyJ, 64, .inr (.inl f4)))] := hD
  refine gx_putF (D := (dC, dI)) (ci := 5) (v := .ref q3) (ty := (tyX5 1)) (C := RX5) (T := TX5) (N := 3) hx hb hts hi_X5 tyX5 tyX5_ok nmX5 hown hK hP hD hS 0 rfl rfl 1 (by decide) hf15 (fun _ h9 => h9) rfl hin rfl (by decide +kernel) rfl rfl (Nat.le_of_ble_eq_true rfl) dX5_init_17 [(aq, .inr (5, [.ref q1, .ref q3, .int (0 : Int32)])), (q1, .inl (cyI, 6, .inl f2)), (q3, .inl (cyJ, 64, .inr (.inl f4)))] rfl (fun H locs hP hD hS => ?_)
  refine lv_aload_n hx hb dX5_init_20 rfl (lv_at hl 0 rfl) ?_
  refine lv_iconst (v := (0 : Int32)) hx hb dX5_init_21 (by decide) ?_
  refine gx_put (D := (dC, dI)) (ci := 5) (v := .int (0 : Int32)) (ty := .int) (C := RX5) (T := TX5) (N := 3) hx hb hts hi_X5 tyX5 tyX5_ok nmX5 hown hK hP hD hS 0 rfl rfl 2 (by decide) hf19 (fun _ h9 => h9) rfl (by decide +kernel) rfl rfl (Nat.le_of_ble_eq_true rfl) dX5_init_22 [(aq, .inr (5, [.ref q1, .ref q3, .int (0 : Int32)])), (q1, .inl (cyI, 6, .inl f2)), (q3, .inl (cyJ, 64, .inr (.inl f4)))] rfl (fun H locs hP hD hS => ?_)
  refine W.widen (k := 2) (n := 70) (Nat.le_of_ble_eq_true rfl) (Nat.le_of_ble_eq_true rfl) ?_
  refine W.widen (k := 2) (n := 70) (Nat.le_of_ble_eq_true rfl) (Nat.le_of_ble_eq_true rfl) ?_
  have hP := hP.sub [0, 1, 2] rfl
  have hD := hD.sub (ws' := [(aq, .inr (5, [.ref q1, .ref q3, .int (0 : Int32)])), (q1, .inl (cyI, 6, .inl f2)), (q3, .inl (cyJ, 64, .inr (.inl f4)))]) [0, 1, 2] (by decide) rfl
  exact rt_b hQ hx hb hr hlocks hS (fun t ht => ⟨q1, q3, (0 : Int32), f2, f4, by rw [ht]; exact hP, hD, hw⟩) dX5_init_25
