/-! STRINGS: the seven words of the reader, as the start gives them, and String.length, String.charAt on them -/
def sJ_idx : List Nat := [50, 59, 64, 73, 89, 100, 102]
def sJ_tx : List String := ["row", "odds", "weights", "give", "less", "kind", "walk"]
def sJ_len : List Nat := [3, 4, 7, 4, 4, 4, 4]
def sJ_byt : List (List Int32) := [[114, 111, 119], [111, 100, 100, 115], [119, 101, 105, 103, 104, 116, 115], [103, 105, 118, 101], [108, 101, 115, 115], [107, 105, 110, 100], [119, 97, 108, 107]]
def slenN (i : Nat) : Nat := sJ_len.getD i 0
def schr (i : Nat) (k : Int) : Int := ((sJ_byt.getD i []).getD k.toNat 0).toInt
def strW (adK adV : Nat → Nat) (A : Nat → Prop) (U : State) (H : Heap) : Prop :=
  vk_S 7 sJ_len sJ_byt adK adV A U H ∧ (∀ i : Nat, i < 7 → vk_R RX8 (sJ_idx.getD i 0) (sJ_tx.getD i "") (adK i) U) ∧ va_Z RJ0 "COMPACT_STRINGS" "Z" (.int 1) A U H ∧ va_Zq "jdk/internal/util/Preconditions" "SIOOBE_FORMATTER" "Ljava/util/function/BiFunction;" A U H
theorem strW_kept {adK adV : Nat → Nat} {A : Nat → Prop} {U : State} {H H1 : Heap} (h : strW adK adV A U H) (hq : ∀ a : Nat, a < H.size → ¬ A a → H1[a]? = H[a]?) : strW adK adV A U H1 := ⟨h.1.kept hq, h.2.1, h.2.2.1.kept hq, h.2.2.2.kept hq⟩
theorem strW_narrow {adK adV : Nat → Nat} {A B : Nat → Prop} {U : State} {H : Heap} (h : strW adK adV A U H) (hAB : ∀ q, B q → A q) : strW adK adV B U H := ⟨h.1.narrow hAB, h.2.1, h.2.2.1.narrow hAB, h.2.2.2.narrow hAB⟩
theorem strW_warm {adK adV : Nat → Nat} {A : Nat → Prop} {s U : State} {H : Heap} (hW : s.WarmedH U.vm) (h : strW adK adV A s H) : strW adK adV A U H := ⟨h.1.moved hW.alike, fun i hi => (h.2.1 i hi).warm hW, h.2.2.1.moved hW.alike, h.2.2.2.moved hW.alike⟩
theorem strW_same {adK adV : Nat → Nat} {A : Nat → Prop} {u U : State} {H : Heap} (hv : U.vm = u.vm) (ha : u.vm.Alike U.vm) (h : strW adK adV A u H) : strW adK adV A U H := ⟨h.1.moved ha, fun i hi => (h.2.1 i hi).same hv, h.2.2.1.moved ha, h.2.2.2.moved ha⟩
def cPreT (D : va_G) (cl : List vw_C) (tys : List (ClassId × FieldType)) (ws : va_W) (sz : Nat) (adK adV : Nat → Nat) (X : Prop) : State → Prop := fun U => cPre D cl tys ws sz X U ∧ strW adK adV (va_A ws sz) U U.heap
theorem cPreT_blind {D : va_G} {cl : List vw_C} {tys : List (ClassId × FieldType)} {ws : va_W} {sz : Nat} {adK adV : Nat → Nat} {X : Prop} {av : List Value} : FrameBlind (va_Pc av (cPreT D cl tys ws sz adK adV X)) := fun a U g mk h => ⟨h.1, (cPre_blind (av := av) a U g mk ⟨h.1, h.2.1⟩).2, strW_same (u := U) (U := U.calling g mk a) rfl (Vm.Alike.refl U.vm) h.2.2⟩
section GT
variable {p : Program} {l : Launch} {e : Env} {R : Room} {s : State} {m : MethodId} {args : Array Value} {below : List Frame} {meth : Method} {c : Code} {H : Heap} {locs : List Loc} {cells slots : Nat} {Q : State → Prop}
variable {cc : ByteArray} {pc : Nat} {ls : Array Slot} {rest st0 : List Value} {D : va_G} {cl : List vw_C} {A : Nat → Prop} {a : Array Value} {tys : List (ClassId × FieldType)} {ws wc wr : va_W} {X : Prop} {adK adV : Nat → Nat}
theorem gx_preST {As : List Value} (hT : strW adK adV A s s.heap) (hS : va_S A s.heap H locs) (hA : ∀ q : Nat, s.heap.size ≤ q → A q) (hK : va_K D cl tys s) (hP : va_P D cl ws H) (hD : va_D A ws) (hN : nwA s) (isC : List Nat) (hC : isC.map (fun i => ws[i]?) = wc.map some) (hn : va_nd isC = true) (hw : X) : PreS s H (va_Pc As (cPreT D cl tys wc H.size adK adV X)) As :=
  ⟨cPreT_blind, fun U hU hW => ⟨rfl, ((gx_preS (As := As) hK hP hD hN isC hC hn hw).2 U hU hW).2, by
    have hF := va_free (wc := wc) hD hS hA isC hC
    rw [hU]
    exact strW_warm hW (strW_narrow (strW_kept hT hS.2.1) hF)⟩⟩
theorem gx_preVT {As : List Value} {b ci : Nat} {q : vw_C} {C : String} {fs : List Value} (hT : strW adK adV A s s.heap) (hS : va_S A s.heap H locs) (hA : ∀ q : Nat, s.heap.size ≤ q → A q) (hK : va_K D cl tys s) (hP : va_P D cl ws H) (hD : va_D A ws) (hN : nwA s) (isC : List Nat) (hC : isC.map (fun i => ws[i]?) = wc.map some) (hn : va_nd isC = true) (hw : X) (q0 : Nat) (hc : cl[ci]? = some q) (he : ws[q0]? = some (b, .inr (ci, fs))) (hq : q.1 = C) : PreV s H C b (va_Pc (.ref b :: As) (cPreT D cl tys wc H.size adK adV X)) As :=
  ⟨cPreT_blind, by rw [← hq]; exact va_recv hK hP hc he, (gx_preST (As := .ref b :: As) hT hS hA hK hP hD hN isC hC hn hw).2⟩
theorem gx_preVS {As : List Value} {i : Nat} (hi : i < 7) (hT : strW adK adV A s s.heap) (hS : va_S A s.heap H locs) (hA : ∀ q : Nat, s.heap.size ≤ q → A q) (hK : va_K D cl tys s) (hP : va_P D cl ws H) (hD : va_D A ws) (hN : nwA s) (isC : List Nat) (hC : isC.map (fun i => ws[i]?) = wc.map some) (hn : va_nd isC = true) (hw : X) : PreV s H RJ0 (adK i) (va_Pc (.ref (adK i) :: As) (cPreT D cl tys wc H.size adK adV X)) As :=
  ⟨cPreT_blind, vk_recv hT.1 hi hS, (gx_preST (As := .ref (adK i) :: As) hT hS hA hK hP hD hN isC hC hn hw).2⟩
theorem rt_n {S : Type} {post : Int32 → S → Prop} {w1 : S → va_W} {A1 : Nat → Prop} {ty : FieldType} (hQ : MQ below (va_Qi post (cPost D cl w1 A) A) args s cells slots A = Q) (hexec : p.tables.exec = Jvm.exec) (hb : c.code = cc) (hr : meth.sig.returnType = some ty) (hlocks : meth.locks = false) (hP : va_P D cl ws H) (hD : va_D A ws) (hS : va_S A s.heap H locs) (u : S) (is : List Nat) (hs : is.map (fun i => ws[i]?) = (w1 u).map some) (hn : va_nd is = true) {v : Int32} (hz : narrow ty (.int v) = .int v) (hw : post v u) (hdg : decode cc pc = .ok (.ireturn, 1)) : W p l e R s m args below meth c H locs cells slots Q (F0 m pc ls [.int v]) := by
  subst hQ
  exact W.zret hexec hb hr hz (fun t ht _ => ⟨⟨v, u, rfl, hw, by rw [ht]; exact hP.sub is (fm_of hs), hD.sub is hn hs⟩, hS.F ht⟩) hS.2.2 hdg hlocks
end GT
theorem schr_nc (i k : Nat) (hi : i < 7) (hk : k < slenN i) : narrow .char (.int ((sJ_byt.getD i []).getD k 0)) = .int ((sJ_byt.getD i []).getD k 0) := by
  revert k
  revert i
  decide +kernel
theorem schr_le (i k : Nat) (hi : i < 7) (hk : k < slenN i) : ((sJ_byt.getD i []).getD k 0).toInt8.toInt32 = (sJ_byt.getD i []).getD k 0 ∧ ((((sJ_byt.getD i []).getD k 0) &&& 255).toUInt32 % 65536).toInt32 = (sJ_byt.getD i []).getD k 0 := by
  revert k
  revert i
  decide +kernel

theorem cd_J0_coder_7d493 : yJ0_coder_7d493.cls = RJ0 ∧ yJ0_coder_7d493.cls ≠ "java/lang/invoke/MethodHandle" ∧ yJ0_coder_7d493.cls ≠ "java/lang/invoke/VarHandle" ∧ (parseMethodDescriptor yJ0_coder_7d493.desc).map (fun d => d.parameters.length) = some 0 := by decide +kernel
abbrev rmJ0_coder_7d493 : Room := { frames := 0, cells := 0, slots := 0, locals := 0 }
set_option maxHeartbeats 4000000 in
set_option maxRecDepth 100000 in
theorem ct_str_coder (l : Launch) (dC : Nat → ClassId) (dI : Nat → Nat → Nat) (cyB cyI cyJ cyZ : ClassId) (adK adV : Nat → Nat) (sz : Nat) (i : Nat) (hi : i < 7) (Q : Int → Prop) : Met l yJ0_coder_7d493 wsJ0_coder_7d493 rmJ0_coder_7d493 (va_Pc [.ref (adK i)] (cPreT (dC, dI) vwCl (tyS cyB cyI cyJ cyZ) [] sz adK adV (Q 0))) (va_Qi (fun (r : Int32) (_ : Unit) => Q r.toInt) (cPost (dC, dI) vwCl (fun _ : Unit => []) (va_A [] sz)) (va_A [] sz)) 0 0 (va_A [] sz) := by
  refine Met.ofW (cc := cJ0_coder_7d493) (maxL := 1) (ret := (some .byte)) (by decide) rfl ?_
  intro p e s m args below meth c s₁ B hml hv
  obtain ⟨rfl, ⟨hsz, hP, hK, hD0, hNw, hw⟩, hT⟩ := hv
  have hx := B.exec
  have hb := B.bytes
  have hr := B.returns
  have hts := atoms_spec (ws := wsJ0_coder_7d493) B.pre
  have hown : s.vm.findClass RJ0 = some m.cls := findClass_of_methodNamed B.named
  have hlocks := B.notSynchronized
  subst hsz
  have hD := hD0.self (sz := s.heap.size)
  generalize hAe : va_A [] s.heap.size = A at hD hT ⊢
  have hA : ∀ q : Nat, s.heap.size ≤ q → A q := fun q h => by rw [← hAe]; exact Or.inr h
  have hS : va_S A s.heap s.heap [] := va_S.rf
  have hl := lv_entry ([.ref (adK i)]) (n := 1) (Nat.le_of_ble_eq_true rfl)
  rw [lg_entry_eq]
  generalize (lg_sl ([.ref (adK i)]) ++ List.replicate (1 - (lg_sl ([.ref (adK i)])).length) Slot.unset).toArray = ls at hl ⊢
  have hl : lv_has ls 1 [(0, .ref (adK i))] := hl
  refine gx_q (fun Q9 hQ => ?_)
  refine va_gets hx hb hT.2.2.1 hS hown (hts (.fieldLink RJ0 38 "java/lang/String" "COMPACT_STRINGS" "Z") (by decide +kernel)) (fun _ h9 => h9) (nq_d dJ0_coder_7d493_0_g (n := 0) rfl) ?_
  refine lv_if_eq (tgt := 13) hx hb (nq_d dJ0_coder_7d493_0_g (n := 1) rfl) (by decide) (fun h9 => absurd h9 (by decide)) (fun _ => ?_)
  refine lv_aload_n hx hb (nq_d dJ0_coder_7d493_0_g (n := 2) rfl) rfl (lv_at hl 0 rfl) ?_
  refine vk_getf hx hb (hT.1.1 i hi).2.1 hS hown (hts (.fieldLink RJ0 15 "java/lang/String" "coder" "B") (by decide +kernel)) (fun _ h9 => h9) (nq_d dJ0_coder_7d493_0_g (n := 3) rfl) ?_
  refine lv_goto (tgt := 14) hx hb (nq_d dJ0_coder_7d493_0_g (n := 4) rfl) (by decide) ?_
  exact rt_n (A1 := A) hQ hx hb hr hlocks hP hD hS () [] rfl (by decide) rfl hw (nq_d dJ0_coder_7d493_0_g (n := 6) rfl)
theorem cd_J0_isLatin1_aae02 : yJ0_isLatin1_aae02.cls = RJ0 ∧ yJ0_isLatin1_aae02.cls ≠ "java/lang/invoke/MethodHandle" ∧ yJ0_isLatin1_aae02.cls ≠ "java/lang/invoke/VarHandle" ∧ (parseMethodDescriptor yJ0_isLatin1_aae02.desc).map (fun d => d.parameters.length) = some 0 := by decide +kernel
abbrev rmJ0_isLatin1_aae02 : Room := { frames := 0, cells := 0, slots := 0, locals := 0 }
set_option maxHeartbeats 4000000 in
set_option maxRecDepth 100000 in
theorem ct_str_isLatin1 (l : Launch) (dC : Nat → ClassId) (dI : Nat → Nat → Nat) (cyB cyI cyJ cyZ : ClassId) (adK adV : Nat → Nat) (sz : Nat) (i : Nat) (hi : i < 7) (Q : Int → Prop) : Met l yJ0_isLatin1_aae02 wsJ0_isLatin1_aae02 rmJ0_isLatin1_aae02 (va_Pc [.ref (adK i)] (cPreT (dC, dI) vwCl (tyS cyB cyI cyJ cyZ) [] sz adK adV (Q 1))) (va_Qi (fun (r : Int32) (_ : Unit) => Q r.toInt) (cPost (dC, dI) vwCl (fun _ : Unit => []) (va_A [] sz)) (va_A [] sz)) 0 0 (va_A [] sz) := by
  refine Met.ofW (cc := cJ0_isLatin1_aae02) (maxL := 1) (ret := (some .boolean)) (by decide) rfl ?_
  intro p e s m args below meth c s₁ B hml hv
  obtain ⟨rfl, ⟨hsz, hP, hK, hD0, hNw, hw⟩, hT⟩ := hv
  have hx := B.exec
  have hb := B.bytes
  have hr := B.returns
  have hts := atoms_spec (ws := wsJ0_isLatin1_aae02) B.pre
  have hown : s.vm.findClass RJ0 = some m.cls := findClass_of_methodNamed B.named
  have hlocks := B.notSynchronized
  subst hsz
  have hD := hD0.self (sz := s.heap.size)
  generalize hAe : va_A [] s.heap.size = A at hD hT ⊢
  have hA : ∀ q : Nat, s.heap.size ≤ q → A q := fun q h => by rw [← hAe]; exact Or.inr h
  have hS : va_S A s.heap s.heap [] := va_S.rf
  have hl := lv_entry ([.ref (adK i)]) (n := 1) (Nat.le_of_ble_eq_true rfl)
  rw [lg_entry_eq]
  generalize (lg_sl ([.ref (adK i)]) ++ List.replicate (1 - (lg_sl ([.ref (adK i)])).length) Slot.unset).toArray = ls at hl ⊢
  have hl : lv_has ls 1 [(0, .ref (adK i))] := hl
  refine gx_q (fun Q9 hQ => ?_)
  refine va_gets hx hb hT.2.2.1 hS hown (hts (.fieldLink RJ0 38 "java/lang/String" "COMPACT_STRINGS" "Z") (by decide +kernel)) (fun _ h9 => h9) (nq_d dJ0_isLatin1_aae02_0_g (n := 0) rfl) ?_
  refine lv_if_eq (tgt := 17) hx hb (nq_d dJ0_isLatin1_aae02_0_g (n := 1) rfl) (by decide) (fun h9 => absurd h9 (by decide)) (fun _ => ?_)
  refine lv_aload_n hx hb (nq_d dJ0_isLatin1_aae02_0_g (n := 2) rfl) rfl (lv_at hl 0 rfl) ?_
  refine vk_getf hx hb (hT.1.1 i hi).2.1 hS hown (hts (.fieldLink RJ0 15 "java/lang/String" "coder" "B") (by decide +kernel)) (fun _ h9 => h9) (nq_d dJ0_isLatin1_aae02_0_g (n := 3) rfl) ?_
  refine lv_if_ne (tgt := 17) hx hb (nq_d dJ0_isLatin1_aae02_0_g (n := 4) rfl) (by decide) (fun h9 => absurd rfl h9) (fun _ => ?_)
  refine lv_iconst (v := (1 : Int32)) hx hb (nq_d dJ0_isLatin1_aae02_0_g (n := 5) rfl) (by decide) ?_
  refine lv_goto (tgt := 18) hx hb (nq_d dJ0_isLatin1_aae02_0_g (n := 6) rfl) (by decide) ?_
  exact rt_zl (A1 := A) hQ hx hb hr hlocks hP hD hS () [] rfl (by decide) rfl hw (nq_d dJ0_isLatin1_aae02_0_g (n := 8) rfl)
theorem cd_J0_length_8abf5 : yJ0_length_8abf5.cls = RJ0 ∧ yJ0_length_8abf5.cls ≠ "java/lang/invoke/MethodHandle" ∧ yJ0_length_8abf5.cls ≠ "java/lang/invoke/VarHandle" ∧ (parseMethodDescriptor yJ0_length_8abf5.desc).map (fun d => d.parameters.length) = some 0 := by decide +kernel
abbrev rmJ0_length_8abf5 : Room := { frames := 1, cells := 0, slots := 0, locals := 20 }
set_option maxHeartbeats 4000000 in
set_option maxRecDepth 100000 in
theorem ct_str_length (l : Launch) (dC : Nat → ClassId) (dI : Nat → Nat → Nat) (cyB cyI cyJ cyZ : ClassId) (adK adV : Nat → Nat) (sz : Nat) (i : Nat) (hi : i < 7) (Q : Int → Prop) : Met l yJ0_length_8abf5 wsJ0_length_8abf5 rmJ0_length_8abf5 (va_Pc [.ref (adK i)] (cPreT (dC, dI) vwCl (tyS cyB cyI cyJ cyZ) [] sz adK adV (wL (slenN i : Int) Q))) (va_Qi (fun (r : Int32) (_ : Unit) => Q r.toInt) (cPost (dC, dI) vwCl (fun _ : Unit => []) (va_A [] sz)) (va_A [] sz)) 0 0 (va_A [] sz) := by
  refine Met.ofW (cc := cJ0_length_8abf5) (maxL := 1) (ret := (some .int)) (by decide) rfl ?_
  intro p e s m args below meth c s₁ B hml hv
  obtain ⟨rfl, ⟨hsz, hP, hK, hD0, hNw, hw⟩, hT⟩ := hv
  have hx := B.exec
  have hb := B.bytes
  have hr := B.returns
  have hts := atoms_spec (ws := wsJ0_length_8abf5) B.pre
  have hown : s.vm.findClass RJ0 = some m.cls := findClass_of_methodNamed B.named
  have hlocks := B.notSynchronized
  subst hsz
  have hD := hD0.self (sz := s.heap.size)
  generalize hAe : va_A [] s.heap.size = A at hD hT ⊢
  have hA : ∀ q : Nat, s.heap.size ≤ q → A q := fun q h => by rw [← hAe]; exact Or.inr h
  have hS : va_S A s.heap s.heap [] := va_S.rf
  have hl := lv_entry ([.ref (adK i)]) (n := 1) (Nat.le_of_ble_eq_true rfl)
  rw [lg_entry_eq]
  generalize (lg_sl ([.ref (adK i)]) ++ List.replicate (1 - (lg_sl ([.ref (adK i)])).length) Slot.unset).toArray = ls at hl ⊢
  have hl : lv_has ls 1 [(0, .ref (adK i))] := hl
  refine gx_q (fun Q9 hQ => ?_)
  refine lv_aload_n hx hb (nq_d dJ0_length_8abf5_0_g (n := 0) rfl) rfl (lv_at hl 0 rfl) ?_
  refine vk_getf hx hb (hT.1.1 i hi).2.2.1 hS hown (hts (.fieldLink RJ0 9 "java/lang/String" "value" "[B") (by decide +kernel)) (fun _ h9 => h9) (nq_d dJ0_length_8abf5_0_g (n := 1) rfl) ?_
  refine va_tlen hx hb (hT.1.1 i hi).2.2.2 hS (v := Int32.ofNat (slenN i)) rfl (nq_d dJ0_length_8abf5_0_g (n := 2) rfl) ?_
  refine lv_aload_n hx hb (nq_d dJ0_length_8abf5_0_g (n := 3) rfl) rfl (lv_at hl 0 rfl) ?_
  have hz : (fun r : Int => r = 0) 0 := rfl
  refine gx_ri (wr := []) (va_runV (As := []) (rest := [.int (Int32.ofNat (slenN i))]) ⟨hx, hb, hml, hown, hts⟩ (ct_str_coder l dC dI cyB cyI cyJ cyZ adK adV _ i hi (fun r => r = 0)) (cwV 0 hts gJ0_length_8abf5_J0_coder_7d493 rfl rfl rfl cd_J0_coder_7d493 ⟨Nat.le_of_ble_eq_true rfl, Nat.le_of_ble_eq_true rfl⟩) (gx_preVS hi hT hS hA hK hP hD hNw [] rfl (by decide) hz) rfl rfl hl.1 rfl (lv_room (Nat.le_of_ble_eq_true rfl)) (nq_d dJ0_length_8abf5_0_g (n := 4) rfl) ⟨Nat.zero_le _, Nat.zero_le _⟩) hP hD hS hA [] [] [] rfl rfl (by decide) (by decide) (by decide) (fun _ => []) (fun _ => rfl) (fun r1 u H locs hr1 hP hD hS => ?_)
  have hr0 : r1 = 0 := Int32.toInt_inj.mp (by rw [hr1]; rfl)
  subst hr0
  refine lv_ishr hx hb (nq_d dJ0_length_8abf5_0_g (n := 5) rfl) ?_
  have hq : ∀ j : Nat, j < 7 → Int32.ofNat (slenN j) >>> ((0 : Int32) &&& 31) = Int32.ofNat (slenN j) ∧ (Int32.ofNat (slenN j)).toInt = slenN j := by decide +kernel
  rw [(hq i hi).1]
  exact rt_i (A1 := A) hQ hx hb hr hlocks hP hD hS () [] rfl (by decide) (by show Q (Int32.ofNat (slenN i)).toInt; rw [(hq i hi).2]; exact hw) (nq_d dJ0_length_8abf5_0_g (n := 6) rfl)
theorem cd_J3_checkIndex_8e157 : yJ3_checkIndex_8e157.cls = RJ3 ∧ yJ3_checkIndex_8e157.cls ≠ "java/lang/invoke/MethodHandle" ∧ yJ3_checkIndex_8e157.cls ≠ "java/lang/invoke/VarHandle" ∧ (parseMethodDescriptor yJ3_checkIndex_8e157.desc).map (fun d => d.parameters.length) = some 3 := by decide +kernel
abbrev rmJ3_checkIndex_8e157 : Room := { frames := 0, cells := 0, slots := 0, locals := 0 }
set_option maxHeartbeats 4000000 in
set_option maxRecDepth 100000 in
theorem ct_str_check3 (l : Launch) (dC : Nat → ClassId) (dI : Nat → Nat → Nat) (cyB cyI cyJ cyZ : ClassId) (adK adV : Nat → Nat) (sz : Nat) (x1 x2 : Int32) (t : Nat) (Q : Prop) : Met l yJ3_checkIndex_8e157 wsJ3_checkIndex_8e157 rmJ3_checkIndex_8e157 (va_Pc [.int x1, .int x2, .ref t] (cPreT (dC, dI) vwCl (tyS cyB cyI cyJ cyZ) [] sz adK adV (0 ≤ x1.toInt ∧ x1.toInt < x2.toInt ∧ Q))) (va_Qi (fun (_ : Int32) (_ : Unit) => Q) (cPost (dC, dI) vwCl (fun _ : Unit => []) (va_A [] sz)) (va_A [] sz)) 0 0 (va_A [] sz) := by
  refine Met.ofW (cc := cJ3_checkIndex_8e157) (maxL := 3) (ret := (some .int)) (by decide) rfl ?_
  intro p e s m args below meth c s₁ B hml hv
  obtain ⟨rfl, ⟨hsz, hP, hK, hD0, hNw, hw⟩, hT⟩ := hv
  have hx := B.exec
  have hb := B.bytes
  have hr := B.returns
  have hts := atoms_spec (ws := wsJ3_checkIndex_8e157) B.pre
  have hown : s.vm.findClass RJ3 = some m.cls := findClass_of_methodNamed B.named
  have hlocks := B.notSynchronized
  subst hsz
  have hD := hD0.self (sz := s.heap.size)
  generalize hAe : va_A [] s.heap.size = A at hD hT ⊢
  have hA : ∀ q : Nat, s.heap.size ≤ q → A q := fun q h => by rw [← hAe]; exact Or.inr h
  have hS : va_S A s.heap s.heap [] := va_S.rf
  have hl := lv_entry ([.int x1, .int x2, .ref t]) (n := 3) (Nat.le_of_ble_eq_true rfl)
  rw [lg_entry_eq]
  generalize (lg_sl ([.int x1, .int x2, .ref t]) ++ List.replicate (3 - (lg_sl ([.int x1, .int x2, .ref t])).length) Slot.unset).toArray = ls at hl ⊢
  have hl : lv_has ls 3 [(0, .int x1), (1, .int x2), (2, .ref t)] := hl
  refine gx_q (fun Q9 hQ => ?_)
  refine lv_iload_n hx hb (nq_d dJ3_checkIndex_8e157_0_g (n := 0) rfl) rfl (lv_at hl 0 rfl) ?_
  refine lv_if_lt (tgt := 9) hx hb (nq_d dJ3_checkIndex_8e157_0_g (n := 1) rfl) (by decide) (fun h9 => absurd (Int32.lt_iff_toInt_lt.mp h9) (Int.not_lt.mpr hw.1)) (fun _ => ?_)
  refine lv_iload_n hx hb (nq_d dJ3_checkIndex_8e157_0_g (n := 2) rfl) rfl (lv_at hl 0 rfl) ?_
  refine lv_iload_n hx hb (nq_d dJ3_checkIndex_8e157_0_g (n := 3) rfl) rfl (lv_at hl 1 rfl) ?_
  refine lv_icmp_lt (tgt := 16) hx hb (nq_d dJ3_checkIndex_8e157_0_g (n := 4) rfl) (by decide) (fun _ => ?_) (fun h9 => absurd (Int32.lt_iff_toInt_lt.mpr hw.2.1) h9)
  refine lv_iload_n hx hb (nq_d dJ3_checkIndex_8e157_0_g (n := 10) rfl) rfl (lv_at hl 0 rfl) ?_
  exact rt_i (A1 := A) hQ hx hb hr hlocks hP hD hS () [] rfl (by decide) hw.2.2 (nq_d dJ3_checkIndex_8e157_0_g (n := 11) rfl)
set_option maxHeartbeats 4000000 in
set_option maxRecDepth 100000 in
theorem ct_str_check3n (l : Launch) (dC : Nat → ClassId) (dI : Nat → Nat → Nat) (cyB cyI cyJ cyZ : ClassId) (adK adV : Nat → Nat) (sz : Nat) (x1 x2 : Int32) (Q : Prop) : Met l yJ3_checkIndex_8e157 wsJ3_checkIndex_8e157 rmJ3_checkIndex_8e157 (va_Pc [.int x1, .int x2, .null] (cPreT (dC, dI) vwCl (tyS cyB cyI cyJ cyZ) [] sz adK adV (0 ≤ x1.toInt ∧ x1.toInt < x2.toInt ∧ Q))) (va_Qi (fun (_ : Int32) (_ : Unit) => Q) (cPost (dC, dI) vwCl (fun _ : Unit => []) (va_A [] sz)) (va_A [] sz)) 0 0 (va_A [] sz) := by
  refine Met.ofW (cc := cJ3_checkIndex_8e157) (maxL := 3) (ret := (some .int)) (by decide) rfl ?_
  intro p e s m args below meth c s₁ B hml hv
  obtain ⟨rfl, ⟨hsz, hP, hK, hD0, hNw, hw⟩, hT⟩ := hv
  have hx := B.exec
  have hb := B.bytes
  have hr := B.returns
  have hts := atoms_spec (ws := wsJ3_checkIndex_8e157) B.pre
  have hown : s.vm.findClass RJ3 = some m.cls := findClass_of_methodNamed B.named
  have hlocks := B.notSynchronized
  subst hsz
  have hD := hD0.self (sz := s.heap.size)
  generalize hAe : va_A [] s.heap.size = A at hD hT ⊢
  have hA : ∀ q : Nat, s.heap.size ≤ q → A q := fun q h => by rw [← hAe]; exact Or.inr h
  have hS : va_S A s.heap s.heap [] := va_S.rf
  have hl := lv_entry ([.int x1, .int x2, .null]) (n := 3) (Nat.le_of_ble_eq_true rfl)
  rw [lg_entry_eq]
  generalize (lg_sl ([.int x1, .int x2, .null]) ++ List.replicate (3 - (lg_sl ([.int x1, .int x2, .null])).length) Slot.unset).toArray = ls at hl ⊢
  have hl : lv_has ls 3 [(0, .int x1), (1, .int x2), (2, .null)] := hl
  refine gx_q (fun Q9 hQ => ?_)
  refine lv_iload_n hx hb (nq_d dJ3_checkIndex_8e157_0_g (n := 0) rfl) rfl (lv_at hl 0 rfl) ?_
  refine lv_if_lt (tgt := 9) hx hb (nq_d dJ3_checkIndex_8e157_0_g (n := 1) rfl) (by decide) (fun h9 => absurd (Int32.lt_iff_toInt_lt.mp h9) (Int.not_lt.mpr hw.1)) (fun _ => ?_)
  refine lv_iload_n hx hb (nq_d dJ3_checkIndex_8e157_0_g (n := 2) rfl) rfl (lv_at hl 0 rfl) ?_
  refine lv_iload_n hx hb (nq_d dJ3_checkIndex_8e157_0_g (n := 3) rfl) rfl (lv_at hl 1 rfl) ?_
  refine lv_icmp_lt (tgt := 16) hx hb (nq_d dJ3_checkIndex_8e157_0_g (n := 4) rfl) (by decide) (fun _ => ?_) (fun h9 => absurd (Int32.lt_iff_toInt_lt.mpr hw.2.1) h9)
  refine lv_iload_n hx hb (nq_d dJ3_checkIndex_8e157_0_g (n := 10) rfl) rfl (lv_at hl 0 rfl) ?_
  exact rt_i (A1 := A) hQ hx hb hr hlocks hP hD hS () [] rfl (by decide) hw.2.2 (nq_d dJ3_checkIndex_8e157_0_g (n := 11) rfl)
theorem cd_J0_checkIndex_df160 : yJ0_checkIndex_df160.cls = RJ0 ∧ yJ0_checkIndex_df160.cls ≠ "java/lang/invoke/MethodHandle" ∧ yJ0_checkIndex_df160.cls ≠ "java/lang/invoke/VarHandle" ∧ (parseMethodDescriptor yJ0_checkIndex_df160.desc).map (fun d => d.parameters.length) = some 2 := by decide +kernel
abbrev rmJ0_checkIndex_df160 : Room := { frames := 1, cells := 0, slots := 0, locals := 22 }
set_option maxHeartbeats 4000000 in
set_option maxRecDepth 100000 in
theorem ct_str_check (l : Launch) (dC : Nat → ClassId) (dI : Nat → Nat → Nat) (cyB cyI cyJ cyZ : ClassId) (adK adV : Nat → Nat) (sz : Nat) (x1 x2 : Int32) (Q : Prop) : Met l yJ0_checkIndex_df160 wsJ0_checkIndex_df160 rmJ0_checkIndex_df160 (va_Pc [.int x1, .int x2] (cPreT (dC, dI) vwCl (tyS cyB cyI cyJ cyZ) [] sz adK adV (0 ≤ x1.toInt ∧ x1.toInt < x2.toInt ∧ Q))) (va_Qv (fun (_ : Unit) => Q) (cPost (dC, dI) vwCl (fun _ : Unit => []) (va_A [] sz)) (va_A [] sz)) 0 0 (va_A [] sz) := by
  refine Met.ofW (cc := cJ0_checkIndex_df160) (maxL := 2) (ret := none) (by decide) rfl ?_
  intro p e s m args below meth c s₁ B hml hv
  obtain ⟨rfl, ⟨hsz, hP, hK, hD0, hNw, hw⟩, hT⟩ := hv
  have hx := B.exec
  have hb := B.bytes
  have hr := B.returns
  have hts := atoms_spec (ws := wsJ0_checkIndex_df160) B.pre
  have hown : s.vm.findClass RJ0 = some m.cls := findClass_of_methodNamed B.named
  have hlocks := B.notSynchronized
  subst hsz
  have hD := hD0.self (sz := s.heap.size)
  generalize hAe : va_A [] s.heap.size = A at hD hT ⊢
  have hA : ∀ q : Nat, s.heap.size ≤ q → A q := fun q h => by rw [← hAe]; exact Or.inr h
  have hS : va_S A s.heap s.heap [] := va_S.rf
  have hl := lv_entry ([.int x1, .int x2]) (n := 2) (Nat.le_of_ble_eq_true rfl)
  rw [lg_entry_eq]
  generalize (lg_sl ([.int x1, .int x2]) ++ List.replicate (2 - (lg_sl ([.int x1, .int x2])).length) Slot.unset).toArray = ls at hl ⊢
  have hl : lv_has ls 2 [(0, .int x1), (1, .int x2)] := hl
  refine gx_q (fun Q9 hQ => ?_)
  refine lv_iload_n hx hb (nq_d dJ0_checkIndex_df160_0_g (n := 0) rfl) rfl (lv_at hl 0 rfl) ?_
  refine lv_iload_n hx hb (nq_d dJ0_checkIndex_df160_0_g (n := 1) rfl) rfl (lv_at hl 1 rfl) ?_
  rcases hT.2.2.2 with ht | ⟨t, ht⟩
  · refine va_gets hx hb ht hS hown (hts (.fieldLink RJ0 1053 "jdk/internal/util/Preconditions" "SIOOBE_FORMATTER" "Ljava/util/function/BiFunction;") (by decide +kernel)) (fun _ h9 => h9) (nq_d dJ0_checkIndex_df160_0_g (n := 2) rfl) ?_
    refine gx_ri (wr := []) (va_runS (As := [.int x1, .int x2, .null]) (rest := []) ⟨hx, hb, hml, hown, hts⟩ (ct_str_check3n l dC dI cyB cyI cyJ cyZ adK adV _ x1 x2 Q) (va_cwS 3 hts gJ0_checkIndex_df160_J3_checkIndex_8e157 rfl rfl rfl cd_J3_checkIndex_8e157.2 ⟨Nat.le_of_ble_eq_true rfl, Nat.le_of_ble_eq_true rfl⟩) (gx_preST hT hS hA hK hP hD hNw [] rfl (by decide) hw) rfl rfl hl.1 rfl (lv_room (Nat.le_of_ble_eq_true rfl)) (nq_d dJ0_checkIndex_df160_0_g (n := 3) rfl) ⟨Nat.zero_le _, Nat.zero_le _⟩) hP hD hS hA [] [] [] rfl rfl (by decide) (by decide) (by decide) (fun _ => []) (fun _ => rfl) (fun r1 u H locs hw hP hD hS => ?_)
    refine lv_pop hx hb (nq_d dJ0_checkIndex_df160_0_g (n := 4) rfl) rfl ?_
    exact rt_v (A1 := A) hQ hx hb hr hlocks hP hD hS () [] rfl (by decide) hw (nq_d dJ0_checkIndex_df160_0_g (n := 5) rfl)
  · refine va_gets hx hb ht hS hown (hts (.fieldLink RJ0 1053 "jdk/internal/util/Preconditions" "SIOOBE_FORMATTER" "Ljava/util/function/BiFunction;") (by decide +kernel)) (fun _ h9 => h9) (nq_d dJ0_checkIndex_df160_0_g (n := 2) rfl) ?_
    refine gx_ri (wr := []) (va_runS (As := [.int x1, .int x2, .ref t]) (rest := []) ⟨hx, hb, hml, hown, hts⟩ (ct_str_check3 l dC dI cyB cyI cyJ cyZ adK adV _ x1 x2 t Q) (va_cwS 3 hts gJ0_checkIndex_df160_J3_checkIndex_8e157 rfl rfl rfl cd_J3_checkIndex_8e157.2 ⟨Nat.le_of_ble_eq_true rfl, Nat.le_of_ble_eq_true rfl⟩) (gx_preST hT hS hA hK hP hD hNw [] rfl (by decide) hw) rfl rfl hl.1 rfl (lv_room (Nat.le_of_ble_eq_true rfl)) (nq_d dJ0_checkIndex_df160_0_g (n := 3) rfl) ⟨Nat.zero_le _, Nat.zero_le _⟩) hP hD hS hA [] [] [] rfl rfl (by decide) (by decide) (by decide) (fun _ => []) (fun _ => rfl) (fun r1 u H locs hw hP hD hS => ?_)
    refine lv_pop hx hb (nq_d dJ0_checkIndex_df160_0_g (n := 4) rfl) rfl ?_
    exact rt_v (A1 := A) hQ hx hb hr hlocks hP hD hS () [] rfl (by decide) hw (nq_d dJ0_checkIndex_df160_0_g (n := 5) rfl)
theorem cd_J1_charAt_3b067 : yJ1_charAt_3b067.cls = RJ1 ∧ yJ1_charAt_3b067.cls ≠ "java/lang/invoke/MethodHandle" ∧ yJ1_charAt_3b067.cls ≠ "java/lang/invoke/VarHandle" ∧ (parseMethodDescriptor yJ1_charAt_3b067.desc).map (fun d => d.parameters.length) = some 2 := by decide +kernel
abbrev rmJ1_charAt_3b067 : Room := { frames := 2, cells := 0, slots := 0, locals := 43 }
set_option maxHeartbeats 4000000 in
set_option maxRecDepth 100000 in
theorem ct_str_charAt1 (l : Launch) (dC : Nat → ClassId) (dI : Nat → Nat → Nat) (cyB cyI cyJ cyZ : ClassId) (adK adV : Nat → Nat) (sz : Nat) (i : Nat) (hi : i < 7) (x1 : Int32) (Q : Int → Prop) : Met l yJ1_charAt_3b067 wsJ1_charAt_3b067 rmJ1_charAt_3b067 (va_Pc [.ref (adV i), .int x1] (cPreT (dC, dI) vwCl (tyS cyB cyI cyJ cyZ) [] sz adK adV (wO (inb x1.toInt (slenN i)) (schr i x1.toInt) Q))) (va_Qi (fun (r : Int32) (_ : Unit) => narrow .char (.int r) = .int r ∧ Q r.toInt) (cPost (dC, dI) vwCl (fun _ : Unit => []) (va_A [] sz)) (va_A [] sz)) 0 0 (va_A [] sz) := by
  refine Met.ofW (cc := cJ1_charAt_3b067) (maxL := 2) (ret := (some .char)) (by decide) rfl ?_
  intro p e s m args below meth c s₁ B hml hv
  obtain ⟨rfl, ⟨hsz, hP, hK, hD0, hNw, hw⟩, hT⟩ := hv
  have hx := B.exec
  have hb := B.bytes
  have hr := B.returns
  have hts := atoms_spec (ws := wsJ1_charAt_3b067) B.pre
  have hown : s.vm.findClass RJ1 = some m.cls := findClass_of_methodNamed B.named
  have hlocks := B.notSynchronized
  subst hsz
  have hD := hD0.self (sz := s.heap.size)
  generalize hAe : va_A [] s.heap.size = A at hD hT ⊢
  have hA : ∀ q : Nat, s.heap.size ≤ q → A q := fun q h => by rw [← hAe]; exact Or.inr h
  have hS : va_S A s.heap s.heap [] := va_S.rf
  have hl := lv_entry ([.ref (adV i), .int x1]) (n := 2) (Nat.le_of_ble_eq_true rfl)
  rw [lg_entry_eq]
  generalize (lg_sl ([.ref (adV i), .int x1]) ++ List.replicate (2 - (lg_sl ([.ref (adV i), .int x1])).length) Slot.unset).toArray = ls at hl ⊢
  have hl : lv_has ls 2 [(0, .ref (adV i)), (1, .int x1)] := hl
  refine gx_q (fun Q9 hQ => ?_)
  have hin : vp_in x1 (slenN i) := vp_in_iff.mpr hw.1
  refine lv_iload_n hx hb (nq_d dJ1_charAt_3b067_0_g (n := 0) rfl) rfl (lv_at hl 1 rfl) ?_
  refine lv_aload_n hx hb (nq_d dJ1_charAt_3b067_0_g (n := 1) rfl) rfl (lv_at hl 0 rfl) ?_
  refine va_tlen hx hb (hT.1.1 i hi).2.2.2 hS (v := Int32.ofNat (slenN i)) rfl (nq_d dJ1_charAt_3b067_0_g (n := 2) rfl) ?_
  have hq : ∀ j : Nat, j < 7 → (Int32.ofNat (slenN j)).toInt = slenN j := by decide +kernel
  have hw2 : 0 ≤ x1.toInt ∧ x1.toInt < (Int32.ofNat (slenN i)).toInt ∧ Q (schr i x1.toInt) := ⟨hw.1.1, by rw [hq i hi]; exact hw.1.2, hw.2⟩
  refine gx_rv (wr := []) (va_runS (As := [.int x1, .int (Int32.ofNat (slenN i))]) (rest := []) ⟨hx, hb, hml, hown, hts⟩ (ct_str_check l dC dI cyB cyI cyJ cyZ adK adV _ x1 (Int32.ofNat (slenN i)) _) (va_cwS 2 hts gJ1_charAt_3b067_J0_checkIndex_df160 rfl rfl rfl cd_J0_checkIndex_df160.2 ⟨Nat.le_of_ble_eq_true rfl, Nat.le_of_ble_eq_true rfl⟩) (gx_preST hT hS hA hK hP hD hNw [] rfl (by decide) hw2) rfl rfl hl.1 rfl (lv_room (Nat.le_of_ble_eq_true rfl)) (nq_d dJ1_charAt_3b067_0_g (n := 3) rfl) ⟨Nat.zero_le _, Nat.zero_le _⟩) hP hD hS hA [] [] [] rfl rfl (by decide) (by decide) (by decide) (fun _ => []) (fun _ => rfl) (fun u H locs hw hP hD hS => ?_)
  refine lv_aload_n hx hb (nq_d dJ1_charAt_3b067_0_g (n := 4) rfl) rfl (lv_at hl 0 rfl) ?_
  refine lv_iload_n hx hb (nq_d dJ1_charAt_3b067_0_g (n := 5) rfl) rfl (lv_at hl 1 rfl) ?_
  refine va_tb hx hb (hT.1.1 i hi).2.2.2 hS hin (v := .int ((sJ_byt.getD i []).getD x1.toNatClampNeg 0)) rfl (nq_d dJ1_charAt_3b067_0_g (n := 6) rfl) ?_
  refine lv_sipush (v := (255 : Int32)) hx hb (nq_d dJ1_charAt_3b067_0_g (n := 7) rfl) (by decide) ?_
  refine lv_iand hx hb (nq_d dJ1_charAt_3b067_0_g (n := 8) rfl) ?_
  have hk : x1.toNatClampNeg < slenN i := by have := vp_in_iff.mp hin; have e : x1.toNatClampNeg = x1.toInt.toNat := rfl; omega
  refine lv_i2c (v := (sJ_byt.getD i []).getD x1.toNatClampNeg 0) hx hb (nq_d dJ1_charAt_3b067_0_g (n := 9) rfl) (schr_le i _ hi hk).2 ?_
  exact rt_n (A1 := A) hQ hx hb hr hlocks hP hD hS () [] rfl (by decide) (schr_nc i _ hi hk) ⟨schr_nc i _ hi hk, hw⟩ (nq_d dJ1_charAt_3b067_0_g (n := 10) rfl)
theorem cd_J0_charAt_5068e : yJ0_charAt_5068e.cls = RJ0 ∧ yJ0_charAt_5068e.cls ≠ "java/lang/invoke/MethodHandle" ∧ yJ0_charAt_5068e.cls ≠ "java/lang/invoke/VarHandle" ∧ (parseMethodDescriptor yJ0_charAt_5068e.desc).map (fun d => d.parameters.length) = some 1 := by decide +kernel
abbrev rmJ0_charAt_5068e : Room := { frames := 3, cells := 0, slots := 0, locals := 64 }
set_option maxHeartbeats 4000000 in
set_option maxRecDepth 100000 in
theorem ct_str_charAt (l : Launch) (dC : Nat → ClassId) (dI : Nat → Nat → Nat) (cyB cyI cyJ cyZ : ClassId) (adK adV : Nat → Nat) (sz : Nat) (i : Nat) (hi : i < 7) (x1 : Int32) (Q : Int → Prop) : Met l yJ0_charAt_5068e wsJ0_charAt_5068e rmJ0_charAt_5068e (va_Pc [.ref (adK i), .int x1] (cPreT (dC, dI) vwCl (tyS cyB cyI cyJ cyZ) [] sz adK adV (wO (inb x1.toInt (slenN i)) (schr i x1.toInt) Q))) (va_Qi (fun (r : Int32) (_ : Unit) => narrow .char (.int r) = .int r ∧ Q r.toInt) (cPost (dC, dI) vwCl (fun _ : Unit => []) (va_A [] sz)) (va_A [] sz)) 0 0 (va_A [] sz) := by
  refine Met.ofW (cc := cJ0_charAt_5068e) (maxL := 2) (ret := (some .char)) (by decide) rfl ?_
  intro p e s m args below meth c s₁ B hml hv
  obtain ⟨rfl, ⟨hsz, hP, hK, hD0, hNw, hw⟩, hT⟩ := hv
  have hx := B.exec
  have hb := B.bytes
  have hr := B.returns
  have hts := atoms_spec (ws := wsJ0_charAt_5068e) B.pre
  have hown : s.vm.findClass RJ0 = some m.cls := findClass_of_methodNamed B.named
  have hlocks := B.notSynchronized
  subst hsz
  have hD := hD0.self (sz := s.heap.size)
  generalize hAe : va_A [] s.heap.size = A at hD hT ⊢
  have hA : ∀ q : Nat, s.heap.size ≤ q → A q := fun q h => by rw [← hAe]; exact Or.inr h
  have hS : va_S A s.heap s.heap [] := va_S.rf
  have hl := lv_entry ([.ref (adK i), .int x1]) (n := 2) (Nat.le_of_ble_eq_true rfl)
  rw [lg_entry_eq]
  generalize (lg_sl ([.ref (adK i), .int x1]) ++ List.replicate (2 - (lg_sl ([.ref (adK i), .int x1])).length) Slot.unset).toArray = ls at hl ⊢
  have hl : lv_has ls 2 [(0, .ref (adK i)), (1, .int x1)] := hl
  refine gx_q (fun Q9 hQ => ?_)
  refine lv_aload_n hx hb (nq_d dJ0_charAt_5068e_0_g (n := 0) rfl) rfl (lv_at hl 0 rfl) ?_
  have hz : (fun r : Int => r = 1) 1 := rfl
  refine gx_ri (wr := []) (va_runV (As := []) (rest := []) ⟨hx, hb, hml, hown, hts⟩ (ct_str_isLatin1 l dC dI cyB cyI cyJ cyZ adK adV _ i hi (fun r => r = 1)) (cwV 0 hts gJ0_charAt_5068e_J0_isLatin1_aae02 rfl rfl rfl cd_J0_isLatin1_aae02 ⟨Nat.le_of_ble_eq_true rfl, Nat.le_of_ble_eq_true rfl⟩) (gx_preVS hi hT hS hA hK hP hD hNw [] rfl (by decide) hz) rfl rfl hl.1 rfl (lv_room (Nat.le_of_ble_eq_true rfl)) (nq_d dJ0_charAt_5068e_0_g (n := 1) rfl) ⟨Nat.zero_le _, Nat.zero_le _⟩) hP hD hS hA [] [] [] rfl rfl (by decide) (by decide) (by decide) (fun _ => []) (fun _ => rfl) (fun r1 u H locs hr1 hP hD hS => ?_)
  have hr0 : r1 = 1 := Int32.toInt_inj.mp (by rw [hr1]; rfl)
  subst hr0
  refine lv_if_eq (tgt := 16) hx hb (nq_d dJ0_charAt_5068e_0_g (n := 2) rfl) (by decide) (fun h9 => absurd h9 (by decide)) (fun _ => ?_)
  refine lv_aload_n hx hb (nq_d dJ0_charAt_5068e_0_g (n := 3) rfl) rfl (lv_at hl 0 rfl) ?_
  refine vk_getf hx hb (hT.1.1 i hi).2.2.1 hS hown (hts (.fieldLink RJ0 9 "java/lang/String" "value" "[B") (by decide +kernel)) (fun _ h9 => h9) (nq_d dJ0_charAt_5068e_0_g (n := 4) rfl) ?_
  refine lv_iload_n hx hb (nq_d dJ0_charAt_5068e_0_g (n := 5) rfl) rfl (lv_at hl 1 rfl) ?_
  refine gx_ri (wr := []) (va_runS (As := [.ref (adV i), .int x1]) (rest := []) ⟨hx, hb, hml, hown, hts⟩ (ct_str_charAt1 l dC dI cyB cyI cyJ cyZ adK adV _ i hi x1 _) (va_cwS 2 hts gJ0_charAt_5068e_J1_charAt_3b067 rfl rfl rfl cd_J1_charAt_3b067.2 ⟨Nat.le_of_ble_eq_true rfl, Nat.le_of_ble_eq_true rfl⟩) (gx_preST hT hS hA hK hP hD hNw [] rfl (by decide) hw) rfl rfl hl.1 rfl (lv_room (Nat.le_of_ble_eq_true rfl)) (nq_d dJ0_charAt_5068e_0_g (n := 6) rfl) ⟨Nat.zero_le _, Nat.zero_le _⟩) hP hD hS hA [] [] [] rfl rfl (by decide) (by decide) (by decide) (fun _ => []) (fun _ => rfl) (fun r1 u H locs hw hP hD hS => ?_)
  exact rt_n (A1 := A) hQ hx hb hr hlocks hP hD hS () [] rfl (by decide) hw.1 hw (nq_d dJ0_charAt_5068e_0_g (n := 7) rfl)
