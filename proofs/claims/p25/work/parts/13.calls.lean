/-! CALLS: the start of a contract, the world behind it, rows that call and come back -/
noncomputable def nl_list : List (String × Nat × MethodName × String) := [(RX10, 9, yX3_init, RX10), (RX10, 18, yX8_init, RX10), (RX8, 36, yX3_init, RX10), (RX10, 25, yX4_init, RX10), (RX4, 9, yX2_init, RX10), (RX4, 18, yX1_init, RX10), (RX4, 25, yX0_init, RX10), (RX4, 32, yX6_init, RX10), (RX10, 38, yX7_init, RX10), (RX10, 45, yX9_init, RX10), (RX10, 52, yX5_init, RX10), (RX3, 42, yX10_within, RX10), (RX8, 119, yX10_within, RX10), (RX6, 25, yX10_within, RX10), (RX7, 26, yX10_within, RX10), (RX1, 33, yX10_within, RX10), (RX9, 71, yX10_within, RX10), (RX5, 42, yX10_within, RX10)]
def nwA (U : State) : Prop := ∀ (k : Nat) (q : String × Nat × MethodName × String), nl_list[k]? = some q → va_Nw (.methodLinkNest q.1 q.2.1 q.2.2.1 q.2.2.2) U
theorem nw_0 {U : State} (h : nwA U) : va_Nw (.methodLinkNest RX10 9 yX3_init RX10) U := h 0 (RX10, 9, yX3_init, RX10) rfl
theorem nw_1 {U : State} (h : nwA U) : va_Nw (.methodLinkNest RX10 18 yX8_init RX10) U := h 1 (RX10, 18, yX8_init, RX10) rfl
theorem nw_2 {U : State} (h : nwA U) : va_Nw (.methodLinkNest RX8 36 yX3_init RX10) U := h 2 (RX8, 36, yX3_init, RX10) rfl
theorem nw_3 {U : State} (h : nwA U) : va_Nw (.methodLinkNest RX10 25 yX4_init RX10) U := h 3 (RX10, 25, yX4_init, RX10) rfl
theorem nw_4 {U : State} (h : nwA U) : va_Nw (.methodLinkNest RX4 9 yX2_init RX10) U := h 4 (RX4, 9, yX2_init, RX10) rfl
theorem nw_5 {U : State} (h : nwA U) : va_Nw (.methodLinkNest RX4 18 yX1_init RX10) U := h 5 (RX4, 18, yX1_init, RX10) rfl
theorem nw_6 {U : State} (h : nwA U) : va_Nw (.methodLinkNest RX4 25 yX0_init RX10) U := h 6 (RX4, 25, yX0_init, RX10) rfl
theorem nw_7 {U : State} (h : nwA U) : va_Nw (.methodLinkNest RX4 32 yX6_init RX10) U := h 7 (RX4, 32, yX6_init, RX10) rfl
theorem nw_8 {U : State} (h : nwA U) : va_Nw (.methodLinkNest RX10 38 yX7_init RX10) U := h 8 (RX10, 38, yX7_init, RX10) rfl
theorem nw_9 {U : State} (h : nwA U) : va_Nw (.methodLinkNest RX10 45 yX9_init RX10) U := h 9 (RX10, 45, yX9_init, RX10) rfl
theorem nw_10 {U : State} (h : nwA U) : va_Nw (.methodLinkNest RX10 52 yX5_init RX10) U := h 10 (RX10, 52, yX5_init, RX10) rfl
theorem nw_11 {U : State} (h : nwA U) : va_Nw (.methodLinkNest RX3 42 yX10_within RX10) U := h 11 (RX3, 42, yX10_within, RX10) rfl
theorem nw_12 {U : State} (h : nwA U) : va_Nw (.methodLinkNest RX8 119 yX10_within RX10) U := h 12 (RX8, 119, yX10_within, RX10) rfl
theorem nw_13 {U : State} (h : nwA U) : va_Nw (.methodLinkNest RX6 25 yX10_within RX10) U := h 13 (RX6, 25, yX10_within, RX10) rfl
theorem nw_14 {U : State} (h : nwA U) : va_Nw (.methodLinkNest RX7 26 yX10_within RX10) U := h 14 (RX7, 26, yX10_within, RX10) rfl
theorem nw_15 {U : State} (h : nwA U) : va_Nw (.methodLinkNest RX1 33 yX10_within RX10) U := h 15 (RX1, 33, yX10_within, RX10) rfl
theorem nw_16 {U : State} (h : nwA U) : va_Nw (.methodLinkNest RX9 71 yX10_within RX10) U := h 16 (RX9, 71, yX10_within, RX10) rfl
theorem nw_17 {U : State} (h : nwA U) : va_Nw (.methodLinkNest RX5 42 yX10_within RX10) U := h 17 (RX5, 42, yX10_within, RX10) rfl
theorem nwA_warm {s U : State} (hW : s.WarmedH U.vm) (h : nwA s) : nwA U := fun k q hq => va_Nw.warmM hW (h k q hq)
theorem nwA_same {s U : State} (hv : s.vm = U.vm) (h : nwA s) : nwA U := fun k q hq => va_Nw.same rfl hv (h k q hq)
def cPre (D : va_G) (cl : List vw_C) (tys : List (ClassId × FieldType)) (ws : va_W) (sz : Nat) (X : Prop) : State → Prop := fun U => U.heap.size = sz ∧ va_P D cl ws U.heap ∧ va_K D cl tys U ∧ va_D (fun _ => True) ws ∧ nwA U ∧ X
def cPost {S : Type} (D : va_G) (cl : List vw_C) (w1 : S → va_W) (A : Nat → Prop) : S → State → Prop := fun u t => va_P D cl (w1 u) t.heap ∧ va_D A (w1 u)
theorem cPre_blind {D : va_G} {cl : List vw_C} {tys : List (ClassId × FieldType)} {ws : va_W} {sz : Nat} {X : Prop} {av : List Value} : FrameBlind (va_Pc av (cPre D cl tys ws sz X)) := fun a U g mk h => ⟨h.1, h.2.1, h.2.2.1, va_K.moved (u := U) (U := U.calling g mk a) (Vm.Alike.refl U.vm) h.2.2.2.1, h.2.2.2.2.1, nwA_same (U := U.calling g mk a) rfl h.2.2.2.2.2.1, h.2.2.2.2.2.2⟩
theorem fm_of {α β : Type} {f : α → Option β} {l : List α} {r : List β} (h : l.map f = r.map some) : l.filterMap f = r := by
  induction l generalizing r with
  | nil =>
    cases r with
    | nil => rfl
    | cons b r => simp at h
  | cons a l ih =>
    cases r with
    | nil => simp at h
    | cons b r =>
      simp only [List.map_cons, List.cons.injEq] at h
      rw [List.filterMap_cons, h.1]
      simp only [ih h.2]
section GC
variable {p : Program} {l : Launch} {e : Env} {R : Room} {s : State} {m : MethodId} {args : Array Value} {below : List Frame} {meth : Method} {c : Code} {H : Heap} {locs : List Loc} {cells slots : Nat} {Q : State → Prop}
variable {cc : ByteArray} {pc : Nat} {ls : Array Slot} {rest st0 : List Value} {D : va_G} {cl : List vw_C} {A : Nat → Prop} {a : Array Value} {tys : List (ClassId × FieldType)} {ws wc wr : va_W} {H0 : Heap} {X : Prop}
theorem gx_preS {As : List Value} (hK : va_K D cl tys s) (hP : va_P D cl ws H) (hD : va_D A ws) (hN : nwA s) (isC : List Nat) (hC : isC.map (fun i => ws[i]?) = wc.map some) (hn : va_nd isC = true) (hw : X) : PreS s H (va_Pc As (cPre D cl tys wc H.size X)) As :=
  ⟨cPre_blind, fun U hU hW => ⟨rfl, by rw [hU], by rw [hU]; exact hP.sub isC (fm_of hC), va_K.moved hW.alike hK, (hD.sub isC hn hC).weaken (fun _ _ _ _ => trivial), nwA_warm hW hN, hw⟩⟩
theorem gx_preV {As : List Value} {b ci : Nat} {q : vw_C} {C : String} {fs : List Value} (hK : va_K D cl tys s) (hP : va_P D cl ws H) (hD : va_D A ws) (hN : nwA s) (isC : List Nat) (hC : isC.map (fun i => ws[i]?) = wc.map some) (hn : va_nd isC = true) (hw : X) (q0 : Nat) (hc : cl[ci]? = some q) (he : ws[q0]? = some (b, .inr (ci, fs))) (hq : q.1 = C) : PreV s H C b (va_Pc (.ref b :: As) (cPre D cl tys wc H.size X)) As :=
  ⟨cPre_blind, by rw [← hq]; exact va_recv hK hP hc he, (gx_preS (As := .ref b :: As) hK hP hD hN isC hC hn hw).2⟩
theorem gx_aft {S : Type} {w1 : S → va_W} {H1 : Heap} {u : S} {t : State} (hP : va_P D cl ws H) (hD : va_D A ws) (hS : va_S A H0 H locs) (hA : ∀ q : Nat, H0.size ≤ q → A q) (isC isR isN : List Nat) (hC : isC.map (fun i => ws[i]?) = wc.map some) (hR : isR.map (fun i => ws[i]?) = wr.map some) (hnR : va_nd isR = true) (hdis : isR.all (fun i => !isC.contains i) = true) (hnN : va_nd isN = true) (ws' : S → va_W) (hN : ∀ u, isN.map (fun i => (wr ++ w1 u)[i]?) = (ws' u).map some)
    (ht : t.heap = H1) (hk : ∀ q : Nat, q < H.size → ¬ va_A wc H.size q → H1[q]? = H[q]?) (hB : cPost D cl w1 (va_A wc H.size) u t) : va_P D cl (ws' u) H1 ∧ va_D A (ws' u) := by
  have hF := va_free (wc := wc) hD hS hA isC hC
  have hdis' : ∀ i ∈ isR, i ∉ isC := fun i hi hc => by
    have h1 := List.all_eq_true.mp hdis i hi
    simp [hc] at h1
  have h := va_join hP hD isC isR hC hR hnR hdis' hk hF (w1 := w1 u) (by rw [← ht]; exact hB.1) hB.2
  exact ⟨h.1.sub isN (fm_of (hN u)), h.2.sub isN hnN (hN u)⟩
theorem gx_ri {S : Type} {post : Int32 → S → Prop} {w1 : S → va_W} (hr : va_Run p l e R s m args below meth c H locs cells slots 0 0 (F0 m pc ls st0) rest (va_Qi post (cPost D cl w1 (va_A wc H.size)) (va_A wc H.size) a) (va_A wc H.size)) (hP : va_P D cl ws H) (hD : va_D A ws) (hS : va_S A H0 H locs) (hA : ∀ q : Nat, H0.size ≤ q → A q) (isC isR isN : List Nat) (hC : isC.map (fun i => ws[i]?) = wc.map some) (hR : isR.map (fun i => ws[i]?) = wr.map some) (hnR : va_nd isR = true) (hdis : isR.all (fun i => !isC.contains i) = true) (hnN : va_nd isN = true) (ws' : S → va_W) (hN : ∀ u, isN.map (fun i => (wr ++ w1 u)[i]?) = (ws' u).map some)
    (kk : ∀ (r : Int32) (u : S) (H1 : Heap) (locs1 : List Loc), post r u → va_P D cl (ws' u) H1 → va_D A (ws' u) → va_S A H0 H1 locs1 → W p l e R s m args below meth c H1 locs1 cells slots Q (F0 m (pc + 3) ls (.int r :: rest))) : W p l e R s m args below meth c H locs cells slots Q (F0 m pc ls st0) := by
  have hF := va_free (wc := wc) hD hS hA isC hC
  exact va_calli hr hS (fun q _ h => hF q h) hF (fun r u t H1 L1 ht _ hp hB _ hk h3 => by
    obtain ⟨h1, h2⟩ := gx_aft hP hD hS hA isC isR isN hC hR hnR hdis hnN ws' hN ht hk hB
    exact kk r u H1 L1 hp h1 h2 h3)
theorem gx_rl {S : Type} {post : Int64 → S → Prop} {w1 : S → va_W} (hr : va_Run p l e R s m args below meth c H locs cells slots 0 0 (F0 m pc ls st0) rest (va_Ql post (cPost D cl w1 (va_A wc H.size)) (va_A wc H.size) a) (va_A wc H.size)) (hP : va_P D cl ws H) (hD : va_D A ws) (hS : va_S A H0 H locs) (hA : ∀ q : Nat, H0.size ≤ q → A q) (isC isR isN : List Nat) (hC : isC.map (fun i => ws[i]?) = wc.map some) (hR : isR.map (fun i => ws[i]?) = wr.map some) (hnR : va_nd isR = true) (hdis : isR.all (fun i => !isC.contains i) = true) (hnN : va_nd isN = true) (ws' : S → va_W) (hN : ∀ u, isN.map (fun i => (wr ++ w1 u)[i]?) = (ws' u).map some)
    (kk : ∀ (r : Int64) (u : S) (H1 : Heap) (locs1 : List Loc), post r u → va_P D cl (ws' u) H1 → va_D A (ws' u) → va_S A H0 H1 locs1 → W p l e R s m args below meth c H1 locs1 cells slots Q (F0 m (pc + 3) ls (.long r :: rest))) : W p l e R s m args below meth c H locs cells slots Q (F0 m pc ls st0) := by
  have hF := va_free (wc := wc) hD hS hA isC hC
  exact va_calll hr hS (fun q _ h => hF q h) hF (fun r u t H1 L1 ht _ hp hB _ hk h3 => by
    obtain ⟨h1, h2⟩ := gx_aft hP hD hS hA isC isR isN hC hR hnR hdis hnN ws' hN ht hk hB
    exact kk r u H1 L1 hp h1 h2 h3)
theorem gx_rv {S : Type} {mc ms : Nat} {post : S → Prop} {w1 : S → va_W} (hr : va_Run p l e R s m args below meth c H locs cells slots mc ms (F0 m pc ls st0) rest (va_Qv post (cPost D cl w1 (va_A wc H.size)) (va_A wc H.size) a) (va_A wc H.size)) (hP : va_P D cl ws H) (hD : va_D A ws) (hS : va_S A H0 H locs) (hA : ∀ q : Nat, H0.size ≤ q → A q) (isC isR isN : List Nat) (hC : isC.map (fun i => ws[i]?) = wc.map some) (hR : isR.map (fun i => ws[i]?) = wr.map some) (hnR : va_nd isR = true) (hdis : isR.all (fun i => !isC.contains i) = true) (hnN : va_nd isN = true) (ws' : S → va_W) (hN : ∀ u, isN.map (fun i => (wr ++ w1 u)[i]?) = (ws' u).map some)
    (kk : ∀ (u : S) (H1 : Heap) (locs1 : List Loc), post u → va_P D cl (ws' u) H1 → va_D A (ws' u) → va_S A H0 H1 locs1 → W p l e R s m args below meth c H1 locs1 (cells + mc) (slots + ms) Q (F0 m (pc + 3) ls rest)) : W p l e R s m args below meth c H locs cells slots Q (F0 m pc ls st0) := by
  have hF := va_free (wc := wc) hD hS hA isC hC
  exact va_callv hr hS (fun q _ h => hF q h) hF (fun u t H1 L1 ht _ hp hB _ hk h3 => by
    obtain ⟨h1, h2⟩ := gx_aft hP hD hS hA isC isR isN hC hR hnR hdis hnN ws' hN ht hk hB
    exact kk u H1 L1 hp h1 h2 h3)
theorem gx_rq {S : Type} {post : Option Nat → S → Prop} {w1 : S → va_W} (hr : va_Run p l e R s m args below meth c H locs cells slots 0 0 (F0 m pc ls st0) rest (va_Qq post (cPost D cl w1 (va_A wc H.size)) (va_A wc H.size) a) (va_A wc H.size)) (hP : va_P D cl ws H) (hD : va_D A ws) (hS : va_S A H0 H locs) (hA : ∀ q : Nat, H0.size ≤ q → A q) (isC isR isN : List Nat) (hC : isC.map (fun i => ws[i]?) = wc.map some) (hR : isR.map (fun i => ws[i]?) = wr.map some) (hnR : va_nd isR = true) (hdis : isR.all (fun i => !isC.contains i) = true) (hnN : va_nd isN = true) (ws' : S → va_W) (hN : ∀ u, isN.map (fun i => (wr ++ w1 u)[i]?) = (ws' u).map some)
    (kk : ∀ (r : Option Nat) (u : S) (H1 : Heap) (locs1 : List Loc), post r u → va_P D cl (ws' u) H1 → va_D A (ws' u) → va_S A H0 H1 locs1 → W p l e R s m args below meth c H1 locs1 cells slots Q (F0 m (pc + 3) ls (va_rf r :: rest))) : W p l e R s m args below meth c H locs cells slots Q (F0 m pc ls st0) := by
  have hF := va_free (wc := wc) hD hS hA isC hC
  exact va_callq hr hS (fun q _ h => hF q h) hF (fun r u t H1 L1 ht _ hp hB _ hk h3 => by
    obtain ⟨h1, h2⟩ := gx_aft hP hD hS hA isC isR isN hC hR hnR hdis hnN ws' hN ht hk hB
    exact kk r u H1 L1 hp h1 h2 h3)
theorem rt_i {S : Type} {post : Int32 → S → Prop} {w1 : S → va_W} {A1 : Nat → Prop} (hQ : MQ below (va_Qi post (cPost D cl w1 A) A) args s cells slots A = Q) (hexec : p.tables.exec = Jvm.exec) (hb : c.code = cc) (hr : meth.sig.returnType = some .int) (hlocks : meth.locks = false) (hP : va_P D cl ws H) (hD : va_D A ws) (hS : va_S A s.heap H locs) (u : S) (is : List Nat) (hs : is.map (fun i => ws[i]?) = (w1 u).map some) (hn : va_nd is = true) {v : Int32} (hw : post v u) (hdg : decode cc pc = .ok (.ireturn, 1)) : W p l e R s m args below meth c H locs cells slots Q (F0 m pc ls [.int v]) := by
  subst hQ
  exact W.iret hexec hb hr (fun t ht _ => ⟨⟨v, u, rfl, hw, by rw [ht]; exact hP.sub is (fm_of hs), hD.sub is hn hs⟩, hS.F ht⟩) hS.2.2 hdg hlocks
theorem rt_z {S : Type} {post : Int32 → S → Prop} {w1 : S → va_W} {A1 : Nat → Prop} (hQ : MQ below (va_Qi post (cPost D cl w1 A) A) args s cells slots A = Q) (hexec : p.tables.exec = Jvm.exec) (hb : c.code = cc) (hr : meth.sig.returnType = some .boolean) (hlocks : meth.locks = false) (hP : va_P D cl ws H) (hD : va_D A ws) (hS : va_S A s.heap H locs) (u : S) (is : List Nat) (hs : is.map (fun i => ws[i]?) = (w1 u).map some) (hn : va_nd is = true) {v : Int32} {k : Int → Prop} (hw : wO (bZ v.toInt) v.toInt k) (hk : k v.toInt → post v u) (hdg : decode cc pc = .ok (.ireturn, 1)) : W p l e R s m args below meth c H locs cells slots Q (F0 m pc ls [.int v]) := by
  subst hQ
  exact W.zret hexec hb hr (bz_narV hw.1) (fun t ht _ => ⟨⟨v, u, rfl, hk hw.2, by rw [ht]; exact hP.sub is (fm_of hs), hD.sub is hn hs⟩, hS.F ht⟩) hS.2.2 hdg hlocks
theorem rt_zl {S : Type} {post : Int32 → S → Prop} {w1 : S → va_W} {A1 : Nat → Prop} (hQ : MQ below (va_Qi post (cPost D cl w1 A) A) args s cells slots A = Q) (hexec : p.tables.exec = Jvm.exec) (hb : c.code = cc) (hr : meth.sig.returnType = some .boolean) (hlocks : meth.locks = false) (hP : va_P D cl ws H) (hD : va_D A ws) (hS : va_S A s.heap H locs) (u : S) (is : List Nat) (hs : is.map (fun i => ws[i]?) = (w1 u).map some) (hn : va_nd is = true) {v : Int32} (hz : narrow .boolean (.int v) = .int v) (hw : post v u) (hdg : decode cc pc = .ok (.ireturn, 1)) : W p l e R s m args below meth c H locs cells slots Q (F0 m pc ls [.int v]) := by
  subst hQ
  exact W.zret hexec hb hr hz (fun t ht _ => ⟨⟨v, u, rfl, hw, by rw [ht]; exact hP.sub is (fm_of hs), hD.sub is hn hs⟩, hS.F ht⟩) hS.2.2 hdg hlocks
theorem gx_bz {v : Int32} {k : Int → Prop} (hw : wO (bZ v.toInt) v.toInt k) : narrow .boolean (.int v) = .int v ∧ k v.toInt := ⟨bz_narV hw.1, hw.2⟩
theorem rt_l {S : Type} {post : Int64 → S → Prop} {w1 : S → va_W} {A1 : Nat → Prop} (hQ : MQ below (va_Ql post (cPost D cl w1 A) A) args s cells slots A = Q) (hexec : p.tables.exec = Jvm.exec) (hb : c.code = cc) (hr : meth.sig.returnType = some .long) (hlocks : meth.locks = false) (hP : va_P D cl ws H) (hD : va_D A ws) (hS : va_S A s.heap H locs) (u : S) (is : List Nat) (hs : is.map (fun i => ws[i]?) = (w1 u).map some) (hn : va_nd is = true) {v : Int64} (hw : post v u) (hdg : decode cc pc = .ok (.lreturn, 1)) : W p l e R s m args below meth c H locs cells slots Q (F0 m pc ls [.long v]) := by
  subst hQ
  exact W.lret hexec hb hr (fun t ht _ => ⟨⟨v, u, rfl, hw, by rw [ht]; exact hP.sub is (fm_of hs), hD.sub is hn hs⟩, hS.F ht⟩) hS.2.2 hdg hlocks
theorem rt_v {S : Type} {post : S → Prop} {w1 : S → va_W} {A1 : Nat → Prop} (hQ : MQ below (va_Qv post (cPost D cl w1 A) A) args s cells slots A = Q) (hexec : p.tables.exec = Jvm.exec) (hb : c.code = cc) (hr : meth.sig.returnType = none) (hlocks : meth.locks = false) (hP : va_P D cl ws H) (hD : va_D A ws) (hS : va_S A s.heap H locs) (u : S) (is : List Nat) (hs : is.map (fun i => ws[i]?) = (w1 u).map some) (hn : va_nd is = true) (hw : post u) (hdg : decode cc pc = .ok (.return_, 1)) : W p l e R s m args below meth c H locs cells slots Q (F0 m pc ls []) := by
  subst hQ
  exact W.vret hexec hb hr (fun t ht _ => ⟨⟨u, rfl, hw, by rw [ht]; exact hP.sub is (fm_of hs), hD.sub is hn hs⟩, hS.F ht⟩) hS.2.2 hdg hlocks
theorem rt_q {S : Type} {post : Option Nat → S → Prop} {w1 : S → va_W} {A1 : Nat → Prop} {C : String} (hQ : MQ below (va_Qq post (cPost D cl w1 A) A) args s cells slots A = Q) (hexec : p.tables.exec = Jvm.exec) (hb : c.code = cc) (hr : meth.sig.returnType = some (.object C)) (hlocks : meth.locks = false) (hP : va_P D cl ws H) (hD : va_D A ws) (hS : va_S A s.heap H locs) (u : S) (is : List Nat) (hs : is.map (fun i => ws[i]?) = (w1 u).map some) (hn : va_nd is = true) (r : Option Nat) {v : Value} (hv : v = va_rf r) (hw : post r u) (hdg : decode cc pc = .ok (.areturn, 1)) : W p l e R s m args below meth c H locs cells slots Q (F0 m pc ls [v]) := by
  subst hQ
  refine W.aret hexec hb hr (Or.inl ⟨_, rfl⟩) ?_ (fun t ht _ => ⟨⟨r, u, by rw [hv], hw, by rw [ht]; exact hP.sub is (fm_of hs), hD.sub is hn hs⟩, hS.F ht⟩) hS.2.2 hdg hlocks
  rw [hv]
  cases r with
  | none => exact Or.inl rfl
  | some a => exact Or.inr ⟨a, rfl⟩
theorem gx_copy (hexec : p.tables.exec = Jvm.exec) (hb : c.code = cc) (hml : c.maxLocals = ls.size) {own : String} {index : Nat} (hown : s.vm.findClass own = some m.cls) (hlink : (Cond.methodLink own index arraycopyName).before args s = true) (hnat : (Cond.native arraycopyName).before args s = true) (hstat : (Cond.static arraycopyName).before args s = true) (hini : (Cond.initialized "java/lang/System").before args s = true)
    (hK : va_K D cl tys s) (hP : va_P D cl ws H) (hD : va_D A ws) (hS : va_S A H0 H locs) (q0 q1 t0 : Nat) {a0 a1 : Nat} {c0 c1 : ClassId} {n0 : Nat} {f g : Nat → Int32} (ha0 : ws[q0]? = some (a0, .inl (c0, n0, .inl f))) (ha1 : ws[q1]? = some (a1, .inl (c1, n0, .inl g))) (ht0 : tys[t0]? = some (c0, .int)) (ht1 : tys[t0]? = some (c1, .int))
    {n : Int32} (hn : n.toNatClampNeg = n0) (hn0 : ¬ n < 0) (hframes : 1 ≤ R.frames) (hlocals : (rest.map fun v => v.category).sum + (nativeFrameWords "java/lang/System" "arraycopy" 5 + 11) ≤ R.locals) (hdg : decode cc pc = .ok (.invokestatic index, 3)) (ws' : (Nat → Int32) → va_W) (hs : ∀ g, ws.set q1 (a1, .inl (c1, n0, .inl g)) = ws' g) {k : (Int → Int) → Prop} (hw : wL (aI n0 f) k)
    (kk : ∀ (g : Nat → Int32) (H1 : Heap) (locs1 : List Loc), k (aI n0 g) → va_P D cl (ws' g) H1 → va_D A (ws' g) → va_S A H0 H1 locs1 → W p l e R s m args below meth c H1 locs1 cells slots Q (F0 m (pc + 3) ls rest)) : W p l e R s m args below meth c H locs cells slots Q (F0 m pc ls (.int n :: .int 0 :: .ref a1 :: .int 0 :: .ref a0 :: rest)) :=
  va_copyi hexec hb hml hown hlink hnat hstat hini hK hP hD hS q0 q1 t0 t0 ha0 ha1 ht0 ht1 rfl (sp := 0) (dp := 0) (by decide) (by decide) hn0 (by rw [hn]; exact Nat.le_of_eq (Nat.zero_add _)) (by rw [hn]; exact Nat.le_of_eq (Nat.zero_add _)) (fun _ _ => rfl) hframes hlocals hdg (fun H1 L1 h1 h2 h3 => kk _ H1 L1 (by
    have h : k (aI n0 f) := hw
    rwa [← aI_cp (g := g) (k := n.toNatClampNeg) hn] at h) (by rw [← hs]; exact h1) (by rw [← hs]; exact h2) h3)
theorem gx_mmax (hexec : p.tables.exec = Jvm.exec) (hb : c.code = cc) (hml : c.maxLocals = ls.size) {own : String} {index : Nat} (hown : s.vm.findClass own = some m.cls) (hlink : (Cond.methodLink own index Lib.Math.max.name).before args s = true) (hstat : (Cond.static Lib.Math.max.name).before args s = true) (hini : (Cond.initialized "java/lang/Math").before args s = true) (hcode : (Cond.code Lib.Math.max.name Lib.Math.max.code 2 (some .int)).before args s = true)
    (hframes : 1 ≤ R.frames) (hlocals : (rest.map fun v => v.category).sum + 13 ≤ R.locals) (hc : cells ≤ R.cells) (hs : slots ≤ R.slots) {x y : Int32} (hdg : decode cc pc = .ok (.invokestatic index, 3)) {k : Int → Prop} (hw : wL (imax x.toInt y.toInt) k)
    (kk : ∀ v : Int32, k v.toInt → W p l e R s m args below meth c H locs cells slots Q (F0 m (pc + 3) ls (.int v :: rest))) : W p l e R s m args below meth c H locs cells slots Q (F0 m pc ls (.int y :: .int x :: rest)) :=
  va_mmax hexec hb hml hown hlink hstat hini hcode hframes hlocals hc hs hdg (kk _ (by
    have h : k (imax x.toInt y.toInt) := hw
    unfold imax at h
    simp only [Int32.lt_iff_toInt_lt]
    split <;> simp_all))
theorem gx_mmin (hexec : p.tables.exec = Jvm.exec) (hb : c.code = cc) (hml : c.maxLocals = ls.size) {own : String} {index : Nat} (hown : s.vm.findClass own = some m.cls) (hlink : (Cond.methodLink own index Lib.Math.min.name).before args s = true) (hstat : (Cond.static Lib.Math.min.name).before args s = true) (hini : (Cond.initialized "java/lang/Math").before args s = true) (hcode : (Cond.code Lib.Math.min.name Lib.Math.min.code 2 (some .int)).before args s = true)
    (hframes : 1 ≤ R.frames) (hlocals : (rest.map fun v => v.category).sum + 13 ≤ R.locals) (hc : cells ≤ R.cells) (hs : slots ≤ R.slots) {x y : Int32} (hdg : decode cc pc = .ok (.invokestatic index, 3)) {k : Int → Prop} (hw : wL (imin x.toInt y.toInt) k)
    (kk : ∀ v : Int32, k v.toInt → W p l e R s m args below meth c H locs cells slots Q (F0 m (pc + 3) ls (.int v :: rest))) : W p l e R s m args below meth c H locs cells slots Q (F0 m pc ls (.int y :: .int x :: rest)) :=
  va_mmin hexec hb hml hown hlink hstat hini hcode hframes hlocals hc hs hdg (kk _ (by
    have h : k (imin x.toInt y.toInt) := hw
    unfold imin at h
    simp only [Int32.lt_iff_toInt_lt]
    split <;> simp_all))
end GC
