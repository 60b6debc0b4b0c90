/-! TOOLS for constructors -/
def zA : Int → Int := fun _ => 0
theorem aI_z (n : Nat) : aI n (fun _ => 0) = zA := by
  funext j
  unfold aI zA
  split <;> rfl
theorem aL_z (n : Nat) : aL n (fun _ => 0) = zA := by
  funext j
  unfold aL zA
  split <;> rfl
section GI
variable {p : Program} {l : Launch} {e : Env} {R : Room} {s : State} {m : MethodId} {args : Array Value} {below : List Frame} {meth : Method} {c : Code} {H : Heap} {locs : List Loc} {cells slots : Nat} {Q : State → Prop}
variable {cc : ByteArray} {pc : Nat} {ls : Array Slot} {rest st0 : List Value} {D : va_G} {cl : List vw_C} {A : Nat → Prop} {a : Array Value} {tys : List (ClassId × FieldType)} {ws wc wr : va_W} {H0 : Heap}
theorem gx_newi (hexec : p.tables.exec = Jvm.exec) (hb : c.code = cc) (harr : (Cond.arrayClass .int).before args s = true) (hK : va_K D cl tys s) (hP : va_P D cl ws H) (hD : va_D A ws) (hS : va_S A H0 H locs) (hA : ∀ q : Nat, H0.size ≤ q → A q) (t0 : Nat) {cA : ClassId} (ht : tys[t0]? = some (cA, .int)) {n : Int32} {N : Nat} (hn : ¬ n < 0) (hN : n.toNatClampNeg = N) (hbytes : N * componentBytes .int ≤ 536870912) (hcells : cells + 1 ≤ R.cells) (hslots : slots + N ≤ R.slots) (hdg : decode cc pc = .ok (.newarray .int, 2)) {k : (Int → Int) → Prop} (hw : wL zA k)
    (kk : ∀ (q : Nat) (f : Nat → Int32) (H1 : Heap), k (aI N f) → va_P D cl (ws ++ [(q, .inl (cA, N, .inl f))]) H1 → va_D A (ws ++ [(q, .inl (cA, N, .inl f))]) → va_S A H0 H1 locs → W p l e R s m args below meth c H1 locs (cells + 1) (slots + N) Q (F0 m (pc + 2) ls (.ref q :: rest))) : W p l e R s m args below meth c H locs cells slots Q (F0 m pc ls (.int n :: rest)) :=
  va_newa (atype := .int) (a0 := (N, .inl (fun _ => 0))) hexec hb harr (ty := .int) rfl hK hP hD hS hA (fun _ => rfl) hn hN hbytes hcells hslots hdg (fun q cB H1 hK1 hP1 hD1 hS1 => by
    have e1 := (hK1.2 tys.length (cB, .int) (by simp)).2
    have e2 := (hK.2 t0 _ ht).2
    have e3 : some cB = some cA := e1.symm.trans e2
    cases e3
    exact kk q _ H1 (by rw [aI_z]; exact hw) hP1 hD1 hS1)
theorem gx_newb (hexec : p.tables.exec = Jvm.exec) (hb : c.code = cc) (harr : (Cond.arrayClass .byte).before args s = true) (hK : va_K D cl tys s) (hP : va_P D cl ws H) (hD : va_D A ws) (hS : va_S A H0 H locs) (hA : ∀ q : Nat, H0.size ≤ q → A q) (t0 : Nat) {cA : ClassId} (ht : tys[t0]? = some (cA, .byte)) {n : Int32} {N : Nat} (hn : ¬ n < 0) (hN : n.toNatClampNeg = N) (hbytes : N * componentBytes .byte ≤ 536870912) (hcells : cells + 1 ≤ R.cells) (hslots : slots + N ≤ R.slots) (hdg : decode cc pc = .ok (.newarray .byte, 2)) {k : (Int → Int) → Prop} (hw : wL zA k)
    (kk : ∀ (q : Nat) (f : Nat → Int32) (H1 : Heap), k (aI N f) → va_P D cl (ws ++ [(q, .inl (cA, N, .inl f))]) H1 → va_D A (ws ++ [(q, .inl (cA, N, .inl f))]) → va_S A H0 H1 locs → W p l e R s m args below meth c H1 locs (cells + 1) (slots + N) Q (F0 m (pc + 2) ls (.ref q :: rest))) : W p l e R s m args below meth c H locs cells slots Q (F0 m pc ls (.int n :: rest)) :=
  va_newa (atype := .byte) (a0 := (N, .inl (fun _ => 0))) hexec hb harr (ty := .byte) rfl hK hP hD hS hA (fun _ => rfl) hn hN hbytes hcells hslots hdg (fun q cB H1 hK1 hP1 hD1 hS1 => by
    have e1 := (hK1.2 tys.length (cB, .byte) (by simp)).2
    have e2 := (hK.2 t0 _ ht).2
    have e3 : some cB = some cA := e1.symm.trans e2
    cases e3
    exact kk q _ H1 (by rw [aI_z]; exact hw) hP1 hD1 hS1)
theorem gx_newz (hexec : p.tables.exec = Jvm.exec) (hb : c.code = cc) (harr : (Cond.arrayClass .boolean).before args s = true) (hK : va_K D cl tys s) (hP : va_P D cl ws H) (hD : va_D A ws) (hS : va_S A H0 H locs) (hA : ∀ q : Nat, H0.size ≤ q → A q) (t0 : Nat) {cA : ClassId} (ht : tys[t0]? = some (cA, .boolean)) {n : Int32} {N : Nat} (hn : ¬ n < 0) (hN : n.toNatClampNeg = N) (hbytes : N * componentBytes .boolean ≤ 536870912) (hcells : cells + 1 ≤ R.cells) (hslots : slots + N ≤ R.slots) (hdg : decode cc pc = .ok (.newarray .boolean, 2)) {k : (Int → Int) → Prop} (hw : wL zA k)
    (kk : ∀ (q : Nat) (f : Nat → Int32) (H1 : Heap), k (aI N f) → va_P D cl (ws ++ [(q, .inl (cA, N, .inl f))]) H1 → va_D A (ws ++ [(q, .inl (cA, N, .inl f))]) → va_S A H0 H1 locs → W p l e R s m args below meth c H1 locs (cells + 1) (slots + N) Q (F0 m (pc + 2) ls (.ref q :: rest))) : W p l e R s m args below meth c H locs cells slots Q (F0 m pc ls (.int n :: rest)) :=
  va_newa (atype := .boolean) (a0 := (N, .inl (fun _ => 0))) hexec hb harr (ty := .boolean) rfl hK hP hD hS hA (fun _ => rfl) hn hN hbytes hcells hslots hdg (fun q cB H1 hK1 hP1 hD1 hS1 => by
    have e1 := (hK1.2 tys.length (cB, .boolean) (by simp)).2
    have e2 := (hK.2 t0 _ ht).2
    have e3 : some cB = some cA := e1.symm.trans e2
    cases e3
    exact kk q _ H1 (by rw [aI_z]; exact hw) hP1 hD1 hS1)
theorem gx_newl (hexec : p.tables.exec = Jvm.exec) (hb : c.code = cc) (harr : (Cond.arrayClass .long).before args s = true) (hK : va_K D cl tys s) (hP : va_P D cl ws H) (hD : va_D A ws) (hS : va_S A H0 H locs) (hA : ∀ q : Nat, H0.size ≤ q → A q) (t0 : Nat) {cA : ClassId} (ht : tys[t0]? = some (cA, .long)) {n : Int32} {N : Nat} (hn : ¬ n < 0) (hN : n.toNatClampNeg = N) (hbytes : N * componentBytes .long ≤ 536870912) (hcells : cells + 1 ≤ R.cells) (hslots : slots + N ≤ R.slots) (hdg : decode cc pc = .ok (.newarray .long, 2)) {k : (Int → Int) → Prop} (hw : wL zA k)
    (kk : ∀ (q : Nat) (f : Nat → Int64) (H1 : Heap), k (aL N f) → va_P D cl (ws ++ [(q, .inl (cA, N, .inr (.inl f)))]) H1 → va_D A (ws ++ [(q, .inl (cA, N, .inr (.inl f)))]) → va_S A H0 H1 locs → W p l e R s m args below meth c H1 locs (cells + 1) (slots + N) Q (F0 m (pc + 2) ls (.ref q :: rest))) : W p l e R s m args below meth c H locs cells slots Q (F0 m pc ls (.int n :: rest)) :=
  va_newa (atype := .long) (a0 := (N, .inr (.inl (fun _ => 0)))) hexec hb harr (ty := .long) rfl hK hP hD hS hA (fun _ => rfl) hn hN hbytes hcells hslots hdg (fun q cB H1 hK1 hP1 hD1 hS1 => by
    have e1 := (hK1.2 tys.length (cB, .long) (by simp)).2
    have e2 := (hK.2 t0 _ ht).2
    have e3 : some cB = some cA := e1.symm.trans e2
    cases e3
    exact kk q _ H1 (by rw [aL_z]; exact hw) hP1 hD1 hS1)
theorem gx_putF (hexec : p.tables.exec = Jvm.exec) (hb : c.code = cc) {a : Nat} {own ref C : String} {T : u_T} {N ci index : Nat} {Ts : List Cond} (hts : ∀ w ∈ Ts, w.before args s = true) (hin : ∀ w ∈ u_ws C T N, w ∈ Ts) (ty0 : Nat → FieldType) (hty : ∀ k, k < N → parseFieldDescriptor (T k).2.2.1 = some (ty0 k)) (hnm : ∀ a, a < N → ∀ b, b < N → a ≠ b → (T a).2.1 ≠ (T b).2.1) (hown : s.vm.findClass own = some m.cls) (hK : va_K D cl tys s) (hP : va_P D cl ws H) (hD : va_D A ws) (hS0 : va_S A H0 H locs) (q0 : Nat) {fs : List Value} (he : ws[q0]? = some (a, .inr (ci, fs))) (hc : cl[ci]? = some (C, T, N)) (k : Nat) (hk : k < N) (hlink : (Cond.fieldLink own index ref (T k).2.1 (T k).2.2.1).before args s = true) (hsame : ∀ x, s.fieldFound? (T k).1 (T k).2.1 (T k).2.2.1 = some x → s.fieldFound? ref (T k).2.1 (T k).2.2.1 = some x) (hfin : (T k).2.2.2 = true) (hin2 : meth.name = "<init>") (hdecl : (T k).1 = own) {ty : FieldType} {v : Value} (hd : parseFieldDescriptor (T k).2.2.1 = some ty) (hn : narrow ty v = v) (hfit : fits ty v = true) (hl : k < fs.length)
    (hdg : decode cc pc = .ok (.putfield index, 3)) (ws' : va_W) (hs : ws.set q0 (a, .inr (ci, fs.set k v)) = ws') (kk : ∀ (H1 : Heap) (locs1 : List Loc), va_P D cl ws' H1 → va_D A ws' → va_S A H0 H1 locs1 → W p l e R s m args below meth c H1 locs1 cells slots Q (F0 m (pc + 3) ls rest)) : W p l e R s m args below meth c H locs cells slots Q (F0 m pc ls (v :: .ref a :: rest)) :=
  va_putF hexec hb hts hin ty0 hty hnm hown hK hP hD hS0 q0 he hc k hk hlink hsame hfin hin2 hdecl hd hn hfit hl hdg (fun H1 L1 h1 h2 h3 => kk H1 L1 (by rw [← hs]; exact h1) (by rw [← hs]; exact h2) h3)
theorem rt_b {B : Unit → State → Prop} (hQ : MQ below (va_Qv (fun _ => True) B A) args s cells slots A = Q) (hexec : p.tables.exec = Jvm.exec) (hb : c.code = cc) (hr : meth.sig.returnType = none) (hlocks : meth.locks = false) (hS : va_S A s.heap H locs) (hB : ∀ t : State, t.heap = H → B () t) (hdg : decode cc pc = .ok (.return_, 1)) : W p l e R s m args below meth c H locs cells slots Q (F0 m pc ls []) := by
  subst hQ
  exact W.vret hexec hb hr (fun t ht _ => ⟨⟨(), rfl, trivial, hB t ht⟩, hS.F ht⟩) hS.2.2 hdg hlocks
theorem gx_rb {mc ms : Nat} {B : Unit → State → Prop} (hr : va_Run p l e R s m args below meth c H locs cells slots mc ms (F0 m pc ls st0) rest (va_Qv (fun _ => True) B (va_A wc H.size) a) (va_A wc H.size)) (hP : va_P D cl ws H) (hD : va_D A ws) (hS : va_S A H0 H locs) (hA : ∀ q : Nat, H0.size ≤ q → A q) (isC isR : List Nat) (hC : isC.map (fun i => ws[i]?) = wc.map some) (hR : isR.map (fun i => ws[i]?) = wr.map some) (hnR : va_nd isR = true) (hdis : isR.all (fun i => !isC.contains i) = true)
    (kk : ∀ (t : State) (H1 : Heap) (locs1 : List Loc), B () t → (∀ w1, va_P D cl w1 t.heap → va_D (va_A wc H.size) w1 → va_P D cl (wr ++ w1) H1 ∧ va_D A (wr ++ w1)) → va_S A H0 H1 locs1 → W p l e R s m args below meth c H1 locs1 (cells + mc) (slots + ms) Q (F0 m (pc + 3) ls rest)) : W p l e R s m args below meth c H locs cells slots Q (F0 m pc ls st0) := by
  have hF := va_free (wc := wc) hD hS hA isC hC
  have hdis' : ∀ i ∈ isR, i ∉ isC := fun i hi hc => by
    have h1 := List.all_eq_true.mp hdis i hi
    simp [hc] at h1
  exact va_callv hr hS (fun q _ h => hF q h) hF (fun _ t H1 L1 ht _ _ hB _ hk h3 => kk t H1 L1 hB (fun w1 h1 h2 => va_join hP hD isC isR hC hR hnR hdis' hk hF (by rw [← ht]; exact h1) h2) h3)
end GI
