/-! THE LAW's own rows -/
theorem iR_t (v : Int32) : iR v.toInt := ⟨by have := v.le_toInt; omega, by have := v.toInt_lt; omega⟩
theorem lR_t (v : Int64) : lR v.toInt := ⟨by have := v.le_toInt; omega, by have := v.toInt_lt; omega⟩
theorem nI_6 (i : Nat) : nI i + Int32.ofInt 6 = nI (i + 6) := by
  show Int32.ofNat i + Int32.ofInt 6 = Int32.ofNat (i + 6)
  rw [Int32.ofNat_add]
  rfl
theorem nI_k (i k : Nat) : nI i + Int32.ofNat k = nI (i + k) := by
  show Int32.ofNat i + Int32.ofNat k = Int32.ofNat (i + k)
  rw [Int32.ofNat_add]
theorem nI_ti {n : Nat} (h : n < 2147483648) : (nI n).toInt = n := by
  show (Int32.ofNat n).toInt = n
  exact Int32.toInt_ofNat_of_lt h
theorem law_in {i L : Nat} (hL : L ≤ 3072) (hi : i ≤ 4000) (h : ¬ (Int32.ofNat L - 6 < nI i)) : i + 6 ≤ L := by
  have e1 : (Int32.ofNat L).toInt = L := Int32.toInt_ofNat_of_lt (by omega)
  have e2 : (nI i).toInt = i := nI_ti (by omega)
  have e6 : (6 : Int32).toInt = 6 := rfl
  have e3 : (Int32.ofNat L - 6).toInt = (L : Int) - 6 := by
    rw [pa_isub, e1, e6]
    rw [e1, e6]
    constructor <;> omega
  rw [Int32.lt_iff_toInt_lt, e2, e3] at h
  omega
section GLW
variable {p : Program} {l : Launch} {e : Env} {R : Room} {s : State} {m : MethodId} {args : Array Value} {below : List Frame} {meth : Method} {c : Code} {H : Heap} {locs : List Loc} {cells slots : Nat} {Q : State → Prop}
variable {cc : ByteArray} {pc : Nat} {ls : Array Slot} {rest : List Value} {A : Nat → Prop} {H0 : Heap}
theorem gl_ld (hexec : p.tables.exec = Jvm.exec) (hb : c.code = cc) {b L : Nat} {xs : Nat → Int32} (hX : va_X b L xs s H0) (hbl : b < H0.size) (hbA : ¬ A b) (hS : va_S A H0 H locs) {i : Nat} (hi : i + 6 ≤ L ∧ L ≤ 3072) {k : Nat} {z : Int32} (hk : k ≤ 5) (hz : Int32.ofNat k = z) {v : Int32} (hv : xs (nI i + z).toNatClampNeg = v) (hdg : decode cc pc = .ok (.iaload, 1))
    (kk : W p l e R s m args below meth c H locs cells slots Q (F0 m (pc + 1) ls (.int v :: rest))) : W p l e R s m args below meth c H locs cells slots Q (F0 m pc ls (.int (nI i + z) :: .ref b :: rest)) := by
  subst hz
  refine va_sld hexec hb hX hbl hbA hS (i := nI i + Int32.ofNat k) (by rw [nI_k]; exact vp_in_nI (by omega) (by omega)) hdg ?_
  rw [hv]
  exact kk
end GLW
theorem al_K {args : Array Value} {s : State} {ty : FieldType} (hp : ∀ C, ty ≠ .object C) (h : (Cond.arrayClass ty).before args s = true) : ∃ cA : ClassId, ArrOfT s cA ty ∧ va_RA s cA ty := by
  obtain ⟨cA, kA, comp, h1, h2, h3⟩ := Cond.arrayClass_spec h
  refine ⟨cA, fun n z => ⟨fun k h => (by cases h), kA, h2, comp, h3⟩, ?_⟩
  cases ty with
  | object C => exact absurd rfl (hp C)
  | _ => exact h1
