/-! TOOLS: the nice form of a method (whole numbers, no machine), and rows that walk the machine and peel the nice form at once -/
abbrev ci (n : Int32) : Int := n.toInt
abbrev cl (n : Int64) : Int := n.toInt
def iR (x : Int) : Prop := -2147483648 ≤ x ∧ x ≤ 2147483647
def lR (x : Int) : Prop := -9223372036854775808 ≤ x ∧ x ≤ 9223372036854775807
def wO {α : Type} (P : Prop) (v : α) (k : α → Prop) : Prop := P ∧ k v
def wL {α : Type} (v : α) (k : α → Prop) : Prop := k v
def cB (c A B : Prop) : Prop := (c → A) ∧ (¬ c → B)
def inb (i : Int) (n : Nat) : Prop := 0 ≤ i ∧ i < n
def bZ (v : Int) : Prop := v = 0 ∨ v = 1
def ups (F : Int → Int) (i v : Int) : Int → Int := fun j => if j = i then v else F j
def aI (n : Nat) (f : Nat → Int32) : Int → Int := fun j => if 0 ≤ j ∧ j < n then (f j.toNat).toInt else 0
def aL (n : Nat) (f : Nat → Int64) : Int → Int := fun j => if 0 ≤ j ∧ j < n then (f j.toNat).toInt else 0
def dOK (x y : Int) : Prop := y ≠ 0 ∧ ¬ (x = -2147483648 ∧ y = -1)
def iand (x y : Int) : Int := (Int32.ofInt x &&& Int32.ofInt y).toInt
def ior (x y : Int) : Int := (Int32.ofInt x ||| Int32.ofInt y).toInt
def ixor (x y : Int) : Int := (Int32.ofInt x ^^^ Int32.ofInt y).toInt
def ishl (x y : Int) : Int := (Int32.ofInt x <<< (Int32.ofInt y &&& 31)).toInt
def ishr (x y : Int) : Int := (Int32.ofInt x >>> (Int32.ofInt y &&& 31)).toInt
def land (x y : Int) : Int := (Int64.ofInt x &&& Int64.ofInt y).toInt
def lshr (x y : Int) : Int := (Int64.ofInt x >>> ((Int32.ofInt y).toInt64 &&& 63)).toInt
def lushr (x y : Int) : Int := ((Int64.ofInt x).toUInt64 >>> ((Int32.ofInt y).toInt64.toUInt64 &&& Int64.toUInt64 63)).toInt64.toInt
def l2i (x : Int) : Int := (Int64.ofInt x).toInt32.toInt
def i2b (x : Int) : Int := (Int32.ofInt x).toInt8.toInt32.toInt
def iushr (x y : Int) : Int := ((Int32.ofInt x).toUInt32 >>> ((Int32.ofInt y).toUInt32 &&& Int32.toUInt32 31)).toInt32.toInt
def wadd (x y : Int) : Int := (Int32.ofInt x + Int32.ofInt y).toInt
def wsub (x y : Int) : Int := (Int32.ofInt x - Int32.ofInt y).toInt
def lcm3 (x y : Int) : Int := if y < x then 1 else if x = y then 0 else -1
def imax (x y : Int) : Int := if x < y then y else x
def imin (x y : Int) : Int := if y < x then y else x
theorem ti_of (x : Int32) : Int32.ofInt x.toInt = x := by simp
theorem tl_of (x : Int64) : Int64.ofInt x.toInt = x := by simp
theorem pa_iadd {x y : Int32} (h : iR (x.toInt + y.toInt)) : (x + y).toInt = x.toInt + y.toInt := by
  obtain ⟨h1, h2⟩ := h
  rw [Int32.toInt_add]
  rw [Int.bmod_eq_of_le] <;> omega
theorem pa_isub {x y : Int32} (h : iR (x.toInt - y.toInt)) : (x - y).toInt = x.toInt - y.toInt := by
  obtain ⟨h1, h2⟩ := h
  rw [Int32.toInt_sub]
  rw [Int.bmod_eq_of_le] <;> omega
theorem pa_imul {x y : Int32} (h : iR (x.toInt * y.toInt)) : (x * y).toInt = x.toInt * y.toInt := by
  obtain ⟨h1, h2⟩ := h
  rw [Int32.toInt_mul]
  rw [Int.bmod_eq_of_le] <;> omega
theorem pa_ladd {x y : Int64} (h : lR (x.toInt + y.toInt)) : (x + y).toInt = x.toInt + y.toInt := by
  obtain ⟨h1, h2⟩ := h
  rw [Int64.toInt_add]
  rw [Int.bmod_eq_of_le] <;> omega
theorem pa_lsub {x y : Int64} (h : lR (x.toInt - y.toInt)) : (x - y).toInt = x.toInt - y.toInt := by
  obtain ⟨h1, h2⟩ := h
  rw [Int64.toInt_sub]
  rw [Int.bmod_eq_of_le] <;> omega
theorem pa_lmul {x y : Int64} (h : lR (x.toInt * y.toInt)) : (x * y).toInt = x.toInt * y.toInt := by
  obtain ⟨h1, h2⟩ := h
  rw [Int64.toInt_mul]
  rw [Int.bmod_eq_of_le] <;> omega
theorem pa_idiv {x y : Int32} (h : dOK x.toInt y.toInt) : (x / y).toInt = x.toInt.tdiv y.toInt := by
  have hx1 := x.toInt_lt
  have hx2 := x.le_toInt
  obtain ⟨h0, h1⟩ := h
  have key : -2147483648 ≤ x.toInt.tdiv y.toInt ∧ x.toInt.tdiv y.toInt ≤ 2147483647 := by
    by_cases e1 : y.toInt = 1
    · rw [e1, Int.tdiv_one]; omega
    · by_cases e2 : y.toInt = -1
      · rw [e2, Int.tdiv_neg, Int.tdiv_one]; omega
      · have hq : (x.toInt.tdiv y.toInt).natAbs = x.toInt.natAbs / y.toInt.natAbs := Int.natAbs_tdiv ..
        have h2 : x.toInt.natAbs / y.toInt.natAbs ≤ x.toInt.natAbs / 2 := Nat.div_le_div_left (by omega) (by omega)
        omega
  rw [Int32.toInt_div]
  rw [Int.bmod_eq_of_le] <;> omega
theorem aI_in {n : Nat} {f : Nat → Int32} {i : Int32} (h : inb i.toInt n) : aI n f i.toInt = (f i.toNatClampNeg).toInt := by
  unfold aI
  rw [if_pos (show 0 ≤ i.toInt ∧ i.toInt < n from h)]
  rfl
theorem aL_in {n : Nat} {f : Nat → Int64} {i : Int32} (h : inb i.toInt n) : aL n f i.toInt = (f i.toNatClampNeg).toInt := by
  unfold aL
  rw [if_pos (show 0 ≤ i.toInt ∧ i.toInt < n from h)]
  rfl
theorem aI_up {n : Nat} {f : Nat → Int32} {i x : Int32} (h : inb i.toInt n) : aI n (upd f i.toNatClampNeg x) = ups (aI n f) i.toInt x.toInt := by
  funext j
  have hc : i.toNatClampNeg = i.toInt.toNat := rfl
  obtain ⟨h1, h2⟩ := h
  show (if 0 ≤ j ∧ j < n then ((if j.toNat = i.toNatClampNeg then x else f j.toNat)).toInt else 0) = (if j = i.toInt then x.toInt else (if 0 ≤ j ∧ j < n then (f j.toNat).toInt else 0))
  by_cases hj : j = i.toInt
  · subst hj
    rw [if_pos ⟨h1, h2⟩, if_pos hc.symm, if_pos rfl]
  · rw [if_neg hj]
    by_cases hr : 0 ≤ j ∧ j < n
    · rw [if_pos hr, if_pos hr, if_neg (by rw [hc]; omega)]
    · rw [if_neg hr, if_neg hr]
theorem aL_up {n : Nat} {f : Nat → Int64} {i : Int32} {x : Int64} (h : inb i.toInt n) : aL n (vp_updL f i.toNatClampNeg x) = ups (aL n f) i.toInt x.toInt := by
  funext j
  have hc : i.toNatClampNeg = i.toInt.toNat := rfl
  obtain ⟨h1, h2⟩ := h
  show (if 0 ≤ j ∧ j < n then ((if j.toNat = i.toNatClampNeg then x else f j.toNat)).toInt else 0) = (if j = i.toInt then x.toInt else (if 0 ≤ j ∧ j < n then (f j.toNat).toInt else 0))
  by_cases hj : j = i.toInt
  · subst hj
    rw [if_pos ⟨h1, h2⟩, if_pos hc.symm, if_pos rfl]
  · rw [if_neg hj]
    by_cases hr : 0 ≤ j ∧ j < n
    · rw [if_pos hr, if_pos hr, if_neg (by rw [hc]; omega)]
    · rw [if_neg hr, if_neg hr]
theorem aI_cp {n : Nat} {f g : Nat → Int32} {k : Nat} (hk : k = n) : aI n (va_cpy f g 0 0 k) = aI n f := by
  subst hk
  funext j
  unfold aI va_cpy
  by_cases hr : 0 ≤ j ∧ j < k
  · rw [if_pos hr, if_pos hr, if_pos (by omega)]
    simp
  · rw [if_neg hr, if_neg hr]
theorem bz_nar {v : Int32} (h : bZ v.toInt) : vp_nar .boolean v = v := by
  have h2 : v = 0 ∨ v = 1 := by
    rcases h with h | h
    · exact Or.inl (Int32.toInt_inj.mp (by rw [h]; rfl))
    · exact Or.inr (Int32.toInt_inj.mp (by rw [h]; rfl))
  rcases h2 with rfl | rfl <;> rfl
theorem bz_narV {v : Int32} (h : bZ v.toInt) : narrow .boolean (.int v) = .int v := by
  have h2 : v = 0 ∨ v = 1 := by
    rcases h with h | h
    · exact Or.inl (Int32.toInt_inj.mp (by rw [h]; rfl))
    · exact Or.inr (Int32.toInt_inj.mp (by rw [h]; rfl))
  rcases h2 with rfl | rfl <;> rfl
def jn0 (J : Prop) (B : (Prop) → Prop) : Prop := ∃ j : Prop, (j → J) ∧ B j
def nlp0 (F : (Prop) → (Prop)) : Prop := ∀ P : Prop, (F P → P) → P
def jn1 {A0 : Type} (J : A0 → Prop) (B : (A0 → Prop) → Prop) : Prop := ∃ j : A0 → Prop, (∀ x0, j x0 → J x0) ∧ B j
def nlp1 {A0 : Type} (F : (A0 → Prop) → (A0 → Prop)) (x0 : A0) : Prop := ∀ P : A0 → Prop, (∀ x0, F P x0 → P x0) → P x0
def jn2 {A0 A1 : Type} (J : A0 → A1 → Prop) (B : (A0 → A1 → Prop) → Prop) : Prop := ∃ j : A0 → A1 → Prop, (∀ x0 x1, j x0 x1 → J x0 x1) ∧ B j
def nlp2 {A0 A1 : Type} (F : (A0 → A1 → Prop) → (A0 → A1 → Prop)) (x0 : A0) (x1 : A1) : Prop := ∀ P : A0 → A1 → Prop, (∀ x0 x1, F P x0 x1 → P x0 x1) → P x0 x1
def jn3 {A0 A1 A2 : Type} (J : A0 → A1 → A2 → Prop) (B : (A0 → A1 → A2 → Prop) → Prop) : Prop := ∃ j : A0 → A1 → A2 → Prop, (∀ x0 x1 x2, j x0 x1 x2 → J x0 x1 x2) ∧ B j
def nlp3 {A0 A1 A2 : Type} (F : (A0 → A1 → A2 → Prop) → (A0 → A1 → A2 → Prop)) (x0 : A0) (x1 : A1) (x2 : A2) : Prop := ∀ P : A0 → A1 → A2 → Prop, (∀ x0 x1 x2, F P x0 x1 x2 → P x0 x1 x2) → P x0 x1 x2
def jn4 {A0 A1 A2 A3 : Type} (J : A0 → A1 → A2 → A3 → Prop) (B : (A0 → A1 → A2 → A3 → Prop) → Prop) : Prop := ∃ j : A0 → A1 → A2 → A3 → Prop, (∀ x0 x1 x2 x3, j x0 x1 x2 x3 → J x0 x1 x2 x3) ∧ B j
def nlp4 {A0 A1 A2 A3 : Type} (F : (A0 → A1 → A2 → A3 → Prop) → (A0 → A1 → A2 → A3 → Prop)) (x0 : A0) (x1 : A1) (x2 : A2) (x3 : A3) : Prop := ∀ P : A0 → A1 → A2 → A3 → Prop, (∀ x0 x1 x2 x3, F P x0 x1 x2 x3 → P x0 x1 x2 x3) → P x0 x1 x2 x3
def jn5 {A0 A1 A2 A3 A4 : Type} (J : A0 → A1 → A2 → A3 → A4 → Prop) (B : (A0 → A1 → A2 → A3 → A4 → Prop) → Prop) : Prop := ∃ j : A0 → A1 → A2 → A3 → A4 → Prop, (∀ x0 x1 x2 x3 x4, j x0 x1 x2 x3 x4 → J x0 x1 x2 x3 x4) ∧ B j
def nlp5 {A0 A1 A2 A3 A4 : Type} (F : (A0 → A1 → A2 → A3 → A4 → Prop) → (A0 → A1 → A2 → A3 → A4 → Prop)) (x0 : A0) (x1 : A1) (x2 : A2) (x3 : A3) (x4 : A4) : Prop := ∀ P : A0 → A1 → A2 → A3 → A4 → Prop, (∀ x0 x1 x2 x3 x4, F P x0 x1 x2 x3 x4 → P x0 x1 x2 x3 x4) → P x0 x1 x2 x3 x4
def jn6 {A0 A1 A2 A3 A4 A5 : Type} (J : A0 → A1 → A2 → A3 → A4 → A5 → Prop) (B : (A0 → A1 → A2 → A3 → A4 → A5 → Prop) → Prop) : Prop := ∃ j : A0 → A1 → A2 → A3 → A4 → A5 → Prop, (∀ x0 x1 x2 x3 x4 x5, j x0 x1 x2 x3 x4 x5 → J x0 x1 x2 x3 x4 x5) ∧ B j
def nlp6 {A0 A1 A2 A3 A4 A5 : Type} (F : (A0 → A1 → A2 → A3 → A4 → A5 → Prop) → (A0 → A1 → A2 → A3 → A4 → A5 → Prop)) (x0 : A0) (x1 : A1) (x2 : A2) (x3 : A3) (x4 : A4) (x5 : A5) : Prop := ∀ P : A0 → A1 → A2 → A3 → A4 → A5 → Prop, (∀ x0 x1 x2 x3 x4 x5, F P x0 x1 x2 x3 x4 x5 → P x0 x1 x2 x3 x4 x5) → P x0 x1 x2 x3 x4 x5
def jn7 {A0 A1 A2 A3 A4 A5 A6 : Type} (J : A0 → A1 → A2 → A3 → A4 → A5 → A6 → Prop) (B : (A0 → A1 → A2 → A3 → A4 → A5 → A6 → Prop) → Prop) : Prop := ∃ j : A0 → A1 → A2 → A3 → A4 → A5 → A6 → Prop, (∀ x0 x1 x2 x3 x4 x5 x6, j x0 x1 x2 x3 x4 x5 x6 → J x0 x1 x2 x3 x4 x5 x6) ∧ B j
def nlp7 {A0 A1 A2 A3 A4 A5 A6 : Type} (F : (A0 → A1 → A2 → A3 → A4 → A5 → A6 → Prop) → (A0 → A1 → A2 → A3 → A4 → A5 → A6 → Prop)) (x0 : A0) (x1 : A1) (x2 : A2) (x3 : A3) (x4 : A4) (x5 : A5) (x6 : A6) : Prop := ∀ P : A0 → A1 → A2 → A3 → A4 → A5 → A6 → Prop, (∀ x0 x1 x2 x3 x4 x5 x6, F P x0 x1 x2 x3 x4 x5 x6 → P x0 x1 x2 x3 x4 x5 x6) → P x0 x1 x2 x3 x4 x5 x6
def jn8 {A0 A1 A2 A3 A4 A5 A6 A7 : Type} (J : A0 → A1 → A2 → A3 → A4 → A5 → A6 → A7 → Prop) (B : (A0 → A1 → A2 → A3 → A4 → A5 → A6 → A7 → Prop) → Prop) : Prop := ∃ j : A0 → A1 → A2 → A3 → A4 → A5 → A6 → A7 → Prop, (∀ x0 x1 x2 x3 x4 x5 x6 x7, j x0 x1 x2 x3 x4 x5 x6 x7 → J x0 x1 x2 x3 x4 x5 x6 x7) ∧ B j
def nlp8 {A0 A1 A2 A3 A4 A5 A6 A7 : Type} (F : (A0 → A1 → A2 → A3 → A4 → A5 → A6 → A7 → Prop) → (A0 → A1 → A2 → A3 → A4 → A5 → A6 → A7 → Prop)) (x0 : A0) (x1 : A1) (x2 : A2) (x3 : A3) (x4 : A4) (x5 : A5) (x6 : A6) (x7 : A7) : Prop := ∀ P : A0 → A1 → A2 → A3 → A4 → A5 → A6 → A7 → Prop, (∀ x0 x1 x2 x3 x4 x5 x6 x7, F P x0 x1 x2 x3 x4 x5 x6 x7 → P x0 x1 x2 x3 x4 x5 x6 x7) → P x0 x1 x2 x3 x4 x5 x6 x7
def jn9 {A0 A1 A2 A3 A4 A5 A6 A7 A8 : Type} (J : A0 → A1 → A2 → A3 → A4 → A5 → A6 → A7 → A8 → Prop) (B : (A0 → A1 → A2 → A3 → A4 → A5 → A6 → A7 → A8 → Prop) → Prop) : Prop := ∃ j : A0 → A1 → A2 → A3 → A4 → A5 → A6 → A7 → A8 → Prop, (∀ x0 x1 x2 x3 x4 x5 x6 x7 x8, j x0 x1 x2 x3 x4 x5 x6 x7 x8 → J x0 x1 x2 x3 x4 x5 x6 x7 x8) ∧ B j
def nlp9 {A0 A1 A2 A3 A4 A5 A6 A7 A8 : Type} (F : (A0 → A1 → A2 → A3 → A4 → A5 → A6 → A7 → A8 → Prop) → (A0 → A1 → A2 → A3 → A4 → A5 → A6 → A7 → A8 → Prop)) (x0 : A0) (x1 : A1) (x2 : A2) (x3 : A3) (x4 : A4) (x5 : A5) (x6 : A6) (x7 : A7) (x8 : A8) : Prop := ∀ P : A0 → A1 → A2 → A3 → A4 → A5 → A6 → A7 → A8 → Prop, (∀ x0 x1 x2 x3 x4 x5 x6 x7 x8, F P x0 x1 x2 x3 x4 x5 x6 x7 x8 → P x0 x1 x2 x3 x4 x5 x6 x7 x8) → P x0 x1 x2 x3 x4 x5 x6 x7 x8
def jn10 {A0 A1 A2 A3 A4 A5 A6 A7 A8 A9 : Type} (J : A0 → A1 → A2 → A3 → A4 → A5 → A6 → A7 → A8 → A9 → Prop) (B : (A0 → A1 → A2 → A3 → A4 → A5 → A6 → A7 → A8 → A9 → Prop) → Prop) : Prop := ∃ j : A0 → A1 → A2 → A3 → A4 → A5 → A6 → A7 → A8 → A9 → Prop, (∀ x0 x1 x2 x3 x4 x5 x6 x7 x8 x9, j x0 x1 x2 x3 x4 x5 x6 x7 x8 x9 → J x0 x1 x2 x3 x4 x5 x6 x7 x8 x9) ∧ B j
def nlp10 {A0 A1 A2 A3 A4 A5 A6 A7 A8 A9 : Type} (F : (A0 → A1 → A2 → A3 → A4 → A5 → A6 → A7 → A8 → A9 → Prop) → (A0 → A1 → A2 → A3 → A4 → A5 → A6 → A7 → A8 → A9 → Prop)) (x0 : A0) (x1 : A1) (x2 : A2) (x3 : A3) (x4 : A4) (x5 : A5) (x6 : A6) (x7 : A7) (x8 : A8) (x9 : A9) : Prop := ∀ P : A0 → A1 → A2 → A3 → A4 → A5 → A6 → A7 → A8 → A9 → Prop, (∀ x0 x1 x2 x3 x4 x5 x6 x7 x8 x9, F P x0 x1 x2 x3 x4 x5 x6 x7 x8 x9 → P x0 x1 x2 x3 x4 x5 x6 x7 x8 x9) → P x0 x1 x2 x3 x4 x5 x6 x7 x8 x9
def jn11 {A0 A1 A2 A3 A4 A5 A6 A7 A8 A9 A10 : Type} (J : A0 → A1 → A2 → A3 → A4 → A5 → A6 → A7 → A8 → A9 → A10 → Prop) (B : (A0 → A1 → A2 → A3 → A4 → A5 → A6 → A7 → A8 → A9 → A10 → Prop) → Prop) : Prop := ∃ j : A0 → A1 → A2 → A3 → A4 → A5 → A6 → A7 → A8 → A9 → A10 → Prop, (∀ x0 x1 x2 x3 x4 x5 x6 x7 x8 x9 x10, j x0 x1 x2 x3 x4 x5 x6 x7 x8 x9 x10 → J x0 x1 x2 x3 x4 x5 x6 x7 x8 x9 x10) ∧ B j
def nlp11 {A0 A1 A2 A3 A4 A5 A6 A7 A8 A9 A10 : Type} (F : (A0 → A1 → A2 → A3 → A4 → A5 → A6 → A7 → A8 → A9 → A10 → Prop) → (A0 → A1 → A2 → A3 → A4 → A5 → A6 → A7 → A8 → A9 → A10 → Prop)) (x0 : A0) (x1 : A1) (x2 : A2) (x3 : A3) (x4 : A4) (x5 : A5) (x6 : A6) (x7 : A7) (x8 : A8) (x9 : A9) (x10 : A10) : Prop := ∀ P : A0 → A1 → A2 → A3 → A4 → A5 → A6 → A7 → A8 → A9 → A10 → Prop, (∀ x0 x1 x2 x3 x4 x5 x6 x7 x8 x9 x10, F P x0 x1 x2 x3 x4 x5 x6 x7 x8 x9 x10 → P x0 x1 x2 x3 x4 x5 x6 x7 x8 x9 x10) → P x0 x1 x2 x3 x4 x5 x6 x7 x8 x9 x10
def jn12 {A0 A1 A2 A3 A4 A5 A6 A7 A8 A9 A10 A11 : Type} (J : A0 → A1 → A2 → A3 → A4 → A5 → A6 → A7 → A8 → A9 → A10 → A11 → Prop) (B : (A0 → A1 → A2 → A3 → A4 → A5 → A6 → A7 → A8 → A9 → A10 → A11 → Prop) → Prop) : Prop := ∃ j : A0 → A1 → A2 → A3 → A4 → A5 → A6 → A7 → A8 → A9 → A10 → A11 → Prop, (∀ x0 x1 x2 x3 x4 x5 x6 x7 x8 x9 x10 x11, j x0 x1 x2 x3 x4 x5 x6 x7 x8 x9 x10 x11 → J x0 x1 x2 x3 x4 x5 x6 x7 x8 x9 x10 x11) ∧ B j
def nlp12 {A0 A1 A2 A3 A4 A5 A6 A7 A8 A9 A10 A11 : Type} (F : (A0 → A1 → A2 → A3 → A4 → A5 → A6 → A7 → A8 → A9 → A10 → A11 → Prop) → (A0 → A1 → A2 → A3 → A4 → A5 → A6 → A7 → A8 → A9 → A10 → A11 → Prop)) (x0 : A0) (x1 : A1) (x2 : A2) (x3 : A3) (x4 : A4) (x5 : A5) (x6 : A6) (x7 : A7) (x8 : A8) (x9 : A9) (x10 : A10) (x11 : A11) : Prop := ∀ P : A0 → A1 → A2 → A3 → A4 → A5 → A6 → A7 → A8 → A9 → A10 → A11 → Prop, (∀ x0 x1 x2 x3 x4 x5 x6 x7 x8 x9 x10 x11, F P x0 x1 x2 x3 x4 x5 x6 x7 x8 x9 x10 x11 → P x0 x1 x2 x3 x4 x5 x6 x7 x8 x9 x10 x11) → P x0 x1 x2 x3 x4 x5 x6 x7 x8 x9 x10 x11
def jn13 {A0 A1 A2 A3 A4 A5 A6 A7 A8 A9 A10 A11 A12 : Type} (J : A0 → A1 → A2 → A3 → A4 → A5 → A6 → A7 → A8 → A9 → A10 → A11 → A12 → Prop) (B : (A0 → A1 → A2 → A3 → A4 → A5 → A6 → A7 → A8 → A9 → A10 → A11 → A12 → Prop) → Prop) : Prop := ∃ j : A0 → A1 → A2 → A3 → A4 → A5 → A6 → A7 → A8 → A9 → A10 → A11 → A12 → Prop, (∀ x0 x1 x2 x3 x4 x5 x6 x7 x8 x9 x10 x11 x12, j x0 x1 x2 x3 x4 x5 x6 x7 x8 x9 x10 x11 x12 → J x0 x1 x2 x3 x4 x5 x6 x7 x8 x9 x10 x11 x12) ∧ B j
def nlp13 {A0 A1 A2 A3 A4 A5 A6 A7 A8 A9 A10 A11 A12 : Type} (F : (A0 → A1 → A2 → A3 → A4 → A5 → A6 → A7 → A8 → A9 → A10 → A11 → A12 → Prop) → (A0 → A1 → A2 → A3 → A4 → A5 → A6 → A7 → A8 → A9 → A10 → A11 → A12 → Prop)) (x0 : A0) (x1 : A1) (x2 : A2) (x3 : A3) (x4 : A4) (x5 : A5) (x6 : A6) (x7 : A7) (x8 : A8) (x9 : A9) (x10 : A10) (x11 : A11) (x12 : A12) : Prop := ∀ P : A0 → A1 → A2 → A3 → A4 → A5 → A6 → A7 → A8 → A9 → A10 → A11 → A12 → Prop, (∀ x0 x1 x2 x3 x4 x5 x6 x7 x8 x9 x10 x11 x12, F P x0 x1 x2 x3 x4 x5 x6 x7 x8 x9 x10 x11 x12 → P x0 x1 x2 x3 x4 x5 x6 x7 x8 x9 x10 x11 x12) → P x0 x1 x2 x3 x4 x5 x6 x7 x8 x9 x10 x11 x12
def jn14 {A0 A1 A2 A3 A4 A5 A6 A7 A8 A9 A10 A11 A12 A13 : Type} (J : A0 → A1 → A2 → A3 → A4 → A5 → A6 → A7 → A8 → A9 → A10 → A11 → A12 → A13 → Prop) (B : (A0 → A1 → A2 → A3 → A4 → A5 → A6 → A7 → A8 → A9 → A10 → A11 → A12 → A13 → Prop) → Prop) : Prop := ∃ j : A0 → A1 → A2 → A3 → A4 → A5 → A6 → A7 → A8 → A9 → A10 → A11 → A12 → A13 → Prop, (∀ x0 x1 x2 x3 x4 x5 x6 x7 x8 x9 x10 x11 x12 x13, j x0 x1 x2 x3 x4 x5 x6 x7 x8 x9 x10 x11 x12 x13 → J x0 x1 x2 x3 x4 x5 x6 x7 x8 x9 x10 x11 x12 x13) ∧ B j
def nlp14 {A0 A1 A2 A3 A4 A5 A6 A7 A8 A9 A10 A11 A12 A13 : Type} (F : (A0 → A1 → A2 → A3 → A4 → A5 → A6 → A7 → A8 → A9 → A10 → A11 → A12 → A13 → Prop) → (A0 → A1 → A2 → A3 → A4 → A5 → A6 → A7 → A8 → A9 → A10 → A11 → A12 → A13 → Prop)) (x0 : A0) (x1 : A1) (x2 : A2) (x3 : A3) (x4 : A4) (x5 : A5) (x6 : A6) (x7 : A7) (x8 : A8) (x9 : A9) (x10 : A10) (x11 : A11) (x12 : A12) (x13 : A13) : Prop := ∀ P : A0 → A1 → A2 → A3 → A4 → A5 → A6 → A7 → A8 → A9 → A10 → A11 → A12 → A13 → Prop, (∀ x0 x1 x2 x3 x4 x5 x6 x7 x8 x9 x10 x11 x12 x13, F P x0 x1 x2 x3 x4 x5 x6 x7 x8 x9 x10 x11 x12 x13 → P x0 x1 x2 x3 x4 x5 x6 x7 x8 x9 x10 x11 x12 x13) → P x0 x1 x2 x3 x4 x5 x6 x7 x8 x9 x10 x11 x12 x13
def jn15 {A0 A1 A2 A3 A4 A5 A6 A7 A8 A9 A10 A11 A12 A13 A14 : Type} (J : A0 → A1 → A2 → A3 → A4 → A5 → A6 → A7 → A8 → A9 → A10 → A11 → A12 → A13 → A14 → Prop) (B : (A0 → A1 → A2 → A3 → A4 → A5 → A6 → A7 → A8 → A9 → A10 → A11 → A12 → A13 → A14 → Prop) → Prop) : Prop := ∃ j : A0 → A1 → A2 → A3 → A4 → A5 → A6 → A7 → A8 → A9 → A10 → A11 → A12 → A13 → A14 → Prop, (∀ x0 x1 x2 x3 x4 x5 x6 x7 x8 x9 x10 x11 x12 x13 x14, j x0 x1 x2 x3 x4 x5 x6 x7 x8 x9 x10 x11 x12 x13 x14 → J x0 x1 x2 x3 x4 x5 x6 x7 x8 x9 x10 x11 x12 x13 x14) ∧ B j
def nlp15 {A0 A1 A2 A3 A4 A5 A6 A7 A8 A9 A10 A11 A12 A13 A14 : Type} (F : (A0 → A1 → A2 → A3 → A4 → A5 → A6 → A7 → A8 → A9 → A10 → A11 → A12 → A13 → A14 → Prop) → (A0 → A1 → A2 → A3 → A4 → A5 → A6 → A7 → A8 → A9 → A10 → A11 → A12 → A13 → A14 → Prop)) (x0 : A0) (x1 : A1) (x2 : A2) (x3 : A3) (x4 : A4) (x5 : A5) (x6 : A6) (x7 : A7) (x8 : A8) (x9 : A9) (x10 : A10) (x11 : A11) (x12 : A12) (x13 : A13) (x14 : A14) : Prop := ∀ P : A0 → A1 → A2 → A3 → A4 → A5 → A6 → A7 → A8 → A9 → A10 → A11 → A12 → A13 → A14 → Prop, (∀ x0 x1 x2 x3 x4 x5 x6 x7 x8 x9 x10 x11 x12 x13 x14, F P x0 x1 x2 x3 x4 x5 x6 x7 x8 x9 x10 x11 x12 x13 x14 → P x0 x1 x2 x3 x4 x5 x6 x7 x8 x9 x10 x11 x12 x13 x14) → P x0 x1 x2 x3 x4 x5 x6 x7 x8 x9 x10 x11 x12 x13 x14
def jn16 {A0 A1 A2 A3 A4 A5 A6 A7 A8 A9 A10 A11 A12 A13 A14 A15 : Type} (J : A0 → A1 → A2 → A3 → A4 → A5 → A6 → A7 → A8 → A9 → A10 → A11 → A12 → A13 → A14 → A15 → Prop) (B : (A0 → A1 → A2 → A3 → A4 → A5 → A6 → A7 → A8 → A9 → A10 → A11 → A12 → A13 → A14 → A15 → Prop) → Prop) : Prop := ∃ j : A0 → A1 → A2 → A3 → A4 → A5 → A6 → A7 → A8 → A9 → A10 → A11 → A12 → A13 → A14 → A15 → Prop, (∀ x0 x1 x2 x3 x4 x5 x6 x7 x8 x9 x10 x11 x12 x13 x14 x15, j x0 x1 x2 x3 x4 x5 x6 x7 x8 x9 x10 x11 x12 x13 x14 x15 → J x0 x1 x2 x3 x4 x5 x6 x7 x8 x9 x10 x11 x12 x13 x14 x15) ∧ B j
def nlp16 {A0 A1 A2 A3 A4 A5 A6 A7 A8 A9 A10 A11 A12 A13 A14 A15 : Type} (F : (A0 → A1 → A2 → A3 → A4 → A5 → A6 → A7 → A8 → A9 → A10 → A11 → A12 → A13 → A14 → A15 → Prop) → (A0 → A1 → A2 → A3 → A4 → A5 → A6 → A7 → A8 → A9 → A10 → A11 → A12 → A13 → A14 → A15 → Prop)) (x0 : A0) (x1 : A1) (x2 : A2) (x3 : A3) (x4 : A4) (x5 : A5) (x6 : A6) (x7 : A7) (x8 : A8) (x9 : A9) (x10 : A10) (x11 : A11) (x12 : A12) (x13 : A13) (x14 : A14) (x15 : A15) : Prop := ∀ P : A0 → A1 → A2 → A3 → A4 → A5 → A6 → A7 → A8 → A9 → A10 → A11 → A12 → A13 → A14 → A15 → Prop, (∀ x0 x1 x2 x3 x4 x5 x6 x7 x8 x9 x10 x11 x12 x13 x14 x15, F P x0 x1 x2 x3 x4 x5 x6 x7 x8 x9 x10 x11 x12 x13 x14 x15 → P x0 x1 x2 x3 x4 x5 x6 x7 x8 x9 x10 x11 x12 x13 x14 x15) → P x0 x1 x2 x3 x4 x5 x6 x7 x8 x9 x10 x11 x12 x13 x14 x15
def jn17 {A0 A1 A2 A3 A4 A5 A6 A7 A8 A9 A10 A11 A12 A13 A14 A15 A16 : Type} (J : A0 → A1 → A2 → A3 → A4 → A5 → A6 → A7 → A8 → A9 → A10 → A11 → A12 → A13 → A14 → A15 → A16 → Prop) (B : (A0 → A1 → A2 → A3 → A4 → A5 → A6 → A7 → A8 → A9 → A10 → A11 → A12 → A13 → A14 → A15 → A16 → Prop) → Prop) : Prop := ∃ j : A0 → A1 → A2 → A3 → A4 → A5 → A6 → A7 → A8 → A9 → A10 → A11 → A12 → A13 → A14 → A15 → A16 → Prop, (∀ x0 x1 x2 x3 x4 x5 x6 x7 x8 x9 x10 x11 x12 x13 x14 x15 x16, j x0 x1 x2 x3 x4 x5 x6 x7 x8 x9 x10 x11 x12 x13 x14 x15 x16 → J x0 x1 x2 x3 x4 x5 x6 x7 x8 x9 x10 x11 x12 x13 x14 x15 x16) ∧ B j
def nlp17 {A0 A1 A2 A3 A4 A5 A6 A7 A8 A9 A10 A11 A12 A13 A14 A15 A16 : Type} (F : (A0 → A1 → A2 → A3 → A4 → A5 → A6 → A7 → A8 → A9 → A10 → A11 → A12 → A13 → A14 → A15 → A16 → Prop) → (A0 → A1 → A2 → A3 → A4 → A5 → A6 → A7 → A8 → A9 → A10 → A11 → A12 → A13 → A14 → A15 → A16 → Prop)) (x0 : A0) (x1 : A1) (x2 : A2) (x3 : A3) (x4 : A4) (x5 : A5) (x6 : A6) (x7 : A7) (x8 : A8) (x9 : A9) (x10 : A10) (x11 : A11) (x12 : A12) (x13 : A13) (x14 : A14) (x15 : A15) (x16 : A16) : Prop := ∀ P : A0 → A1 → A2 → A3 → A4 → A5 → A6 → A7 → A8 → A9 → A10 → A11 → A12 → A13 → A14 → A15 → A16 → Prop, (∀ x0 x1 x2 x3 x4 x5 x6 x7 x8 x9 x10 x11 x12 x13 x14 x15 x16, F P x0 x1 x2 x3 x4 x5 x6 x7 x8 x9 x10 x11 x12 x13 x14 x15 x16 → P x0 x1 x2 x3 x4 x5 x6 x7 x8 x9 x10 x11 x12 x13 x14 x15 x16) → P x0 x1 x2 x3 x4 x5 x6 x7 x8 x9 x10 x11 x12 x13 x14 x15 x16
def jn18 {A0 A1 A2 A3 A4 A5 A6 A7 A8 A9 A10 A11 A12 A13 A14 A15 A16 A17 : Type} (J : A0 → A1 → A2 → A3 → A4 → A5 → A6 → A7 → A8 → A9 → A10 → A11 → A12 → A13 → A14 → A15 → A16 → A17 → Prop) (B : (A0 → A1 → A2 → A3 → A4 → A5 → A6 → A7 → A8 → A9 → A10 → A11 → A12 → A13 → A14 → A15 → A16 → A17 → Prop) → Prop) : Prop := ∃ j : A0 → A1 → A2 → A3 → A4 → A5 → A6 → A7 → A8 → A9 → A10 → A11 → A12 → A13 → A14 → A15 → A16 → A17 → Prop, (∀ x0 x1 x2 x3 x4 x5 x6 x7 x8 x9 x10 x11 x12 x13 x14 x15 x16 x17, j x0 x1 x2 x3 x4 x5 x6 x7 x8 x9 x10 x11 x12 x13 x14 x15 x16 x17 → J x0 x1 x2 x3 x4 x5 x6 x7 x8 x9 x10 x11 x12 x13 x14 x15 x16 x17) ∧ B j
def nlp18 {A0 A1 A2 A3 A4 A5 A6 A7 A8 A9 A10 A11 A12 A13 A14 A15 A16 A17 : Type} (F : (A0 → A1 → A2 → A3 → A4 → A5 → A6 → A7 → A8 → A9 → A10 → A11 → A12 → A13 → A14 → A15 → A16 → A17 → Prop) → (A0 → A1 → A2 → A3 → A4 → A5 → A6 → A7 → A8 → A9 → A10 → A11 → A12 → A13 → A14 → A15 → A16 → A17 → Prop)) (x0 : A0) (x1 : A1) (x2 : A2) (x3 : A3) (x4 : A4) (x5 : A5) (x6 : A6) (x7 : A7) (x8 : A8) (x9 : A9) (x10 : A10) (x11 : A11) (x12 : A12) (x13 : A13) (x14 : A14) (x15 : A15) (x16 : A16) (x17 : A17) : Prop := ∀ P : A0 → A1 → A2 → A3 → A4 → A5 → A6 → A7 → A8 → A9 → A10 → A11 → A12 → A13 → A14 → A15 → A16 → A17 → Prop, (∀ x0 x1 x2 x3 x4 x5 x6 x7 x8 x9 x10 x11 x12 x13 x14 x15 x16 x17, F P x0 x1 x2 x3 x4 x5 x6 x7 x8 x9 x10 x11 x12 x13 x14 x15 x16 x17 → P x0 x1 x2 x3 x4 x5 x6 x7 x8 x9 x10 x11 x12 x13 x14 x15 x16 x17) → P x0 x1 x2 x3 x4 x5 x6 x7 x8 x9 x10 x11 x12 x13 x14 x15 x16 x17
def jn19 {A0 A1 A2 A3 A4 A5 A6 A7 A8 A9 A10 A11 A12 A13 A14 A15 A16 A17 A18 : Type} (J : A0 → A1 → A2 → A3 → A4 → A5 → A6 → A7 → A8 → A9 → A10 → A11 → A12 → A13 → A14 → A15 → A16 → A17 → A18 → Prop) (B : (A0 → A1 → A2 → A3 → A4 → A5 → A6 → A7 → A8 → A9 → A10 → A11 → A12 → A13 → A14 → A15 → A16 → A17 → A18 → Prop) → Prop) : Prop := ∃ j : A0 → A1 → A2 → A3 → A4 → A5 → A6 → A7 → A8 → A9 → A10 → A11 → A12 → A13 → A14 → A15 → A16 → A17 → A18 → Prop, (∀ x0 x1 x2 x3 x4 x5 x6 x7 x8 x9 x10 x11 x12 x13 x14 x15 x16 x17 x18, j x0 x1 x2 x3 x4 x5 x6 x7 x8 x9 x10 x11 x12 x13 x14 x15 x16 x17 x18 → J x0 x1 x2 x3 x4 x5 x6 x7 x8 x9 x10 x11 x12 x13 x14 x15 x16 x17 x18) ∧ B j
def nlp19 {A0 A1 A2 A3 A4 A5 A6 A7 A8 A9 A10 A11 A12 A13 A14 A15 A16 A17 A18 : Type} (F : (A0 → A1 → A2 → A3 → A4 → A5 → A6 → A7 → A8 → A9 → A10 → A11 → A12 → A13 → A14 → A15 → A16 → A17 → A18 → Prop) → (A0 → A1 → A2 → A3 → A4 → A5 → A6 → A7 → A8 → A9 → A10 → A11 → A12 → A13 → A14 → A15 → A16 → A17 → A18 → Prop)) (x0 : A0) (x1 : A1) (x2 : A2) (x3 : A3) (x4 : A4) (x5 : A5) (x6 : A6) (x7 : A7) (x8 : A8) (x9 : A9) (x10 : A10) (x11 : A11) (x12 : A12) (x13 : A13) (x14 : A14) (x15 : A15) (x16 : A16) (x17 : A17) (x18 : A18) : Prop := ∀ P : A0 → A1 → A2 → A3 → A4 → A5 → A6 → A7 → A8 → A9 → A10 → A11 → A12 → A13 → A14 → A15 → A16 → A17 → A18 → Prop, (∀ x0 x1 x2 x3 x4 x5 x6 x7 x8 x9 x10 x11 x12 x13 x14 x15 x16 x17 x18, F P x0 x1 x2 x3 x4 x5 x6 x7 x8 x9 x10 x11 x12 x13 x14 x15 x16 x17 x18 → P x0 x1 x2 x3 x4 x5 x6 x7 x8 x9 x10 x11 x12 x13 x14 x15 x16 x17 x18) → P x0 x1 x2 x3 x4 x5 x6 x7 x8 x9 x10 x11 x12 x13 x14 x15 x16 x17 x18
def jn20 {A0 A1 A2 A3 A4 A5 A6 A7 A8 A9 A10 A11 A12 A13 A14 A15 A16 A17 A18 A19 : Type} (J : A0 → A1 → A2 → A3 → A4 → A5 → A6 → A7 → A8 → A9 → A10 → A11 → A12 → A13 → A14 → A15 → A16 → A17 → A18 → A19 → Prop) (B : (A0 → A1 → A2 → A3 → A4 → A5 → A6 → A7 → A8 → A9 → A10 → A11 → A12 → A13 → A14 → A15 → A16 → A17 → A18 → A19 → Prop) → Prop) : Prop := ∃ j : A0 → A1 → A2 → A3 → A4 → A5 → A6 → A7 → A8 → A9 → A10 → A11 → A12 → A13 → A14 → A15 → A16 → A17 → A18 → A19 → Prop, (∀ x0 x1 x2 x3 x4 x5 x6 x7 x8 x9 x10 x11 x12 x13 x14 x15 x16 x17 x18 x19, j x0 x1 x2 x3 x4 x5 x6 x7 x8 x9 x10 x11 x12 x13 x14 x15 x16 x17 x18 x19 → J x0 x1 x2 x3 x4 x5 x6 x7 x8 x9 x10 x11 x12 x13 x14 x15 x16 x17 x18 x19) ∧ B j
def nlp20 {A0 A1 A2 A3 A4 A5 A6 A7 A8 A9 A10 A11 A12 A13 A14 A15 A16 A17 A18 A19 : Type} (F : (A0 → A1 → A2 → A3 → A4 → A5 → A6 → A7 → A8 → A9 → A10 → A11 → A12 → A13 → A14 → A15 → A16 → A17 → A18 → A19 → Prop) → (A0 → A1 → A2 → A3 → A4 → A5 → A6 → A7 → A8 → A9 → A10 → A11 → A12 → A13 → A14 → A15 → A16 → A17 → A18 → A19 → Prop)) (x0 : A0) (x1 : A1) (x2 : A2) (x3 : A3) (x4 : A4) (x5 : A5) (x6 : A6) (x7 : A7) (x8 : A8) (x9 : A9) (x10 : A10) (x11 : A11) (x12 : A12) (x13 : A13) (x14 : A14) (x15 : A15) (x16 : A16) (x17 : A17) (x18 : A18) (x19 : A19) : Prop := ∀ P : A0 → A1 → A2 → A3 → A4 → A5 → A6 → A7 → A8 → A9 → A10 → A11 → A12 → A13 → A14 → A15 → A16 → A17 → A18 → A19 → Prop, (∀ x0 x1 x2 x3 x4 x5 x6 x7 x8 x9 x10 x11 x12 x13 x14 x15 x16 x17 x18 x19, F P x0 x1 x2 x3 x4 x5 x6 x7 x8 x9 x10 x11 x12 x13 x14 x15 x16 x17 x18 x19 → P x0 x1 x2 x3 x4 x5 x6 x7 x8 x9 x10 x11 x12 x13 x14 x15 x16 x17 x18 x19) → P x0 x1 x2 x3 x4 x5 x6 x7 x8 x9 x10 x11 x12 x13 x14 x15 x16 x17 x18 x19
def jn21 {A0 A1 A2 A3 A4 A5 A6 A7 A8 A9 A10 A11 A12 A13 A14 A15 A16 A17 A18 A19 A20 : Type} (J : A0 → A1 → A2 → A3 → A4 → A5 → A6 → A7 → A8 → A9 → A10 → A11 → A12 → A13 → A14 → A15 → A16 → A17 → A18 → A19 → A20 → Prop) (B : (A0 → A1 → A2 → A3 → A4 → A5 → A6 → A7 → A8 → A9 → A10 → A11 → A12 → A13 → A14 → A15 → A16 → A17 → A18 → A19 → A20 → Prop) → Prop) : Prop := ∃ j : A0 → A1 → A2 → A3 → A4 → A5 → A6 → A7 → A8 → A9 → A10 → A11 → A12 → A13 → A14 → A15 → A16 → A17 → A18 → A19 → A20 → Prop, (∀ x0 x1 x2 x3 x4 x5 x6 x7 x8 x9 x10 x11 x12 x13 x14 x15 x16 x17 x18 x19 x20, j x0 x1 x2 x3 x4 x5 x6 x7 x8 x9 x10 x11 x12 x13 x14 x15 x16 x17 x18 x19 x20 → J x0 x1 x2 x3 x4 x5 x6 x7 x8 x9 x10 x11 x12 x13 x14 x15 x16 x17 x18 x19 x20) ∧ B j
def nlp21 {A0 A1 A2 A3 A4 A5 A6 A7 A8 A9 A10 A11 A12 A13 A14 A15 A16 A17 A18 A19 A20 : Type} (F : (A0 → A1 → A2 → A3 → A4 → A5 → A6 → A7 → A8 → A9 → A10 → A11 → A12 → A13 → A14 → A15 → A16 → A17 → A18 → A19 → A20 → Prop) → (A0 → A1 → A2 → A3 → A4 → A5 → A6 → A7 → A8 → A9 → A10 → A11 → A12 → A13 → A14 → A15 → A16 → A17 → A18 → A19 → A20 → Prop)) (x0 : A0) (x1 : A1) (x2 : A2) (x3 : A3) (x4 : A4) (x5 : A5) (x6 : A6) (x7 : A7) (x8 : A8) (x9 : A9) (x10 : A10) (x11 : A11) (x12 : A12) (x13 : A13) (x14 : A14) (x15 : A15) (x16 : A16) (x17 : A17) (x18 : A18) (x19 : A19) (x20 : A20) : Prop := ∀ P : A0 → A1 → A2 → A3 → A4 → A5 → A6 → A7 → A8 → A9 → A10 → A11 → A12 → A13 → A14 → A15 → A16 → A17 → A18 → A19 → A20 → Prop, (∀ x0 x1 x2 x3 x4 x5 x6 x7 x8 x9 x10 x11 x12 x13 x14 x15 x16 x17 x18 x19 x20, F P x0 x1 x2 x3 x4 x5 x6 x7 x8 x9 x10 x11 x12 x13 x14 x15 x16 x17 x18 x19 x20 → P x0 x1 x2 x3 x4 x5 x6 x7 x8 x9 x10 x11 x12 x13 x14 x15 x16 x17 x18 x19 x20) → P x0 x1 x2 x3 x4 x5 x6 x7 x8 x9 x10 x11 x12 x13 x14 x15 x16 x17 x18 x19 x20
def jn22 {A0 A1 A2 A3 A4 A5 A6 A7 A8 A9 A10 A11 A12 A13 A14 A15 A16 A17 A18 A19 A20 A21 : Type} (J : A0 → A1 → A2 → A3 → A4 → A5 → A6 → A7 → A8 → A9 → A10 → A11 → A12 → A13 → A14 → A15 → A16 → A17 → A18 → A19 → A20 → A21 → Prop) (B : (A0 → A1 → A2 → A3 → A4 → A5 → A6 → A7 → A8 → A9 → A10 → A11 → A12 → A13 → A14 → A15 → A16 → A17 → A18 → A19 → A20 → A21 → Prop) → Prop) : Prop := ∃ j : A0 → A1 → A2 → A3 → A4 → A5 → A6 → A7 → A8 → A9 → A10 → A11 → A12 → A13 → A14 → A15 → A16 → A17 → A18 → A19 → A20 → A21 → Prop, (∀ x0 x1 x2 x3 x4 x5 x6 x7 x8 x9 x10 x11 x12 x13 x14 x15 x16 x17 x18 x19 x20 x21, j x0 x1 x2 x3 x4 x5 x6 x7 x8 x9 x10 x11 x12 x13 x14 x15 x16 x17 x18 x19 x20 x21 → J x0 x1 x2 x3 x4 x5 x6 x7 x8 x9 x10 x11 x12 x13 x14 x15 x16 x17 x18 x19 x20 x21) ∧ B j
def nlp22 {A0 A1 A2 A3 A4 A5 A6 A7 A8 A9 A10 A11 A12 A13 A14 A15 A16 A17 A18 A19 A20 A21 : Type} (F : (A0 → A1 → A2 → A3 → A4 → A5 → A6 → A7 → A8 → A9 → A10 → A11 → A12 → A13 → A14 → A15 → A16 → A17 → A18 → A19 → A20 → A21 → Prop) → (A0 → A1 → A2 → A3 → A4 → A5 → A6 → A7 → A8 → A9 → A10 → A11 → A12 → A13 → A14 → A15 → A16 → A17 → A18 → A19 → A20 → A21 → Prop)) (x0 : A0) (x1 : A1) (x2 : A2) (x3 : A3) (x4 : A4) (x5 : A5) (x6 : A6) (x7 : A7) (x8 : A8) (x9 : A9) (x10 : A10) (x11 : A11) (x12 : A12) (x13 : A13) (x14 : A14) (x15 : A15) (x16 : A16) (x17 : A17) (x18 : A18) (x19 : A19) (x20 : A20) (x21 : A21) : Prop := ∀ P : A0 → A1 → A2 → A3 → A4 → A5 → A6 → A7 → A8 → A9 → A10 → A11 → A12 → A13 → A14 → A15 → A16 → A17 → A18 → A19 → A20 → A21 → Prop, (∀ x0 x1 x2 x3 x4 x5 x6 x7 x8 x9 x10 x11 x12 x13 x14 x15 x16 x17 x18 x19 x20 x21, F P x0 x1 x2 x3 x4 x5 x6 x7 x8 x9 x10 x11 x12 x13 x14 x15 x16 x17 x18 x19 x20 x21 → P x0 x1 x2 x3 x4 x5 x6 x7 x8 x9 x10 x11 x12 x13 x14 x15 x16 x17 x18 x19 x20 x21) → P x0 x1 x2 x3 x4 x5 x6 x7 x8 x9 x10 x11 x12 x13 x14 x15 x16 x17 x18 x19 x20 x21
def jn23 {A0 A1 A2 A3 A4 A5 A6 A7 A8 A9 A10 A11 A12 A13 A14 A15 A16 A17 A18 A19 A20 A21 A22 : Type} (J : A0 → A1 → A2 → A3 → A4 → A5 → A6 → A7 → A8 → A9 → A10 → A11 → A12 → A13 → A14 → A15 → A16 → A17 → A18 → A19 → A20 → A21 → A22 → Prop) (B : (A0 → A1 → A2 → A3 → A4 → A5 → A6 → A7 → A8 → A9 → A10 → A11 → A12 → A13 → A14 → A15 → A16 → A17 → A18 → A19 → A20 → A21 → A22 → Prop) → Prop) : Prop := ∃ j : A0 → A1 → A2 → A3 → A4 → A5 → A6 → A7 → A8 → A9 → A10 → A11 → A12 → A13 → A14 → A15 → A16 → A17 → A18 → A19 → A20 → A21 → A22 → Prop, (∀ x0 x1 x2 x3 x4 x5 x6 x7 x8 x9 x10 x11 x12 x13 x14 x15 x16 x17 x18 x19 x20 x21 x22, j x0 x1 x2 x3 x4 x5 x6 x7 x8 x9 x10 x11 x12 x13 x14 x15 x16 x17 x18 x19 x20 x21 x22 → J x0 x1 x2 x3 x4 x5 x6 x7 x8 x9 x10 x11 x12 x13 x14 x15 x16 x17 x18 x19 x20 x21 x22) ∧ B j
def nlp23 {A0 A1 A2 A3 A4 A5 A6 A7 A8 A9 A10 A11 A12 A13 A14 A15 A16 A17 A18 A19 A20 A21 A22 : Type} (F : (A0 → A1 → A2 → A3 → A4 → A5 → A6 → A7 → A8 → A9 → A10 → A11 → A12 → A13 → A14 → A15 → A16 → A17 → A18 → A19 → A20 → A21 → A22 → Prop) → (A0 → A1 → A2 → A3 → A4 → A5 → A6 → A7 → A8 → A9 → A10 → A11 → A12 → A13 → A14 → A15 → A16 → A17 → A18 → A19 → A20 → A21 → A22 → Prop)) (x0 : A0) (x1 : A1) (x2 : A2) (x3 : A3) (x4 : A4) (x5 : A5) (x6 : A6) (x7 : A7) (x8 : A8) (x9 : A9) (x10 : A10) (x11 : A11) (x12 : A12) (x13 : A13) (x14 : A14) (x15 : A15) (x16 : A16) (x17 : A17) (x18 : A18) (x19 : A19) (x20 : A20) (x21 : A21) (x22 : A22) : Prop := ∀ P : A0 → A1 → A2 → A3 → A4 → A5 → A6 → A7 → A8 → A9 → A10 → A11 → A12 → A13 → A14 → A15 → A16 → A17 → A18 → A19 → A20 → A21 → A22 → Prop, (∀ x0 x1 x2 x3 x4 x5 x6 x7 x8 x9 x10 x11 x12 x13 x14 x15 x16 x17 x18 x19 x20 x21 x22, F P x0 x1 x2 x3 x4 x5 x6 x7 x8 x9 x10 x11 x12 x13 x14 x15 x16 x17 x18 x19 x20 x21 x22 → P x0 x1 x2 x3 x4 x5 x6 x7 x8 x9 x10 x11 x12 x13 x14 x15 x16 x17 x18 x19 x20 x21 x22) → P x0 x1 x2 x3 x4 x5 x6 x7 x8 x9 x10 x11 x12 x13 x14 x15 x16 x17 x18 x19 x20 x21 x22
def jn24 {A0 A1 A2 A3 A4 A5 A6 A7 A8 A9 A10 A11 A12 A13 A14 A15 A16 A17 A18 A19 A20 A21 A22 A23 : Type} (J : A0 → A1 → A2 → A3 → A4 → A5 → A6 → A7 → A8 → A9 → A10 → A11 → A12 → A13 → A14 → A15 → A16 → A17 → A18 → A19 → A20 → A21 → A22 → A23 → Prop) (B : (A0 → A1 → A2 → A3 → A4 → A5 → A6 → A7 → A8 → A9 → A10 → A11 → A12 → A13 → A14 → A15 → A16 → A17 → A18 → A19 → A20 → A21 → A22 → A23 → Prop) → Prop) : Prop := ∃ j : A0 → A1 → A2 → A3 → A4 → A5 → A6 → A7 → A8 → A9 → A10 → A11 → A12 → A13 → A14 → A15 → A16 → A17 → A18 → A19 → A20 → A21 → A22 → A23 → Prop, (∀ x0 x1 x2 x3 x4 x5 x6 x7 x8 x9 x10 x11 x12 x13 x14 x15 x16 x17 x18 x19 x20 x21 x22 x23, j x0 x1 x2 x3 x4 x5 x6 x7 x8 x9 x10 x11 x12 x13 x14 x15 x16 x17 x18 x19 x20 x21 x22 x23 → J x0 x1 x2 x3 x4 x5 x6 x7 x8 x9 x10 x11 x12 x13 x14 x15 x16 x17 x18 x19 x20 x21 x22 x23) ∧ B j
def nlp24 {A0 A1 A2 A3 A4 A5 A6 A7 A8 A9 A10 A11 A12 A13 A14 A15 A16 A17 A18 A19 A20 A21 A22 A23 : Type} (F : (A0 → A1 → A2 → A3 → A4 → A5 → A6 → A7 → A8 → A9 → A10 → A11 → A12 → A13 → A14 → A15 → A16 → A17 → A18 → A19 → A20 → A21 → A22 → A23 → Prop) → (A0 → A1 → A2 → A3 → A4 → A5 → A6 → A7 → A8 → A9 → A10 → A11 → A12 → A13 → A14 → A15 → A16 → A17 → A18 → A19 → A20 → A21 → A22 → A23 → Prop)) (x0 : A0) (x1 : A1) (x2 : A2) (x3 : A3) (x4 : A4) (x5 : A5) (x6 : A6) (x7 : A7) (x8 : A8) (x9 : A9) (x10 : A10) (x11 : A11) (x12 : A12) (x13 : A13) (x14 : A14) (x15 : A15) (x16 : A16) (x17 : A17) (x18 : A18) (x19 : A19) (x20 : A20) (x21 : A21) (x22 : A22) (x23 : A23) : Prop := ∀ P : A0 → A1 → A2 → A3 → A4 → A5 → A6 → A7 → A8 → A9 → A10 → A11 → A12 → A13 → A14 → A15 → A16 → A17 → A18 → A19 → A20 → A21 → A22 → A23 → Prop, (∀ x0 x1 x2 x3 x4 x5 x6 x7 x8 x9 x10 x11 x12 x13 x14 x15 x16 x17 x18 x19 x20 x21 x22 x23, F P x0 x1 x2 x3 x4 x5 x6 x7 x8 x9 x10 x11 x12 x13 x14 x15 x16 x17 x18 x19 x20 x21 x22 x23 → P x0 x1 x2 x3 x4 x5 x6 x7 x8 x9 x10 x11 x12 x13 x14 x15 x16 x17 x18 x19 x20 x21 x22 x23) → P x0 x1 x2 x3 x4 x5 x6 x7 x8 x9 x10 x11 x12 x13 x14 x15 x16 x17 x18 x19 x20 x21 x22 x23
def sJ_idx : List Nat := [50, 59, 64, 73, 89, 100, 102]
def sJ_tx : List String := ["row", "odds", "weights", "give", "less", "kind", "walk"]
def sJ_len : List Nat := [3, 4, 7, 4, 4, 4, 4]
def sJ_byt : List (List Int32) := [[114, 111, 119], [111, 100, 100, 115], [119, 101, 105, 103, 104, 116, 115], [103, 105, 118, 101], [108, 101, 115, 115], [107, 105, 110, 100], [119, 97, 108, 107]]
def slenN (i : Nat) : Nat := sJ_len.getD i 0
def schr (i : Nat) (k : Int) : Int := ((sJ_byt.getD i []).getD k.toNat 0).toInt
def zA : Int → Int := fun _ => 0
