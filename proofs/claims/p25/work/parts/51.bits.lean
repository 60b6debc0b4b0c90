/-! bits; pigeons; rows -/
def bit (x k : Int) : Bool := (BitVec.ofInt 32 x).getLsbD k.toNat
theorem bv_ti (z : Int32) : BitVec.ofInt 32 z.toInt = z.toBitVec := by
  show BitVec.ofInt 32 z.toBitVec.toInt = z.toBitVec
  exact BitVec.ofInt_toInt
theorem bt_ior (a b k : Int) : bit (ior a b) k = (bit a k || bit b k) := by
  unfold bit ior
  rw [bv_ti, Int32.toBitVec_or, BitVec.getLsbD_or]
  rfl
theorem bt_0 (k : Int) : bit 0 k = false := by
  unfold bit
  simp
theorem bt_shlc : (List.range 32).all (fun j => (List.range 32).all (fun k => bit (ishl 1 (j : Int)) (k : Int) == decide (j = k))) = true := by decide +kernel
theorem bt_shl {j k : Int} (h0 : 0 ≤ j) (h1 : j < 32) (h2 : 0 ≤ k) (h3 : k < 32) : bit (ishl 1 j) k = decide (j = k) := by
  have a1 := List.all_eq_true.mp bt_shlc j.toNat (List.mem_range.mpr (by omega))
  have a2 := List.all_eq_true.mp a1 k.toNat (List.mem_range.mpr (by omega))
  have a3 := eq_of_beq a2
  rw [Int.toNat_of_nonneg h0, Int.toNat_of_nonneg h2] at a3
  rw [a3]
  have : (j.toNat = k.toNat) ↔ j = k := by omega
  simp only [this]
theorem bt_sm : ∀ k : Nat, k < 32 → ((Int32.ofInt (k : Int) &&& 31).toBitVec.smod 32) = BitVec.ofNat 32 k := by decide +kernel
theorem bt {x k : Int} (h0 : 0 ≤ k) (h1 : k < 32) : iand (ishr x k) 1 = if bit x k then 1 else 0 := by
  obtain ⟨n, rfl⟩ : ∃ n : Nat, k = (n : Int) := ⟨k.toNat, by omega⟩
  have hn : n < 32 := by omega
  unfold iand ishr bit
  rw [ti_of]
  have e1 : (Int32.ofInt x >>> (Int32.ofInt (n : Int) &&& 31)).toBitVec = (BitVec.ofInt 32 x).sshiftRight n := by
    rw [Int32.toBitVec_shiftRight, bt_sm n hn]
    show (BitVec.ofInt 32 x).sshiftRight (BitVec.ofNat 32 n).toNat = _
    rw [BitVec.toNat_ofNat, Nat.mod_eq_of_lt (by omega)]
  show ((Int32.ofInt x >>> (Int32.ofInt (n : Int) &&& 31)) &&& Int32.ofInt 1).toBitVec.toInt = _
  rw [Int32.toBitVec_and, e1]
  show ((BitVec.ofInt 32 x).sshiftRight n &&& 1#32).toInt = _
  rw [BitVec.and_one_eq_setWidth_ofBool_getLsbD, BitVec.getLsbD_sshiftRight]
  simp only [Int.toNat_natCast, Nat.add_zero, hn, if_true]
  have z : ∀ z : Bool, (BitVec.setWidth 32 (BitVec.ofBool (!decide (32 ≤ 0) && z))).toInt = if z = true then 1 else 0 := by
    intro z
    cases z <;> rfl
  exact z _
theorem bt1 {x k : Int} (h0 : 0 ≤ k) (h1 : k < 32) : iand (ishr x k) 1 = 1 ↔ bit x k = true := by
  rw [bt h0 h1]
  split <;> simp_all
theorem bt01 {x k : Int} (h0 : 0 ≤ k) (h1 : k < 32) : iand (ishr x k) 1 = 0 ∨ iand (ishr x k) 1 = 1 := by
  rw [bt h0 h1]
  split
  · exact Or.inr rfl
  · exact Or.inl rfl
def cnt (x : Int) : Nat → Int
  | 0 => 0
  | n + 1 => cnt x n + (if bit x (n : Int) then 1 else 0)
theorem cnt_b (x : Int) (n : Nat) : 0 ≤ cnt x n ∧ cnt x n ≤ n := by
  induction n with
  | zero => exact ⟨by show (0 : Int) ≤ 0; omega, by show (0 : Int) ≤ _; omega⟩
  | succ n ih =>
    show 0 ≤ cnt x n + _ ∧ cnt x n + _ ≤ _
    split <;> omega
theorem cnt_m (x : Int) (a b : Nat) (h : a ≤ b) : cnt x a ≤ cnt x b := by
  induction b with
  | zero =>
    have : a = 0 := by omega
    subst this; exact Int.le_refl _
  | succ b ih =>
    by_cases e : a = b + 1
    · subst e; exact Int.le_refl _
    · have := ih (by omega)
      show cnt x a ≤ cnt x b + _
      split <;> omega
theorem cnt_s {x k : Int} (h0 : 0 ≤ k) : cnt x (k + 1).toNat = cnt x k.toNat + (if bit x k then 1 else 0) := by
  have e : (k + 1).toNat = k.toNat + 1 := by omega
  rw [e]
  show cnt x k.toNat + (if bit x ((k.toNat : Nat) : Int) then 1 else 0) = _
  rw [Int.toNat_of_nonneg h0]
theorem pgN : ∀ (m n : Nat) (f : Int → Int), (∀ i : Int, 0 ≤ i → i < n → 0 ≤ f i ∧ f i < m) → (∀ i j : Int, 0 ≤ i → i < n → 0 ≤ j → j < n → f i = f j → i = j) → n ≤ m := by
  intro m
  induction m with
  | zero =>
    intro n f h1 _
    rcases Nat.eq_zero_or_pos n with e | e
    · omega
    · have := h1 0 (by omega) (by omega)
      omega
  | succ m ih =>
    intro n f h1 h2
    rcases Nat.eq_zero_or_pos n with e | e
    · omega
    · by_cases hx : ∃ j : Int, 0 ≤ j ∧ j < n ∧ f j = m
      · obtain ⟨j, j1, j2, j3⟩ := hx
        have := ih (n - 1) (fun i => if i = j then f (n - 1) else f i) (fun i i1 i2 => ?_) (fun a b a1 a2 b1 b2 hab => ?_)
        · omega
        · by_cases ei : i = j
          · show 0 ≤ (if i = j then _ else _) ∧ (if i = j then _ else _) < _
            rw [if_pos ei]
            have q := h1 ((n : Int) - 1) (by omega) (by omega)
            have r : f ((n : Int) - 1) ≠ m := fun e2 => by
              have := h2 ((n : Int) - 1) j (by omega) (by omega) j1 j2 (by rw [e2, j3])
              omega
            omega
          · show 0 ≤ (if i = j then _ else _) ∧ (if i = j then _ else _) < _
            rw [if_neg ei]
            have q := h1 i i1 (by omega)
            have r : f i ≠ m := fun e2 => ei (h2 i j i1 (by omega) j1 j2 (by rw [e2, j3]))
            omega
        · have hab : (if a = j then f ((n : Int) - 1) else f a) = (if b = j then f ((n : Int) - 1) else f b) := hab
          by_cases ea : a = j <;> by_cases eb : b = j
          · omega
          · rw [if_pos ea, if_neg eb] at hab
            have := h2 ((n : Int) - 1) b (by omega) (by omega) b1 (by omega) hab
            omega
          · rw [if_neg ea, if_pos eb] at hab
            have := h2 a ((n : Int) - 1) a1 (by omega) (by omega) (by omega) hab
            omega
          · rw [if_neg ea, if_neg eb] at hab
            exact h2 a b a1 (by omega) b1 (by omega) hab
      · have := ih n f (fun i i1 i2 => ?_) h2
        · omega
        · have q := h1 i i1 i2
          have r : f i ≠ m := fun e2 => hx ⟨i, i1, i2, e2⟩
          omega
theorem pgn {f : Int → Int} {n m : Int} (hn : 0 ≤ n) (hm : 0 ≤ m) (h1 : ∀ i, 0 ≤ i → i < n → 0 ≤ f i ∧ f i < m) (h2 : ∀ i j, 0 ≤ i → i < n → 0 ≤ j → j < n → f i = f j → i = j) : n ≤ m := by
  have := pgN m.toNat n.toNat f (fun i a b => by have := h1 i a (by omega); omega) (fun i j a b c d e => h2 i j a (by omega) c (by omega) e)
  omega
def rD (m : Int) (a : Int → Int) : Prop := ∀ i j, 0 ≤ i → i < m → 0 ≤ j → j < m → a i = a j → i = j
def rS (m : Int) (a b : Int → Int) : Prop := ∀ i, 0 ≤ i → i < m → ∃ j, 0 ≤ j ∧ j < m ∧ b i = a j
theorem rS_r {m : Int} {a : Int → Int} : rS m a a := fun i h0 h1 => ⟨i, h0, h1, rfl⟩
theorem rS_t {m : Int} {a b c : Int → Int} (h1 : rS m a b) (h2 : rS m b c) : rS m a c := fun i i0 i1 => by
  obtain ⟨j, j0, j1, e⟩ := h2 i i0 i1
  obtain ⟨k, k0, k1, e2⟩ := h1 j j0 j1
  exact ⟨k, k0, k1, by rw [e, e2]⟩
theorem sw_at {a : Int → Int} {x y i : Int} : ups (ups a x (a y)) y (a x) i = if i = y then a x else if i = x then a y else a i := rfl
theorem rD_sw {m : Int} {a : Int → Int} {x y : Int} (hx : 0 ≤ x ∧ x < m) (hy : 0 ≤ y ∧ y < m) (h : rD m a) : rD m (ups (ups a x (a y)) y (a x)) := by
  have g : ∀ i, 0 ≤ i → i < m → ups (ups a x (a y)) y (a x) i = a (if i = y then x else if i = x then y else i) := by
    intro i _ _
    rw [sw_at]
    split
    · rfl
    · split <;> rfl
  intro i j i0 i1 j0 j1 e
  rw [g i i0 i1, g j j0 j1] at e
  have := h _ _ (by split; omega; split <;> omega) (by split; omega; split <;> omega) (by split; omega; split <;> omega) (by split; omega; split <;> omega) e
  by_cases a1 : i = y <;> by_cases a2 : i = x <;> by_cases b1 : j = y <;> by_cases b2 : j = x <;> simp_all
theorem rS_sw {m : Int} {a : Int → Int} {x y : Int} (hx : 0 ≤ x ∧ x < m) (hy : 0 ≤ y ∧ y < m) : rS m a (ups (ups a x (a y)) y (a x)) := by
  intro i i0 i1
  rw [sw_at]
  split
  · exact ⟨x, hx.1, hx.2, rfl⟩
  · split
    · exact ⟨y, hy.1, hy.2, rfl⟩
    · exact ⟨i, i0, i1, rfl⟩
def rV (a : Int → Int) : Nat → Int
  | 0 => 0
  | n + 1 => 16 * rV a n + a (n : Int)
theorem rV_b (a : Int → Int) (m : Nat) (h : ∀ i : Int, 0 ≤ i → i < m → 0 ≤ a i ∧ a i < 16) (k : Nat) (hk : k ≤ m) : 0 ≤ rV a k ∧ rV a k < 16 ^ k := by
  induction k with
  | zero => exact ⟨by show (0 : Int) ≤ 0; omega, by show (0 : Int) < 1; omega⟩
  | succ k ih =>
    have q := ih (by omega)
    have r := h k (by omega) (by omega)
    show 0 ≤ 16 * rV a k + a k ∧ 16 * rV a k + a k < 16 ^ (k + 1)
    rw [Int.pow_succ]
    omega
theorem rV_e (a b : Int → Int) (k : Nat) (h : ∀ i : Int, 0 ≤ i → i < k → a i = b i) : rV a k = rV b k := by
  induction k with
  | zero => rfl
  | succ k ih =>
    show 16 * rV a k + a k = 16 * rV b k + b k
    rw [ih (fun i i0 i1 => h i i0 (by omega)), h k (by omega) (by omega)]
theorem rV_l (a b : Int → Int) (m k : Nat) (ha : ∀ i : Int, 0 ≤ i → i < m → 0 ≤ a i ∧ a i < 16) (hb : ∀ i : Int, 0 ≤ i → i < m → 0 ≤ b i ∧ b i < 16) (hk : k < m) (h : ∀ i : Int, 0 ≤ i → i < k → a i = b i) (hl : a k < b k) : ∀ n : Nat, k < n → n ≤ m → rV a n < rV b n := by
  intro n
  induction n with
  | zero => intro h1; omega
  | succ n ih =>
    intro h1 h2
    show 16 * rV a n + a n < 16 * rV b n + b n
    have q1 := ha n (by omega) (by omega)
    have q2 := hb n (by omega) (by omega)
    by_cases e : n = k
    · subst e
      rw [rV_e a b n h]
      omega
    · have := ih (by omega) (by omega)
      omega
theorem l255 (y : Int) : 0 ≤ l2i (land y 255) ∧ l2i (land y 255) ≤ 255 := by
  have k : ∀ v : Int64, 0 ≤ (v &&& Int64.ofInt 255).toInt ∧ (v &&& Int64.ofInt 255).toInt ≤ 255 := by
    intro v
    show 0 ≤ (v &&& Int64.ofInt 255).toBitVec.toInt ∧ (v &&& Int64.ofInt 255).toBitVec.toInt ≤ 255
    rw [Int64.toBitVec_and]
    have hn : (v.toBitVec &&& (Int64.ofInt 255).toBitVec).toNat ≤ 255 := by
      rw [BitVec.toNat_and]
      exact Nat.le_trans Nat.and_le_right (by decide)
    rw [BitVec.toInt_eq_toNat_of_lt (by omega)]
    omega
  have k2 := k (Int64.ofInt y)
  have e : Int64.ofInt ((Int64.ofInt y &&& Int64.ofInt 255).toInt) = (Int64.ofInt y &&& Int64.ofInt 255) := by simp
  unfold l2i land
  rw [e, Int64.toInt_toInt32, Int.bmod_def]
  split <;> omega
