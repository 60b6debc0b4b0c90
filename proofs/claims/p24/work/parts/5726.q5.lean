/-! ANSWERS 5: bestRow. First: how many bits, of sixteen -/
theorem nO (n : Nat) (h : n < 4294967296) : (BitVec.ofInt 32 (n : Int)).toNat = n := by
  rw [BitVec.toNat_ofInt]
  show ((n : Int) % 4294967296).toNat = n
  omega
theorem nT {w : BitVec 32} {n : Nat} (h : w.toNat = n) (hn : n < 2147483648) : w.toInt = (n : Int) := by
  rw [BitVec.toInt_eq_toNat_of_lt (by rw [h]; omega), h]
theorem iand_n {a b : Nat} (ha : a < 2147483648) (hb : b < 4294967296) : iand (a : Int) (b : Int) = ((a &&& b : Nat) : Int) := by
  unfold iand
  show (Int32.ofInt (a : Int) &&& Int32.ofInt (b : Int)).toBitVec.toInt = _
  rw [Int32.toBitVec_and]
  show (BitVec.ofInt 32 (a : Int) &&& BitVec.ofInt 32 (b : Int)).toInt = _
  refine nT ?_ (Nat.lt_of_le_of_lt Nat.and_le_left ha)
  rw [BitVec.toNat_and, nO a (by omega), nO b hb]
theorem wadd_n {a b : Nat} (h : a + b < 2147483648) : wadd (a : Int) (b : Int) = ((a + b : Nat) : Int) := by
  unfold wadd
  show (Int32.ofInt (a : Int) + Int32.ofInt (b : Int)).toBitVec.toInt = _
  rw [Int32.toBitVec_add]
  show (BitVec.ofInt 32 (a : Int) + BitVec.ofInt 32 (b : Int)).toInt = _
  refine nT ?_ h
  rw [BitVec.toNat_add, nO a (by omega), nO b (by omega)]
  exact Nat.mod_eq_of_lt (by omega)
theorem wsub_n {a b : Nat} (h : b ≤ a) (ha : a < 2147483648) : wsub (a : Int) (b : Int) = ((a - b : Nat) : Int) := by
  unfold wsub
  show (Int32.ofInt (a : Int) - Int32.ofInt (b : Int)).toBitVec.toInt = _
  rw [Int32.toBitVec_sub]
  show (BitVec.ofInt 32 (a : Int) - BitVec.ofInt 32 (b : Int)).toInt = _
  refine nT ?_ (by omega)
  rw [BitVec.toNat_sub, nO a (by omega), nO b (by omega)]
  show (4294967296 - b + a) % 4294967296 = a - b
  omega
theorem us_c : ∀ k : Nat, k < 32 → (((Int32.ofInt (k : Int)).toUInt32 &&& Int32.toUInt32 31).toBitVec % 32) = BitVec.ofNat 32 k := by decide +kernel
theorem iushr_n {a s : Nat} (hs : s < 32) (ha : a < 2147483648) : iushr (a : Int) (s : Int) = ((a >>> s : Nat) : Int) := by
  unfold iushr
  generalize hz : ((Int32.ofInt (a : Int)).toUInt32 >>> ((Int32.ofInt (s : Int)).toUInt32 &&& Int32.toUInt32 31)).toInt32 = z
  have b1 : z.toBitVec = BitVec.ofInt 32 (a : Int) >>> s := by
    rw [← hz]
    show ((Int32.ofInt (a : Int)).toUInt32 >>> ((Int32.ofInt (s : Int)).toUInt32 &&& Int32.toUInt32 31)).toBitVec = _
    rw [UInt32.toBitVec_shiftRight, us_c s hs]
    show (BitVec.ofInt 32 (a : Int)) >>> (BitVec.ofNat 32 s).toNat = _
    rw [BitVec.toNat_ofNat, Nat.mod_eq_of_lt (by omega)]
  show z.toBitVec.toInt = _
  refine nT ?_ (Nat.lt_of_le_of_lt (Nat.shiftRight_le a s) ha)
  rw [b1, BitVec.toNat_ushiftRight, nO a (by omega)]
def bc3 (x : Int) : Int := wsub x (iand (iushr x 1) 1431655765)
def bc7 (x : Int) : Int := wadd (iand x 858993459) (iand (iushr x 2) 858993459)
def bc10 (x : Int) : Int := iand (wadd x (iushr x 4)) 252645135
def bc12 (x : Int) : Int := wadd x (iushr x 8)
def bc15 (x : Int) : Int := iand (wadd x (iushr x 16)) 63
def bn3 (n : Nat) : Nat := n - (n >>> 1 &&& 1431655765)
def bn7 (n : Nat) : Nat := (n &&& 858993459) + (n >>> 2 &&& 858993459)
def bn10 (n : Nat) : Nat := (n + n >>> 4) &&& 252645135
def bn12 (n : Nat) : Nat := n + n >>> 8
def bn15 (n : Nat) : Nat := (n + n >>> 16) &&& 63
def bcN (n : Nat) : Nat := bn15 (bn12 (bn10 (bn7 (bn3 n))))
theorem bc3_n {n : Nat} (h : n < 2147483648) : bc3 (n : Int) = (bn3 n : Int) := by
  have e : iand (iushr (n : Int) 1) 1431655765 = ((n >>> 1 &&& 1431655765 : Nat) : Int) := by
    rw [show iushr (n : Int) 1 = ((n >>> 1 : Nat) : Int) from iushr_n (s := 1) (by omega) h]
    exact iand_n (b := 1431655765) (Nat.lt_of_le_of_lt (Nat.shiftRight_le n 1) h) (by omega)
  unfold bc3 bn3
  rw [e]
  exact wsub_n (Nat.le_trans Nat.and_le_left (Nat.shiftRight_le n 1)) h
theorem bc7_n {n : Nat} (h : n < 1000000000) : bc7 (n : Int) = (bn7 n : Int) := by
  have e1 : iand (n : Int) 858993459 = ((n &&& 858993459 : Nat) : Int) := iand_n (b := 858993459) (by omega) (by omega)
  have e2 : iand (iushr (n : Int) 2) 858993459 = ((n >>> 2 &&& 858993459 : Nat) : Int) := by
    rw [show iushr (n : Int) 2 = ((n >>> 2 : Nat) : Int) from iushr_n (s := 2) (by omega) (by omega)]
    exact iand_n (b := 858993459) (Nat.lt_of_le_of_lt (Nat.shiftRight_le n 2) (by omega)) (by omega)
  have b1 : n &&& 858993459 ≤ n := Nat.and_le_left
  have b2 : n >>> 2 &&& 858993459 ≤ n := Nat.le_trans Nat.and_le_left (Nat.shiftRight_le n 2)
  unfold bc7 bn7
  rw [e1, e2]
  exact wadd_n (by omega)
theorem bc10_n {n : Nat} (h : n < 1000000000) : bc10 (n : Int) = (bn10 n : Int) := by
  have b2 : n >>> 4 ≤ n := Nat.shiftRight_le n 4
  have e : wadd (n : Int) (iushr (n : Int) 4) = ((n + n >>> 4 : Nat) : Int) := by
    rw [show iushr (n : Int) 4 = ((n >>> 4 : Nat) : Int) from iushr_n (s := 4) (by omega) (by omega)]
    exact wadd_n (by omega)
  unfold bc10 bn10
  rw [e]
  exact iand_n (b := 252645135) (by omega) (by omega)
theorem bc12_n {n : Nat} (h : n < 1000000000) : bc12 (n : Int) = (bn12 n : Int) := by
  have b2 : n >>> 8 ≤ n := Nat.shiftRight_le n 8
  unfold bc12 bn12
  rw [show iushr (n : Int) 8 = ((n >>> 8 : Nat) : Int) from iushr_n (s := 8) (by omega) (by omega)]
  exact wadd_n (by omega)
theorem bc15_n {n : Nat} (h : n < 1000000000) : bc15 (n : Int) = (bn15 n : Int) := by
  have b2 : n >>> 16 ≤ n := Nat.shiftRight_le n 16
  have e : wadd (n : Int) (iushr (n : Int) 16) = ((n + n >>> 16 : Nat) : Int) := by
    rw [show iushr (n : Int) 16 = ((n >>> 16 : Nat) : Int) from iushr_n (s := 16) (by omega) (by omega)]
    exact wadd_n (by omega)
  unfold bc15 bn15
  rw [e]
  exact iand_n (b := 63) (by omega) (by omega)
theorem bcN_n {n : Nat} (h : n < 65536) : bc15 (bc12 (bc10 (bc7 (bc3 (n : Int))))) = (bcN n : Int) := by
  have h3 : bn3 n ≤ n := Nat.sub_le _ _
  have h7 : bn7 (bn3 n) ≤ 2 * bn3 n := by
    have b1 : bn3 n &&& 858993459 ≤ bn3 n := Nat.and_le_left
    have b2 : bn3 n >>> 2 &&& 858993459 ≤ bn3 n := Nat.le_trans Nat.and_le_left (Nat.shiftRight_le _ 2)
    show (bn3 n &&& 858993459) + (bn3 n >>> 2 &&& 858993459) ≤ _
    omega
  have h10 : bn10 (bn7 (bn3 n)) ≤ 2 * bn7 (bn3 n) := by
    have b1 : (bn7 (bn3 n) + bn7 (bn3 n) >>> 4) &&& 252645135 ≤ bn7 (bn3 n) + bn7 (bn3 n) >>> 4 := Nat.and_le_left
    have b2 : bn7 (bn3 n) >>> 4 ≤ bn7 (bn3 n) := Nat.shiftRight_le _ 4
    show (bn7 (bn3 n) + bn7 (bn3 n) >>> 4) &&& 252645135 ≤ _
    omega
  have h12 : bn12 (bn10 (bn7 (bn3 n))) ≤ 2 * bn10 (bn7 (bn3 n)) := by
    have b2 : bn10 (bn7 (bn3 n)) >>> 8 ≤ bn10 (bn7 (bn3 n)) := Nat.shiftRight_le _ 8
    show bn10 (bn7 (bn3 n)) + bn10 (bn7 (bn3 n)) >>> 8 ≤ _
    omega
  rw [bc3_n (by omega), bc7_n (by omega), bc10_n (by omega), bc12_n (by omega), bc15_n (by omega)]
  rfl
theorem bcN_c : (List.range 256).all (fun a => (List.range 128).all (fun b => Nat.beq (bcN (2 * (128 * a + b))) (bcN (128 * a + b)) && Nat.beq (bcN (2 * (128 * a + b) + 1)) (bcN (128 * a + b) + 1))) = true := by decide +kernel
theorem bcN_s {m : Nat} (h : m < 32768) : bcN (2 * m) = bcN m ∧ bcN (2 * m + 1) = bcN m + 1 := by
  have a1 := List.all_eq_true.mp bcN_c (m / 128) (List.mem_range.mpr (by omega))
  have a2 : (Nat.beq (bcN (2 * (128 * (m / 128) + m % 128))) (bcN (128 * (m / 128) + m % 128)) && Nat.beq (bcN (2 * (128 * (m / 128) + m % 128) + 1)) (bcN (128 * (m / 128) + m % 128) + 1)) = true := List.all_eq_true.mp a1 (m % 128) (List.mem_range.mpr (by omega))
  rw [show 128 * (m / 128) + m % 128 = m by omega, Bool.and_eq_true] at a2
  exact ⟨Nat.eq_of_beq_eq_true a2.1, Nat.eq_of_beq_eq_true a2.2⟩
theorem bitn {n : Nat} (h : n < 4294967296) (k : Nat) : bit (n : Int) (k : Int) = Nat.testBit n k := by
  unfold bit
  rw [← BitVec.testBit_toNat, nO n h, Int.toNat_natCast]
theorem cnt_half {n : Nat} (h : n < 4294967296) : ∀ k : Nat, cnt (n : Int) (k + 1) = ((n % 2 : Nat) : Int) + cnt ((n / 2 : Nat) : Int) k := by
  intro k
  induction k with
  | zero =>
    show cnt (n : Int) 0 + (if bit (n : Int) ((0 : Nat) : Int) = true then 1 else 0) = _ + cnt _ 0
    rw [bitn h 0, Nat.testBit_zero]
    show (0 : Int) + _ = _ + 0
    by_cases e : n % 2 = 1
    · rw [if_pos (by rw [e]; rfl)]
      omega
    · rw [if_neg (by rw [decide_eq_true_eq]; exact e)]
      omega
  | succ k ih =>
    show cnt (n : Int) (k + 1) + (if bit (n : Int) ((k + 1 : Nat) : Int) = true then 1 else 0) = _ + (cnt _ k + (if bit _ (k : Int) = true then 1 else 0))
    rw [ih, bitn h (k + 1), bitn (by omega) k, Nat.testBit_succ]
    exact Int.add_assoc _ _ _
theorem cnt_bcN : ∀ k : Nat, k ≤ 16 → ∀ n : Nat, n < 2 ^ k → cnt (n : Int) k = (bcN n : Int) := by
  intro k
  induction k with
  | zero =>
    intro _ n hn
    have : n = 0 := by
      have : (2 : Nat) ^ 0 = 1 := rfl
      omega
    subst this
    have z : bcN 0 = 0 := by decide +kernel
    rw [z]; rfl
  | succ k ih =>
    intro hk n hn
    have p1 : 2 ^ (k + 1) = 2 * 2 ^ k := by rw [Nat.pow_succ]; omega
    have p2 : 2 ^ k ≤ 32768 := Nat.le_trans (Nat.pow_le_pow_right (show 0 < 2 by omega) (show k ≤ 15 by omega)) (by decide)
    have i := ih (by omega) (n / 2) (by omega)
    have s := bcN_s (m := n / 2) (by omega)
    rw [cnt_half (by omega), i]
    by_cases e : n % 2 = 1
    · have : bcN n = bcN (n / 2) + 1 := by
        have q := s.2
        rwa [show 2 * (n / 2) + 1 = n by omega] at q
      omega
    · have : bcN n = bcN (n / 2) := by
        have q := s.1
        rwa [show 2 * (n / 2) = n by omega] at q
      omega
theorem so_bitCount16 {x : Int} {Q : Int → Prop} (hx : 0 ≤ x ∧ x < 65536) (h : Q (cnt x 16)) : nf_bitCount x Q := by
  obtain ⟨n, rfl⟩ : ∃ n : Nat, x = (n : Int) := ⟨x.toNat, by omega⟩
  have a1 : bc15 (bc12 (bc10 (bc7 (bc3 (n : Int))))) = cnt (n : Int) 16 := by
    rw [bcN_n (by omega), cnt_bcN 16 (Nat.le_refl _) n (by show n < 65536; omega)]
  unfold nf_bitCount
  simp only [ci_m1, ci_m10, ci_m1001, ci_m1002, ci_m1003, ci_m1004, ci_0, ci_1, ci_10, ci_100, ci_1000, ci_10000, ci_101, ci_103, ci_104, ci_105, ci_107, ci_108, ci_110, ci_111, ci_114, ci_115, ci_116, ci_118, ci_119, ci_12, ci_122, ci_1431655765, ci_15, ci_16, ci_2, ci_20, ci_23, ci_24, ci_240, ci_252645135, ci_255, ci_256, ci_3, ci_32, ci_4, ci_420, ci_48, ci_5, ci_5040, ci_57, ci_59, ci_6, ci_60, ci_63, ci_64, ci_7, ci_70, ci_8, ci_858993459, ci_9, ci_900, ci_97, ci_99, ci_999, ci_9999, cl_0, cl_1, cl_10, cl_1000000000000, cl_122, cl_2, cl_2000000000000, cl_23, cl_255, cl_27, cl_3, cl_4, cl_48, cl_57, cl_6, cl_8, cl_96, cl_97, cl_99, cl_999, cl_9999, wL]
  rw [← a1] at h
  exact h
/-! the next row, as a function -/
/-- the last place below n whose entry isn't over the next one's -/
def fi (a : Int → Int) : Nat → Int
  | 0 => -1
  | n + 1 => if a (n : Int) ≤ a ((n : Int) + 1) then (n : Int) else fi a n
/-- the last place below n whose entry is not under v -/
def fj (a : Int → Int) (v : Int) : Nat → Int
  | 0 => -1
  | n + 1 => if v ≤ a (n : Int) then (n : Int) else fj a v n
def swp (a : Int → Int) (x y : Int) : Int → Int := ups (ups a x (a y)) y (a x)
def rvs (a : Int → Int) (n i : Int) : Int → Int := fun k => if i < k ∧ k < n then a (n + i - k) else a k
def nxI (a : Int → Int) (n : Int) : Int := fi a (n - 1).toNat
def nxJ (a : Int → Int) (n : Int) : Int := fj a (a (nxI a n)) n.toNat
def nxt (n : Int) (a : Int → Int) : Int → Int := rvs (swp a (nxI a n) (nxJ a n)) n (nxI a n)
theorem fi_b (a : Int → Int) : ∀ n : Nat, -1 ≤ fi a n ∧ fi a n < n := by
  intro n
  induction n with
  | zero => exact ⟨by show (-1 : Int) ≤ -1; omega, by show (-1 : Int) < 0; omega⟩
  | succ n ih =>
    have e : fi a (n + 1) = if a (n : Int) ≤ a ((n : Int) + 1) then (n : Int) else fi a n := rfl
    rw [e]
    split <;> omega
theorem fi_le {a : Int → Int} : ∀ n : Nat, 0 ≤ fi a n → a (fi a n) ≤ a (fi a n + 1) := by
  intro n
  induction n with
  | zero => intro h; exact absurd h (by show ¬ (0 : Int) ≤ -1; omega)
  | succ n ih =>
    show 0 ≤ (if a (n : Int) ≤ a ((n : Int) + 1) then (n : Int) else fi a n) → a (if a (n : Int) ≤ a ((n : Int) + 1) then (n : Int) else fi a n) ≤ a ((if a (n : Int) ≤ a ((n : Int) + 1) then (n : Int) else fi a n) + 1)
    by_cases e : a (n : Int) ≤ a ((n : Int) + 1)
    · rw [if_pos e]; intro _; exact e
    · rw [if_neg e]; exact ih
theorem fi_c {a b : Int → Int} : ∀ n : Nat, (∀ k : Int, 0 ≤ k → k ≤ n → a k = b k) → fi a n = fi b n := by
  intro n
  induction n with
  | zero => intro _; rfl
  | succ n ih =>
    intro h
    show (if a (n : Int) ≤ a ((n : Int) + 1) then (n : Int) else fi a n) = (if b (n : Int) ≤ b ((n : Int) + 1) then (n : Int) else fi b n)
    rw [ih (fun k k0 k1 => h k k0 (by omega)), h (n : Int) (by omega) (by omega), h ((n : Int) + 1) (by omega) (by omega)]
theorem fj_b (a : Int → Int) (v : Int) : ∀ n : Nat, -1 ≤ fj a v n ∧ fj a v n < n := by
  intro n
  induction n with
  | zero => exact ⟨by show (-1 : Int) ≤ -1; omega, by show (-1 : Int) < 0; omega⟩
  | succ n ih =>
    have e : fj a v (n + 1) = if v ≤ a (n : Int) then (n : Int) else fj a v n := rfl
    rw [e]
    split <;> omega
theorem fj_v {a : Int → Int} {v : Int} : ∀ n : Nat, 0 ≤ fj a v n → v ≤ a (fj a v n) := by
  intro n
  induction n with
  | zero => intro h; exact absurd h (by show ¬ (0 : Int) ≤ -1; omega)
  | succ n ih =>
    show 0 ≤ (if v ≤ a (n : Int) then (n : Int) else fj a v n) → v ≤ a (if v ≤ a (n : Int) then (n : Int) else fj a v n)
    by_cases e : v ≤ a (n : Int)
    · rw [if_pos e]; intro _; exact e
    · rw [if_neg e]; exact ih
theorem fj_g {a : Int → Int} {v : Int} {m : Int} (m0 : 0 ≤ m) (hv : v ≤ a m) : ∀ n : Nat, m < n → m ≤ fj a v n := by
  intro n
  induction n with
  | zero => intro h; omega
  | succ n ih =>
    intro h
    show m ≤ (if v ≤ a (n : Int) then (n : Int) else fj a v n)
    by_cases e : v ≤ a (n : Int)
    · rw [if_pos e]; omega
    · rw [if_neg e]
      refine ih ?_
      rcases Int.lt_or_le m n with q | q
      · exact q
      · have : m = n := by omega
        subst this; exact absurd hv e
theorem fj_c {a b : Int → Int} {v : Int} : ∀ n : Nat, (∀ k : Int, 0 ≤ k → k < n → a k = b k) → fj a v n = fj b v n := by
  intro n
  induction n with
  | zero => intro _; rfl
  | succ n ih =>
    intro h
    show (if v ≤ a (n : Int) then (n : Int) else fj a v n) = (if v ≤ b (n : Int) then (n : Int) else fj b v n)
    rw [ih (fun k k0 k1 => h k k0 (by omega)), h (n : Int) (by omega) (by omega)]
theorem nxIJ {a : Int → Int} {n : Int} (hn : 0 ≤ n) (h : 0 ≤ nxI a n) : nxI a n + 1 < n ∧ nxI a n < nxJ a n ∧ nxJ a n < n ∧ a (nxI a n) ≤ a (nxJ a n) := by
  have b := fi_b a (n - 1).toNat
  have l := fi_le (a := a) (n - 1).toNat h
  have i1 : nxI a n + 1 < n := by unfold nxI at h ⊢; omega
  have g : nxI a n + 1 ≤ nxJ a n := fj_g (m := nxI a n + 1) (by omega) l n.toNat (by omega)
  have b2 := fj_b a (a (nxI a n)) n.toNat
  have j0 : 0 ≤ nxJ a n := by omega
  have j1 : nxJ a n < n := by unfold nxJ; omega
  exact ⟨i1, by omega, j1, fj_v n.toNat j0⟩
theorem nxI_c {n : Int} {a b : Int → Int} (h : ∀ k, 0 ≤ k → k < n → a k = b k) : nxI a n = nxI b n := by
  unfold nxI
  by_cases e : 1 ≤ n
  · exact fi_c _ (fun k k0 k1 => h k k0 (by omega))
  · have z : (n - 1).toNat = 0 := by omega
    rw [z]; rfl
theorem nxJ_c {n : Int} {a b : Int → Int} (h : ∀ k, 0 ≤ k → k < n → a k = b k) (hi : 0 ≤ nxI a n) (hn : 0 ≤ n) : nxJ a n = nxJ b n := by
  have q := nxIJ hn hi
  unfold nxJ
  rw [← nxI_c h, ← h (nxI a n) hi (by omega)]
  exact fj_c _ (fun k k0 k1 => h k k0 (by omega))
theorem swp_c {n x y : Int} {a b : Int → Int} (hx : 0 ≤ x ∧ x < n) (hy : 0 ≤ y ∧ y < n) (h : ∀ k, 0 ≤ k → k < n → a k = b k) : ∀ k, 0 ≤ k → k < n → swp a x y k = swp b x y k := fun k k0 k1 => by
  unfold swp
  rw [sw_at, sw_at, h x hx.1 hx.2, h y hy.1 hy.2, h k k0 k1]
theorem rvs_c {n i : Int} {a b : Int → Int} (hi : 0 ≤ i) (h : ∀ k, 0 ≤ k → k < n → a k = b k) : ∀ k, 0 ≤ k → k < n → rvs a n i k = rvs b n i k := fun k k0 k1 => by
  unfold rvs
  by_cases e : i < k ∧ k < n
  · rw [if_pos e, if_pos e]; exact h _ (by omega) (by omega)
  · rw [if_neg e, if_neg e]; exact h k k0 k1
theorem nxt_c {n : Int} {a b : Int → Int} (hn : 0 ≤ n) (h : ∀ k, 0 ≤ k → k < n → a k = b k) (hi : 0 ≤ nxI a n) : ∀ k, 0 ≤ k → k < n → nxt n a k = nxt n b k := by
  have q := nxIJ hn hi
  have e1 := nxI_c h
  have e2 := nxJ_c h hi hn
  unfold nxt
  rw [← e1, ← e2]
  exact rvs_c hi (swp_c ⟨hi, by omega⟩ ⟨by omega, by omega⟩ h)
theorem so_swap {a b : Int} {rw : Int → Int} {Q : (Int → Int) → Prop} (ha : 0 ≤ a ∧ a < 16) (hb : 0 ≤ b ∧ b < 16) (h : Q (swp rw a b)) : nf_Rush_swap rw a b Q := by
  unfold nf_Rush_swap
  simp only [ci_m1, ci_m10, ci_m1001, ci_m1002, ci_m1003, ci_m1004, ci_0, ci_1, ci_10, ci_100, ci_1000, ci_10000, ci_101, ci_103, ci_104, ci_105, ci_107, ci_108, ci_110, ci_111, ci_114, ci_115, ci_116, ci_118, ci_119, ci_12, ci_122, ci_1431655765, ci_15, ci_16, ci_2, ci_20, ci_23, ci_24, ci_240, ci_252645135, ci_255, ci_256, ci_3, ci_32, ci_4, ci_420, ci_48, ci_5, ci_5040, ci_57, ci_59, ci_6, ci_60, ci_63, ci_64, ci_7, ci_70, ci_8, ci_858993459, ci_9, ci_900, ci_97, ci_99, ci_999, ci_9999, cl_0, cl_1, cl_10, cl_1000000000000, cl_122, cl_2, cl_2000000000000, cl_23, cl_255, cl_27, cl_3, cl_4, cl_48, cl_57, cl_6, cl_8, cl_96, cl_97, cl_99, cl_999, cl_9999]
  exact sp_within (cB_t ⟨ha.1, by omega⟩ (cB_f (by decide) (sp_within (cB_t ⟨hb.1, by omega⟩ (cB_f (by decide) (wO_i (by simp only [inb]; omega) (wO_i (by simp only [inb]; omega) (wO_i (by simp only [inb]; omega) (wO_i (by simp only [inb]; omega) h)))))))))
/-- what the turning round has done when it stands at lo, hi -/
def rvP (a z : Int → Int) (n i lo hi : Int) : Prop := ∀ k, 0 ≤ k → k < n → z k = if (i < k ∧ k < lo) ∨ (hi < k ∧ k < n) then a (n + i - k) else a k
theorem rvP_s {a z : Int → Int} {n i lo hi : Int} (h : rvP a z n i lo hi) (h1 : i < lo) (h2 : lo < hi) (h3 : lo + hi = n + i) (hi0 : 0 ≤ i) : rvP a (swp z lo hi) n i (lo + 1) (hi + -1) := fun k k0 k1 => by
  unfold swp
  rw [sw_at]
  have el := h lo (by omega) (by omega)
  have eh := h hi (by omega) (by omega)
  rw [if_neg (by omega)] at el eh
  by_cases e1 : k = hi
  · rw [if_pos e1, if_pos (by omega), el, e1, show n + i - hi = lo by omega]
  · rw [if_neg e1]
    by_cases e2 : k = lo
    · rw [if_pos e2, if_pos (by omega), eh, e2, show n + i - lo = hi by omega]
    · rw [if_neg e2, h k k0 k1]
      by_cases e3 : (i < k ∧ k < lo) ∨ (hi < k ∧ k < n)
      · rw [if_pos e3, if_pos (by omega)]
      · rw [if_neg e3, if_neg (by omega)]
theorem rvP_e {a z : Int → Int} {n i lo hi : Int} (h : rvP a z n i lo hi) (h2 : hi ≤ lo) (h3 : lo + hi = n + i) (h4 : lo ≤ hi + 2) (h5 : i + 2 ≤ n) : ∀ k, 0 ≤ k → k < n → z k = rvs a n i k := fun k k0 k1 => by
  rw [h k k0 k1]
  unfold rvs
  by_cases e : i < k ∧ k < n
  · rw [if_pos e]
    by_cases e2 : (i < k ∧ k < lo) ∨ (hi < k ∧ k < n)
    · rw [if_pos e2]
    · rw [if_neg e2, show n + i - k = k by omega]
  · rw [if_neg e, if_neg (by omega)]
theorem so_toNextRow {n : Int} {rw : Int → Int} {Q : Int → (Int → Int) → Prop} (hn : 0 ≤ n ∧ n ≤ 16) (h0 : nxI rw n < 0 → Q (-1) rw) (h : 0 ≤ nxI rw n → ∀ z, (∀ k, 0 ≤ k → k < n → z k = nxt n rw k) → Q (nxI rw n) z) : nf_Rush_toNextRow n rw Q := by
  unfold nf_Rush_toNextRow
  simp only [ci_m1, ci_m10, ci_m1001, ci_m1002, ci_m1003, ci_m1004, ci_0, ci_1, ci_10, ci_100, ci_1000, ci_10000, ci_101, ci_103, ci_104, ci_105, ci_107, ci_108, ci_110, ci_111, ci_114, ci_115, ci_116, ci_118, ci_119, ci_12, ci_122, ci_1431655765, ci_15, ci_16, ci_2, ci_20, ci_23, ci_24, ci_240, ci_252645135, ci_255, ci_256, ci_3, ci_32, ci_4, ci_420, ci_48, ci_5, ci_5040, ci_57, ci_59, ci_6, ci_60, ci_63, ci_64, ci_7, ci_70, ci_8, ci_858993459, ci_9, ci_900, ci_97, ci_99, ci_999, ci_9999, cl_0, cl_1, cl_10, cl_1000000000000, cl_122, cl_2, cl_2000000000000, cl_23, cl_255, cl_27, cl_3, cl_4, cl_48, cl_57, cl_6, cl_8, cl_96, cl_97, cl_99, cl_999, cl_9999]
  refine wO_i (by simp only [iR]; omega) ?_
  refine nlp1_i (fun i => -2 ≤ i ∧ i ≤ n - 2 ∧ nxI rw n = fi rw (i + 1).toNat) (fun i => (i + 2).toNat) ?_ ⟨by omega, by omega, by unfold nxI; rw [show n - 2 + 1 = n - 1 by omega]⟩
  intro i hi self hself
  obtain ⟨i1, i2, i3⟩ := hi
  refine jn0_s (nxI rw n = if i < 0 then -1 else i) (fun hle => ?_) ?_
  · refine cB_i (fun e => wO_i (by simp only [iR]; omega) ?_) (fun e => h0 (by rw [hle, if_pos (by omega)]; omega))
    rw [if_neg (by omega)] at hle
    have hle0 : 0 ≤ nxI rw n := by omega
    have q := nxIJ hn.1 hle0
    refine nlp1_i (fun j => i < j ∧ j ≤ n - 1 ∧ nxJ rw n = fj rw (rw i) (j + 1).toNat) (fun j => (j - i).toNat) ?_ ⟨by omega, by omega, by unfold nxJ; rw [hle, show n - 1 + 1 = n by omega]⟩
    intro j hj self2 hself2
    obtain ⟨j1, j2, j3⟩ := hj
    have js : nxJ rw n = if rw i ≤ rw j then j else fj rw (rw i) j.toNat := by
      rw [j3, show (j + 1).toNat = j.toNat + 1 by omega]
      show (if rw i ≤ rw ((j.toNat : Nat) : Int) then ((j.toNat : Nat) : Int) else fj rw (rw i) j.toNat) = _
      rw [Int.toNat_of_nonneg (by omega)]
    refine jn0_s (nxJ rw n = j) (fun ej => so_swap ⟨e, by omega⟩ ⟨by omega, by omega⟩ (wO_i (by simp only [iR]; omega) (wO_i (by simp only [iR]; omega) ?_))) ?_
    · refine nlp3_i (fun (lo hh : Int) (z : Int → Int) => i < lo ∧ lo + hh = n + i ∧ hh ≤ n - 1 ∧ lo ≤ hh + 2 ∧ rvP (swp rw i j) z n i lo hh) (fun lo hh _ => (hh - lo).toNat) ?_ ⟨by omega, by omega, by omega, by omega, fun k k0 k1 => by rw [if_neg (by omega)]⟩
      intro lo hh z hz self3 hself3
      obtain ⟨z1, z2, z3, z4, z5⟩ := hz
      refine cB_i (fun e3 => ?_) (fun e3 => so_swap ⟨by omega, by omega⟩ ⟨by omega, by omega⟩ (wO_i (by simp only [iR]; omega) (wO_i (by simp only [iR]; omega) (hself3 _ _ _ ⟨by omega, by omega, by omega, by omega, rvP_s z5 z1 (by omega) z2 e⟩ (by omega)))))
      have g := h hle0 z (fun k k0 k1 => by
        rw [rvP_e z5 e3 z2 z4 (by omega) k k0 k1]
        unfold nxt
        rw [hle, ej])
      rwa [hle] at g
    · refine cB_i (fun e2 => by omega) (fun e2 => wO_i (by simp only [inb]; omega) (wO_i (by simp only [inb]; omega) (cB_i (fun e3 => by rw [js, if_pos e3]) (fun e3 => wO_i (by simp only [iR]; omega) (hself2 _ ⟨?_, by omega, ?_⟩ ?_)))))
      · rw [if_neg e3] at js
        have b := fj_b rw (rw i) j.toNat
        omega
      · rw [js, if_neg e3, show j + -1 + 1 = j by omega]
      · omega
  · refine cB_i (fun e => ?_) (fun e => wO_i (by simp only [inb]; omega) (wO_i (by simp only [iR]; omega) (wO_i (by simp only [inb]; omega) (cB_i (fun e2 => ?_) (fun e2 => wO_i (by simp only [iR]; omega) (hself _ ⟨by omega, by omega, ?_⟩ (by omega)))))))
    · rw [if_pos e, i3, show (i + 1).toNat = 0 by omega]; rfl
    · rw [if_neg e, i3, show (i + 1).toNat = i.toNat + 1 by omega]
      show (if rw ((i.toNat : Nat) : Int) ≤ rw (((i.toNat : Nat) : Int) + 1) then ((i.toNat : Nat) : Int) else fi rw i.toNat) = _
      rw [Int.toNat_of_nonneg (by omega), if_pos e2]
    · rw [i3, show (i + 1).toNat = i.toNat + 1 by omega, show (i + -1 + 1).toNat = i.toNat by omega]
      show (if rw ((i.toNat : Nat) : Int) ≤ rw (((i.toNat : Nat) : Int) + 1) then ((i.toNat : Nat) : Int) else fi rw i.toNat) = _
      rw [Int.toNat_of_nonneg (by omega), if_neg e2]
theorem sm_nextRow {n : Int} {rw : Int → Int} {Q : Int → (Int → Int) → Prop} (hn : 0 ≤ n ∧ n ≤ 16) (h0 : nxI rw n < 0 → Q 0 rw) (h : 0 ≤ nxI rw n → ∀ z, (∀ k, 0 ≤ k → k < n → z k = nxt n rw k) → Q 1 z) : nf_M_nextRow n rw Q := by
  unfold nf_M_nextRow
  simp only [ci_m1, ci_m10, ci_m1001, ci_m1002, ci_m1003, ci_m1004, ci_0, ci_1, ci_10, ci_100, ci_1000, ci_10000, ci_101, ci_103, ci_104, ci_105, ci_107, ci_108, ci_110, ci_111, ci_114, ci_115, ci_116, ci_118, ci_119, ci_12, ci_122, ci_1431655765, ci_15, ci_16, ci_2, ci_20, ci_23, ci_24, ci_240, ci_252645135, ci_255, ci_256, ci_3, ci_32, ci_4, ci_420, ci_48, ci_5, ci_5040, ci_57, ci_59, ci_6, ci_60, ci_63, ci_64, ci_7, ci_70, ci_8, ci_858993459, ci_9, ci_900, ci_97, ci_99, ci_999, ci_9999, cl_0, cl_1, cl_10, cl_1000000000000, cl_122, cl_2, cl_2000000000000, cl_23, cl_255, cl_27, cl_3, cl_4, cl_48, cl_57, cl_6, cl_8, cl_96, cl_97, cl_99, cl_999, cl_9999]
  refine wO_i (by simp only [iR]; omega) ?_
  refine nlp1_i (fun i => -2 ≤ i ∧ i ≤ n - 2 ∧ nxI rw n = fi rw (i + 1).toNat) (fun i => (i + 2).toNat) ?_ ⟨by omega, by omega, by unfold nxI; rw [show n - 2 + 1 = n - 1 by omega]⟩
  intro i hi self hself
  obtain ⟨i1, i2, i3⟩ := hi
  refine jn0_s (nxI rw n = if i < 0 then -1 else i) (fun hle => ?_) ?_
  · refine cB_i (fun e => wO_i (by simp only [iR]; omega) ?_) (fun e => h0 (by rw [hle, if_pos (by omega)]; omega))
    rw [if_neg (by omega)] at hle
    have hle0 : 0 ≤ nxI rw n := by omega
    have q := nxIJ hn.1 hle0
    refine nlp1_i (fun j => i < j ∧ j ≤ n - 1 ∧ nxJ rw n = fj rw (rw i) (j + 1).toNat) (fun j => (j - i).toNat) ?_ ⟨by omega, by omega, by unfold nxJ; rw [hle, show n - 1 + 1 = n by omega]⟩
    intro j hj self2 hself2
    obtain ⟨j1, j2, j3⟩ := hj
    have js : nxJ rw n = if rw i ≤ rw j then j else fj rw (rw i) j.toNat := by
      rw [j3, show (j + 1).toNat = j.toNat + 1 by omega]
      show (if rw i ≤ rw ((j.toNat : Nat) : Int) then ((j.toNat : Nat) : Int) else fj rw (rw i) j.toNat) = _
      rw [Int.toNat_of_nonneg (by omega)]
    refine wO_i (by simp only [inb]; omega) (wO_i (by simp only [inb]; omega) (cB_i (fun e3 => ?_) (fun e3 => wO_i (by simp only [iR]; omega) (hself2 _ ⟨?_, by omega, ?_⟩ ?_))))
    · rw [if_pos e3] at js
      refine wO_i (by simp only [inb]; omega) (wO_i (by simp only [inb]; omega) (wO_i (by simp only [inb]; omega) (wO_i (by simp only [inb]; omega) (wO_i (by simp only [iR]; omega) (wO_i (by simp only [iR]; omega) ?_)))))
      refine nlp3_i (fun (lo hh : Int) (z : Int → Int) => i < lo ∧ lo + hh = n + i ∧ hh ≤ n - 1 ∧ lo ≤ hh + 2 ∧ rvP (swp rw i j) z n i lo hh) (fun lo hh _ => (hh - lo).toNat) ?_ ⟨by omega, by omega, by omega, by omega, fun k k0 k1 => by rw [if_neg (by omega)]; rfl⟩
      intro lo hh z hz self3 hself3
      obtain ⟨z1, z2, z3, z4, z5⟩ := hz
      refine cB_i (fun e4 => ?_) (fun e4 => wO_i (by simp only [inb]; omega) (wO_i (by simp only [inb]; omega) (wO_i (by simp only [inb]; omega) (wO_i (by simp only [inb]; omega) (wO_i (by simp only [iR]; omega) (wO_i (by simp only [iR]; omega) (hself3 _ _ _ ⟨by omega, by omega, by omega, by omega, rvP_s z5 z1 (by omega) z2 e⟩ (by omega))))))))
      exact h hle0 z (fun k k0 k1 => by
        rw [rvP_e z5 e4 z2 z4 (by omega) k k0 k1]
        unfold nxt
        rw [hle, js])
    · rw [if_neg e3] at js
      have b := fj_b rw (rw i) j.toNat
      omega
    · rw [js, if_neg e3, show j + -1 + 1 = j by omega]
    · omega
  · refine cB_i (fun e => ?_) (fun e => wO_i (by simp only [inb]; omega) (wO_i (by simp only [iR]; omega) (wO_i (by simp only [inb]; omega) (cB_i (fun e2 => ?_) (fun e2 => wO_i (by simp only [iR]; omega) (hself _ ⟨by omega, by omega, ?_⟩ (by omega)))))))
    · rw [if_pos e, i3, show (i + 1).toNat = 0 by omega]; rfl
    · rw [if_neg e, i3, show (i + 1).toNat = i.toNat + 1 by omega]
      show (if rw ((i.toNat : Nat) : Int) ≤ rw (((i.toNat : Nat) : Int) + 1) then ((i.toNat : Nat) : Int) else fi rw i.toNat) = _
      rw [Int.toNat_of_nonneg (by omega), if_pos e2]
    · rw [i3, show (i + 1).toNat = i.toNat + 1 by omega, show (i + -1 + 1).toNat = i.toNat by omega]
      show (if rw ((i.toNat : Nat) : Int) ≤ rw (((i.toNat : Nat) : Int) + 1) then ((i.toNat : Nat) : Int) else fi rw i.toNat) = _
      rw [Int.toNat_of_nonneg (by omega), if_neg e2]
/-! no more than n! rows: the place of a row among all -/
def fac : Nat → Int
  | 0 => 1
  | n + 1 => ((n : Int) + 1) * fac n
theorem fac_p : ∀ n : Nat, 1 ≤ fac n := by
  intro n
  induction n with
  | zero => exact Int.le_refl _
  | succ n ih =>
    show 1 ≤ ((n : Int) + 1) * fac n
    have : 1 * fac n ≤ ((n : Int) + 1) * fac n := Int.mul_le_mul_of_nonneg_right (by omega) (by omega)
    omega
theorem fac_m : ∀ n : Nat, n ≤ 7 → fac n ≤ 5040 := by
  intro n hn
  have : ∀ k : Nat, k < 8 → fac k ≤ 5040 := by decide
  exact this n (by omega)
def cb (a : Int → Int) (n : Nat) (lo v : Int) : Int := sumN (fun p => if lo < p then (if a p < v then 1 else 0) else 0) n
theorem cb_b (a : Int → Int) (lo : Nat) (v : Int) : ∀ n : Nat, lo < n → 0 ≤ cb a n lo v ∧ cb a n lo v ≤ (n : Int) - 1 - lo := by
  intro n
  induction n with
  | zero => intro h; omega
  | succ n ih =>
    intro h
    have st : cb a (n + 1) lo v = cb a n lo v + (if (lo : Int) < (n : Int) then (if a n < v then 1 else 0) else 0) := rfl
    rw [st]
    by_cases e : lo = n
    · have z : cb a n lo v = 0 := sumN_0 n (fun k hk => if_neg (by omega))
      rw [z, if_neg (by omega)]
      omega
    · have i := ih (by omega)
      rw [if_pos (show (lo : Int) < (n : Int) by omega)]
      split <;> omega
theorem cb_m {a : Int → Int} {lo v v' : Int} (h : v ≤ v') : ∀ n : Nat, cb a n lo v ≤ cb a n lo v' := by
  intro n
  induction n with
  | zero => exact Int.le_refl _
  | succ n ih =>
    show cb a n lo v + (if lo < (n : Int) then (if a n < v then 1 else 0) else 0) ≤ cb a n lo v' + (if lo < (n : Int) then (if a n < v' then 1 else 0) else 0)
    by_cases e : lo < (n : Int)
    · rw [if_pos e, if_pos e]
      by_cases e1 : a n < v
      · rw [if_pos e1, if_pos (by omega)]; omega
      · rw [if_neg e1]; split <;> omega
    · rw [if_neg e, if_neg e]; omega
def rk (a : Int → Int) (n : Nat) : Nat → Int
  | 0 => 0
  | m + 1 => rk a n m + cb a n (m : Int) (a (m : Int)) * fac (n - 1 - m)
theorem rk_t (a : Int → Int) (n : Nat) : ∀ t : Nat, t ≤ n → 0 ≤ rk a n n - rk a n (n - t) ∧ rk a n n - rk a n (n - t) ≤ fac t - 1 := by
  intro t
  induction t with
  | zero =>
    intro _
    rw [Nat.sub_zero]
    show 0 ≤ _ ∧ _ ≤ (1 : Int) - 1
    omega
  | succ t ih =>
    intro ht
    have i := ih (by omega)
    have e : n - t = (n - (t + 1)) + 1 := by omega
    rw [e] at i
    have s : rk a n (n - (t + 1) + 1) = rk a n (n - (t + 1)) + cb a n ((n - (t + 1) : Nat) : Int) (a ((n - (t + 1) : Nat) : Int)) * fac (n - 1 - (n - (t + 1))) := rfl
    rw [show n - 1 - (n - (t + 1)) = t by omega] at s
    have c := cb_b a (n - (t + 1)) (a ((n - (t + 1) : Nat) : Int)) n (by omega)
    have f := fac_p t
    have f2 : fac (t + 1) = ((t : Int) + 1) * fac t := rfl
    have f3 : ((t : Int) + 1) * fac t = (t : Int) * fac t + fac t := by rw [Int.add_mul, Int.one_mul]
    have m1 : cb a n ((n - (t + 1) : Nat) : Int) (a ((n - (t + 1) : Nat) : Int)) * fac t ≤ (t : Int) * fac t := Int.mul_le_mul_of_nonneg_right (by omega) (by omega)
    have m0 : 0 ≤ cb a n ((n - (t + 1) : Nat) : Int) (a ((n - (t + 1) : Nat) : Int)) * fac t := Int.mul_nonneg c.1 (by omega)
    omega
/-! sums over rows that are turned -/
theorem sumN_split (f : Int → Int) (m : Nat) : ∀ t : Nat, sumN f (m + t) = sumN f m + sumN (fun k => f ((m : Int) + k)) t := by
  intro t
  induction t with
  | zero => show sumN f m = sumN f m + 0; omega
  | succ t ih =>
    show sumN f (m + t) + f ((m + t : Nat) : Int) = sumN f m + (sumN (fun k => f ((m : Int) + k)) t + f ((m : Int) + (t : Int)))
    rw [ih, show ((m + t : Nat) : Int) = (m : Int) + (t : Int) by omega]
    omega
theorem sumN_left (u : Int → Int) : ∀ t : Nat, sumN u (t + 1) = u 0 + sumN (fun k => u (k + 1)) t := by
  intro t
  induction t with
  | zero => show (0 : Int) + u ((0 : Nat) : Int) = u 0 + 0; show (0 : Int) + u 0 = u 0 + 0; omega
  | succ t ih =>
    show sumN u (t + 1) + u ((t + 1 : Nat) : Int) = u 0 + (sumN (fun k => u (k + 1)) t + u ((t : Int) + 1))
    rw [ih, show ((t + 1 : Nat) : Int) = (t : Int) + 1 by omega]
    omega
theorem sumN_rev : ∀ (t : Nat) (u : Int → Int), sumN (fun k => u ((t : Int) - 1 - k)) t = sumN u t := by
  intro t
  induction t with
  | zero => intro u; rfl
  | succ t ih =>
    intro u
    have i := ih (fun k => u (k + 1))
    rw [sumN_left u t, ← i]
    show sumN (fun k => u (((t + 1 : Nat) : Int) - 1 - k)) t + u (((t + 1 : Nat) : Int) - 1 - (t : Int)) = _
    rw [show ((t + 1 : Nat) : Int) - 1 - (t : Int) = 0 by omega, Int.add_comm]
    congr 1
    refine sumN_c t (fun k hk => ?_)
    show u (((t + 1 : Nat) : Int) - 1 - (k : Int)) = u ((t : Int) - 1 - (k : Int) + 1)
    rw [show ((t + 1 : Nat) : Int) - 1 - (k : Int) = (t : Int) - 1 - (k : Int) + 1 by omega]
theorem sum_rvs {s g : Int → Int} {n : Nat} {i lo : Int} (i0 : 0 ≤ i) (i1 : i < n) (hlo : lo ≤ i) : sumN (fun p => if lo < p then g (rvs s n i p) else 0) n = sumN (fun p => if lo < p then g (s p) else 0) n := by
  obtain ⟨m, rfl⟩ : ∃ m : Nat, i = (m : Int) := ⟨i.toNat, by omega⟩
  obtain ⟨t, rfl⟩ : ∃ t : Nat, n = (m + 1) + t := ⟨n - (m + 1), by omega⟩
  rw [sumN_split _ (m + 1) t, sumN_split _ (m + 1) t]
  congr 1
  · refine sumN_c _ (fun k hk => ?_)
    show (if lo < (k : Int) then g (rvs s _ _ k) else 0) = _
    unfold rvs
    rw [if_neg (show ¬ ((m : Int) < (k : Int) ∧ (k : Int) < ((m + 1 + t : Nat) : Int)) by omega)]
  · rw [← sumN_rev t (fun k => if lo < ((m + 1 : Nat) : Int) + k then g (s (((m + 1 : Nat) : Int) + k)) else 0)]
    refine sumN_c _ (fun k hk => ?_)
    show (if lo < ((m + 1 : Nat) : Int) + (k : Int) then g (rvs s _ _ _) else 0) = (if lo < ((m + 1 : Nat) : Int) + ((t : Int) - 1 - (k : Int)) then g (s (((m + 1 : Nat) : Int) + ((t : Int) - 1 - (k : Int)))) else 0)
    unfold rvs
    rw [if_pos (show lo < ((m + 1 : Nat) : Int) + (k : Int) by omega), if_pos (show lo < ((m + 1 : Nat) : Int) + ((t : Int) - 1 - (k : Int)) by omega), if_pos (show (m : Int) < ((m + 1 : Nat) : Int) + (k : Int) ∧ ((m + 1 : Nat) : Int) + (k : Int) < ((m + 1 + t : Nat) : Int) by omega), show ((m + 1 + t : Nat) : Int) + (m : Int) - (((m + 1 : Nat) : Int) + (k : Int)) = ((m + 1 : Nat) : Int) + ((t : Int) - 1 - (k : Int)) by omega]
theorem sum_ups {s g : Int → Int} {q v lo : Int} : ∀ n : Nat, sumN (fun p => if lo < p then g (ups s q v p) else 0) n = sumN (fun p => if lo < p then g (s p) else 0) n + (if 0 ≤ q ∧ q < n ∧ lo < q then g v - g (s q) else 0) := by
  intro n
  induction n with
  | zero =>
    rw [if_neg (by omega)]; rfl
  | succ n ih =>
    show sumN (fun p => if lo < p then g (ups s q v p) else 0) n + (if lo < (n : Int) then g (ups s q v n) else 0) = sumN (fun p => if lo < p then g (s p) else 0) n + (if lo < (n : Int) then g (s n) else 0) + _
    rw [ih]
    by_cases e : q = (n : Int)
    · subst e
      rw [ups_s, if_neg (show ¬ (0 ≤ (n : Int) ∧ (n : Int) < (n : Int) ∧ lo < (n : Int)) by omega)]
      by_cases e2 : lo < (n : Int)
      · rw [if_pos e2, if_pos e2, if_pos (by omega)]; omega
      · rw [if_neg e2, if_neg e2, if_neg (by omega)]
    · rw [ups_n (show (n : Int) ≠ q from fun w => e w.symm)]
      generalize (if lo < (n : Int) then g (s n) else 0) = Z
      by_cases e2 : 0 ≤ q ∧ q < (n : Int) ∧ lo < q
      · rw [if_pos e2, if_pos (show 0 ≤ q ∧ q < ((n + 1 : Nat) : Int) ∧ lo < q by omega)]; omega
      · rw [if_neg e2, if_neg (show ¬ (0 ≤ q ∧ q < ((n + 1 : Nat) : Int) ∧ lo < q) by omega)]; omega
theorem sum_swp {a g : Int → Int} {n : Nat} {i j lo : Int} (i0 : 0 ≤ i) (ij : i < j) (jn : j < n) : sumN (fun p => if lo < p then g (swp a i j p) else 0) n = sumN (fun p => if lo < p then g (a p) else 0) n + (if lo < i then 0 else if lo < j then g (a i) - g (a j) else 0) := by
  unfold swp
  rw [sum_ups n, sum_ups n, ups_n (show j ≠ i by omega)]
  by_cases e : lo < i
  · rw [if_pos (show 0 ≤ i ∧ i < (n : Int) ∧ lo < i by omega), if_pos (show 0 ≤ j ∧ j < (n : Int) ∧ lo < j by omega), if_pos e]; omega
  · rw [if_neg (show ¬ (0 ≤ i ∧ i < (n : Int) ∧ lo < i) by omega), if_neg e]
    by_cases e2 : lo < j
    · rw [if_pos (show 0 ≤ j ∧ j < (n : Int) ∧ lo < j by omega), if_pos e2]; omega
    · rw [if_neg (show ¬ (0 ≤ j ∧ j < (n : Int) ∧ lo < j) by omega), if_neg e2]; omega
theorem cb_nxt {a : Int → Int} {n : Nat} {lo v : Int} (hi : 0 ≤ nxI a n) (hlo : lo ≤ nxI a n) : cb (nxt n a) n lo v = cb a n lo v + (if lo < nxI a n then 0 else (if a (nxI a n) < v then 1 else 0) - (if a (nxJ a n) < v then 1 else 0)) := by
  have q := nxIJ (a := a) (n := n) (by omega) hi
  have e1 : cb (rvs (swp a (nxI a n) (nxJ a n)) n (nxI a n)) n lo v = cb (swp a (nxI a n) (nxJ a n)) n lo v := sum_rvs (s := swp a (nxI a n) (nxJ a n)) (g := fun z => if z < v then 1 else 0) (n := n) (i := nxI a n) (lo := lo) hi (by omega) hlo
  have e2 : cb (swp a (nxI a n) (nxJ a n)) n lo v = cb a n lo v + (if lo < nxI a n then 0 else if lo < nxJ a n then (if a (nxI a n) < v then 1 else 0) - (if a (nxJ a n) < v then 1 else 0) else 0) := sum_swp (a := a) (g := fun z => if z < v then 1 else 0) (n := n) (i := nxI a n) (j := nxJ a n) (lo := lo) hi q.2.1 q.2.2.1
  unfold nxt
  rw [e1, e2]
  by_cases e : lo < nxI a n
  · rw [if_pos e, if_pos e]
  · rw [if_neg e, if_neg e, if_pos (show lo < nxJ a n by omega)]
theorem nxt_lo {a : Int → Int} {n k : Int} (hn : 0 ≤ n) (hi : 0 ≤ nxI a n) (k1 : k < nxI a n) : nxt n a k = a k := by
  have q := nxIJ hn hi
  unfold nxt rvs
  rw [if_neg (by omega)]
  unfold swp
  rw [sw_at, if_neg (by omega), if_neg (by omega)]
theorem nxt_at {a : Int → Int} {n : Int} (hn : 0 ≤ n) (hi : 0 ≤ nxI a n) : nxt n a (nxI a n) = a (nxJ a n) := by
  have q := nxIJ hn hi
  unfold nxt rvs
  rw [if_neg (by omega)]
  unfold swp
  rw [sw_at, if_neg (by omega), if_pos rfl]
theorem rk_nxt {a : Int → Int} {n : Nat} (hd : rD n a) (hi : 0 ≤ nxI a n) : rk a n n + 1 ≤ rk (nxt n a) n n := by
  have q := nxIJ (a := a) (n := n) (by omega) hi
  have lo : ∀ m : Nat, (m : Int) ≤ nxI a n → rk (nxt n a) n m = rk a n m := by
    intro m
    induction m with
    | zero => intro _; rfl
    | succ m ih =>
      intro hm
      show rk (nxt n a) n m + cb (nxt n a) n (m : Int) (nxt n a (m : Int)) * fac (n - 1 - m) = rk a n m + cb a n (m : Int) (a (m : Int)) * fac (n - 1 - m)
      rw [ih (by omega), nxt_lo (by omega) hi (by omega), cb_nxt hi (by omega), if_pos (by omega), Int.add_zero]
  obtain ⟨i, ei⟩ : ∃ i : Nat, nxI a n = (i : Int) := ⟨(nxI a n).toNat, by omega⟩
  have l1 := lo i (by omega)
  have s1 : rk (nxt n a) n (i + 1) = rk (nxt n a) n i + cb (nxt n a) n (i : Int) (nxt n a (i : Int)) * fac (n - 1 - i) := rfl
  have s2 : rk a n (i + 1) = rk a n i + cb a n (i : Int) (a (i : Int)) * fac (n - 1 - i) := rfl
  have e1 : nxt n a (i : Int) = a (nxJ a n) := by rw [← ei]; exact nxt_at (by omega) hi
  have lt : a (i : Int) < a (nxJ a n) := by
    have := q.2.2.2
    rw [ei] at this
    have ne : a (i : Int) ≠ a (nxJ a n) := fun w => by
      have := hd (i : Int) (nxJ a n) (by omega) (by omega) (by omega) q.2.2.1 w
      omega
    omega
  have c1 := cb_nxt (a := a) (n := n) (lo := (i : Int)) (v := a (nxJ a n)) hi (by omega)
  rw [if_neg (by omega), ei, if_pos lt, if_neg (by omega)] at c1
  have c2 := cb_m (a := a) (lo := (i : Int)) (show a (i : Int) ≤ a (nxJ a n) by omega) n
  have f := fac_p (n - 1 - i)
  have m1 : (cb a n (i : Int) (a (i : Int)) + 1) * fac (n - 1 - i) ≤ cb (nxt n a) n (i : Int) (nxt n a (i : Int)) * fac (n - 1 - i) := Int.mul_le_mul_of_nonneg_right (by rw [e1, c1]; omega) (by omega)
  have m2 : (cb a n (i : Int) (a (i : Int)) + 1) * fac (n - 1 - i) = cb a n (i : Int) (a (i : Int)) * fac (n - 1 - i) + fac (n - 1 - i) := by rw [Int.add_mul, Int.one_mul]
  have t1 := rk_t a n (n - 1 - i) (by omega)
  have t2 := rk_t (nxt n a) n (n - 1 - i) (by omega)
  rw [show n - (n - 1 - i) = i + 1 by omega] at t1 t2
  omega
theorem rk_c {a b : Int → Int} {n : Nat} (h : ∀ k : Int, 0 ≤ k → k < n → a k = b k) : ∀ m : Nat, m ≤ n → rk a n m = rk b n m := by
  intro m
  induction m with
  | zero => intro _; rfl
  | succ m ih =>
    intro hm
    have e : cb a n (m : Int) (a (m : Int)) = cb b n (m : Int) (b (m : Int)) := by
      rw [h (m : Int) (by omega) (by omega)]
      exact sumN_c n (fun k hk => by rw [h (k : Int) (by omega) (by omega)])
    show rk a n m + cb a n (m : Int) (a (m : Int)) * fac (n - 1 - m) = rk b n m + cb b n (m : Int) (b (m : Int)) * fac (n - 1 - m)
    rw [ih (by omega), e]
theorem rvs_at {a : Int → Int} {n i k : Int} : rvs a n i k = a (if i < k ∧ k < n then n + i - k else k) := by
  unfold rvs
  split <;> rfl
theorem rD_nxt {n : Int} {a : Int → Int} (hn : 0 ≤ n) (hi : 0 ≤ nxI a n) (h : rD n a) : rD n (nxt n a) := by
  have q := nxIJ hn hi
  have h2 : rD n (swp a (nxI a n) (nxJ a n)) := rD_sw ⟨hi, by omega⟩ ⟨by omega, by omega⟩ h
  intro x y x0 x1 y0 y1 e
  unfold nxt at e
  rw [rvs_at, rvs_at] at e
  by_cases ex : nxI a n < x ∧ x < n <;> by_cases ey : nxI a n < y ∧ y < n
  · rw [if_pos ex, if_pos ey] at e
    have := h2 _ _ (by omega) (by omega) (by omega) (by omega) e
    omega
  · rw [if_pos ex, if_neg ey] at e
    have := h2 _ _ (by omega) (by omega) (by omega) (by omega) e
    omega
  · rw [if_neg ex, if_pos ey] at e
    have := h2 _ _ (by omega) (by omega) (by omega) (by omega) e
    omega
  · rw [if_neg ex, if_neg ey] at e
    exact h2 _ _ x0 x1 y0 y1 e
theorem rS_nxt {n : Int} {a : Int → Int} (hn : 0 ≤ n) (hi : 0 ≤ nxI a n) : rS n a (nxt n a) := by
  have q := nxIJ hn hi
  have h2 : rS n a (swp a (nxI a n) (nxJ a n)) := rS_sw ⟨hi, by omega⟩ ⟨by omega, by omega⟩
  intro k k0 k1
  unfold nxt
  rw [rvs_at]
  exact h2 _ (by split <;> omega) (by split <;> omega)
/-! all the rows -/
def sq (n : Int) (a : Int → Int) : Nat → Int → Int
  | 0 => a
  | k + 1 => nxt n (sq n a k)
def sqO (n : Int) (a : Int → Int) (k : Nat) : Prop := ∀ j, j < k → 0 ≤ nxI (sq n a j) n
theorem sq_p {n : Nat} {a : Int → Int} (hd : rD n a) : ∀ k : Nat, sqO n a k → rD n (sq n a k) ∧ rS n a (sq n a k) ∧ (k : Int) ≤ rk (sq n a k) n n := by
  intro k
  induction k with
  | zero =>
    intro _
    have := rk_t a n n (Nat.le_refl _)
    rw [Nat.sub_self] at this
    have z : rk a n 0 = 0 := rfl
    exact ⟨hd, rS_r, by show (0 : Int) ≤ rk a n n; omega⟩
  | succ k ih =>
    intro h
    obtain ⟨i1, i2, i3⟩ := ih (fun j hj => h j (by omega))
    have hk := h k (by omega)
    have r := rk_nxt i1 hk
    refine ⟨rD_nxt (by omega) hk i1, rS_t i2 (rS_nxt (by omega) hk), ?_⟩
    show ((k + 1 : Nat) : Int) ≤ rk (nxt n (sq n a k)) n n
    omega
theorem sq_m {n : Nat} {a : Int → Int} (hd : rD n a) (hn : n ≤ 7) {k : Nat} (h : sqO n a k) : k ≤ 5039 := by
  have p := sq_p hd k h
  have t := rk_t (sq n a k) n n (Nat.le_refl _)
  rw [Nat.sub_self] at t
  have z : rk (sq n a k) n 0 = 0 := rfl
  have f := fac_m n hn
  omega
theorem sq_c {n : Int} {a b : Int → Int} (hn : 0 ≤ n) (h : ∀ k, 0 ≤ k → k < n → a k = b k) : ∀ k : Nat, sqO n a k → ∀ q, 0 ≤ q → q < n → sq n a k q = sq n b k q := by
  intro k
  induction k with
  | zero => intro _; exact h
  | succ k ih =>
    intro hk
    exact nxt_c hn (ih (fun j hj => hk j (by omega))) (hk k (by omega))
/-! the best row -/
def bsT (x : Nat) (T P : Int → Int) (L : Int) (n : Nat) (a : Int → Int) (j : Nat) : Int := svT x T P L (sq n a j) n
def bsW (x : Nat) (T : Int → Int) (n : Nat) (a : Int → Int) (j : Nat) : Int := svS x T (sq n a j) n
def bsI (x : Nat) (T P : Int → Int) (L : Int) (n : Nat) (a : Int → Int) : Nat → Nat
  | 0 => 0
  | k + 1 => if bsT x T P L n a (bsI x T P L n a k) < bsT x T P L n a (k + 1) ∨ (bsT x T P L n a (k + 1) = bsT x T P L n a (bsI x T P L n a k) ∧ bsW x T n a (k + 1) < bsW x T n a (bsI x T P L n a k)) then k + 1 else bsI x T P L n a k
theorem bsI_b (x : Nat) (T P : Int → Int) (L : Int) (n : Nat) (a : Int → Int) : ∀ k : Nat, bsI x T P L n a k ≤ k := by
  intro k
  induction k with
  | zero => exact Nat.le_refl _
  | succ k ih =>
    have e : bsI x T P L n a (k + 1) = if bsT x T P L n a (bsI x T P L n a k) < bsT x T P L n a (k + 1) ∨ (bsT x T P L n a (k + 1) = bsT x T P L n a (bsI x T P L n a k) ∧ bsW x T n a (k + 1) < bsW x T n a (bsI x T P L n a k)) then k + 1 else bsI x T P L n a k := rfl
    rw [e]
    split <;> omega
theorem bs_c {x : Nat} {T P : Int → Int} {L : Int} {n : Nat} {a b : Int → Int} (h : ∀ q : Int, 0 ≤ q → q < n → a q = b q) {j : Nat} (hj : sqO n a j) : bsT x T P L n a j = bsT x T P L n b j ∧ bsW x T n a j = bsW x T n b j := by
  have e := sq_c (n := (n : Int)) (by omega) h j hj
  unfold bsT bsW
  exact ⟨svT_c n (fun k hk => by rw [e k (by omega) (by omega)]; exact ⟨rfl, rfl⟩), svS_c n (fun k hk => by rw [e k (by omega) (by omega)])⟩
theorem bsI_c {x : Nat} {T P : Int → Int} {L : Int} {n : Nat} {a b : Int → Int} (h : ∀ q : Int, 0 ≤ q → q < n → a q = b q) : ∀ k : Nat, sqO n a k → bsI x T P L n a k = bsI x T P L n b k := by
  intro k
  induction k with
  | zero => intro _; rfl
  | succ k ih =>
    intro hk
    have i := ih (fun j hj => hk j (by omega))
    have bb := bsI_b x T P L n b k
    obtain ⟨e1, e2⟩ := bs_c (x := x) (T := T) (P := P) (L := L) h hk
    obtain ⟨e3, e4⟩ := bs_c (x := x) (T := T) (P := P) (L := L) h (j := bsI x T P L n b k) (fun j hj => hk j (by omega))
    show (if bsT x T P L n a (bsI x T P L n a k) < bsT x T P L n a (k + 1) ∨ (bsT x T P L n a (k + 1) = bsT x T P L n a (bsI x T P L n a k) ∧ bsW x T n a (k + 1) < bsW x T n a (bsI x T P L n a k)) then k + 1 else bsI x T P L n a k) = (if bsT x T P L n b (bsI x T P L n b k) < bsT x T P L n b (k + 1) ∨ (bsT x T P L n b (k + 1) = bsT x T P L n b (bsI x T P L n b k) ∧ bsW x T n b (k + 1) < bsW x T n b (bsI x T P L n b k)) then k + 1 else bsI x T P L n b k)
    rw [i, e1, e2, e3, e4]
theorem uS_c {x : Nat} {tk tp rw rw' fa wa gr ts : Int → Int} {ls i : Int} (h : ∀ k, 0 ≤ k → k < i → rw k = rw' k) (hS : uS x tk tp ls rw i fa wa gr ts) : uS x tk tp ls rw' i fa wa gr ts := fun j hj => by
  obtain ⟨s1, s2, s3, s4⟩ := hS j hj
  have c : ∀ k : Nat, k < j → tk (rw k) = tk (rw' k) := fun k hk => by rw [h k (by omega) (by omega)]
  refine ⟨fun q q0 q1 => ?_, ?_, ?_, ?_⟩
  · rw [← svF_c j c]; exact s1 q q0 q1
  · rw [← svS_c j c]; exact s2
  · rw [← svG_c j c]; exact s3
  · rw [← svT_c j (fun k hk => ⟨c k hk, by rw [h k (by omega) (by omega)]⟩)]; exact s4
theorem so_keepAsBest {n bt bw : Int} {rw wa ts be : Int → Int} {Q : Int → Int → (Int → Int) → Prop} (hn : 0 ≤ n ∧ n ≤ 7) (h : ∀ be', (∀ q, 0 ≤ q → q < n → be' q = rw q) → Q (ts n) (wa n) be') : nf_Rush_keepAsBest n bt bw rw wa ts be Q := by
  unfold nf_Rush_keepAsBest
  simp only [ci_m1, ci_m10, ci_m1001, ci_m1002, ci_m1003, ci_m1004, ci_0, ci_1, ci_10, ci_100, ci_1000, ci_10000, ci_101, ci_103, ci_104, ci_105, ci_107, ci_108, ci_110, ci_111, ci_114, ci_115, ci_116, ci_118, ci_119, ci_12, ci_122, ci_1431655765, ci_15, ci_16, ci_2, ci_20, ci_23, ci_24, ci_240, ci_252645135, ci_255, ci_256, ci_3, ci_32, ci_4, ci_420, ci_48, ci_5, ci_5040, ci_57, ci_59, ci_6, ci_60, ci_63, ci_64, ci_7, ci_70, ci_8, ci_858993459, ci_9, ci_900, ci_97, ci_99, ci_999, ci_9999, cl_0, cl_1, cl_10, cl_1000000000000, cl_122, cl_2, cl_2000000000000, cl_23, cl_255, cl_27, cl_3, cl_4, cl_48, cl_57, cl_6, cl_8, cl_96, cl_97, cl_99, cl_999, cl_9999]
  refine sp_sumOfTips ⟨hn.1, by omega⟩ (sp_sumOfWaits ⟨hn.1, by omega⟩ ?_)
  refine nlp2_i (fun i b => 0 ≤ i ∧ i ≤ n ∧ ∀ q, 0 ≤ q → q < i → b q = rw q) (fun i _ => (7 - i).toNat) ?_ ⟨by omega, by omega, fun q a b => by omega⟩
  intro i b1 hi self hself
  obtain ⟨i1, i2, i3⟩ := hi
  refine cB_i (fun _ => h _ (fun q a b => i3 q a (by omega))) (fun _ => cB_f (by omega) (wO_i (by simp only [inb]; omega) (wO_i (by simp only [inb]; omega) (wO_i (by simp only [iR]; omega) (hself _ _ ⟨by omega, by omega, fun q a b => ?_⟩ (by omega))))))
  by_cases e : q = i
  · rw [e, ups_s]
  · rw [ups_n e]; exact i3 q a (by omega)
/-- where the rows end: at k, and nothing before -/
def sqE (n : Int) (a : Int → Int) (k : Nat) : Prop := sqO n a k ∧ nxI (sq n a k) n < 0
theorem sqE_u {n : Int} {a b : Int → Int} (hn : 0 ≤ n) (h : ∀ q, 0 ≤ q → q < n → a q = b q) {k m : Nat} (hk : sqE n a k) (hm : sqE n b m) : k = m := by
  have e : ∀ j, j ≤ k → nxI (sq n a j) n = nxI (sq n b j) n := fun j hj => nxI_c (sq_c hn h j (fun i hi => hk.1 i (by omega)))
  rcases Nat.lt_trichotomy k m with q | q | q
  · have := hm.1 k q
    rw [← e k (Nat.le_refl _)] at this
    have := hk.2; omega
  · exact q
  · have := hk.1 m q
    rw [e m (by omega)] at this
    have := hm.2; omega
theorem so_findBest {ls bt bw : Int} {x n : Nat} {tk tp rw fa wa gr ts be : Int → Int} {Q : Int → Int → (Int → Int) → (Int → Int) → (Int → Int) → (Int → Int) → (Int → Int) → (Int → Int) → Prop} (hI : uI ls tk tp) (hn : n ≤ 7) (hx : 1 ≤ x ∧ x ≤ 4) (hrw : ∀ k, 0 ≤ k → k < (n : Int) → 0 ≤ rw k ∧ rw k < 16) (hd : rD n rw) (hA : uA fa) (hW : uW wa gr ts) (h : ∀ k, sqE n rw k → ∀ rw' fa' wa' gr' ts' be', uA fa' → uW wa' gr' ts' → (∀ q, 0 ≤ q → q < (n : Int) → be' q = sq n rw (bsI x tk tp ls n rw k) q) → Q (bsT x tk tp ls n rw (bsI x tk tp ls n rw k)) (bsW x tk n rw (bsI x tk tp ls n rw k)) rw' fa' wa' gr' ts' be') : nf_Rush_findBest n ls bt bw tk tp rw fa wa gr ts be x Q := by
  unfold nf_Rush_findBest
  simp only [ci_m1, ci_m10, ci_m1001, ci_m1002, ci_m1003, ci_m1004, ci_0, ci_1, ci_10, ci_100, ci_1000, ci_10000, ci_101, ci_103, ci_104, ci_105, ci_107, ci_108, ci_110, ci_111, ci_114, ci_115, ci_116, ci_118, ci_119, ci_12, ci_122, ci_1431655765, ci_15, ci_16, ci_2, ci_20, ci_23, ci_24, ci_240, ci_252645135, ci_255, ci_256, ci_3, ci_32, ci_4, ci_420, ci_48, ci_5, ci_5040, ci_57, ci_59, ci_6, ci_60, ci_63, ci_64, ci_7, ci_70, ci_8, ci_858993459, ci_9, ci_900, ci_97, ci_99, ci_999, ci_9999, cl_0, cl_1, cl_10, cl_1000000000000, cl_122, cl_2, cl_2000000000000, cl_23, cl_255, cl_27, cl_3, cl_4, cl_48, cl_57, cl_6, cl_8, cl_96, cl_97, cl_99, cl_999, cl_9999]
  have hn16 : (0 : Int) ≤ n ∧ (n : Int) ≤ 16 := ⟨by omega, by omega⟩
  have hn7 : (0 : Int) ≤ n ∧ (n : Int) ≤ 7 := ⟨by omega, by omega⟩
  refine so_serveFrom hI hn16 ⟨by omega, by omega⟩ hx hrw hA hW (uS_0 hx.2 hA hW) (fun f1 w1 g1 t1 a1 a2 a3 => so_keepAsBest hn7 (fun be1 hb1 => ?_))
  have s0 := a3 n (Int.le_refl _)
  refine nlp9_i (fun (l z9 z10 : Int) (z11 fa' wa' gr' ts' be' : Int → Int) => ∃ k : Nat, l = (k : Int) + 1 ∧ sqO n rw k ∧ k ≤ 5039 ∧ z9 = bsT x tk tp ls n rw (bsI x tk tp ls n rw k) ∧ z10 = bsW x tk n rw (bsI x tk tp ls n rw k) ∧ (∀ q, 0 ≤ q → q < (n : Int) → z11 q = sq n rw k q) ∧ uA fa' ∧ uW wa' gr' ts' ∧ uS x tk tp ls z11 n fa' wa' gr' ts' ∧ (∀ q, 0 ≤ q → q < (n : Int) → be' q = sq n rw (bsI x tk tp ls n rw k) q)) (fun l _ _ _ _ _ _ _ _ => (5041 - l).toNat) ?_ ⟨0, by omega, fun j hj => by omega, by omega, s0.2.2.2, s0.2.1, fun q _ _ => rfl, a1, a2, a3, hb1⟩
  intro l z9 z10 z11 f2 w2 g2 t2 be2 hi self hself
  obtain ⟨k, k1, k2, k3, k4, k5, k6, k7, k8, k9, k10⟩ := hi
  have eI : nxI z11 n = nxI (sq n rw k) n := nxI_c k6
  refine cB_i (fun e => ?_) (fun e => ?_)
  · have kE : sqE n rw k := ⟨k2, by
      rcases Int.lt_or_le (nxI (sq n rw k) n) 0 with q | q
      · exact q
      · have := sq_m hd hn (k := k + 1) (fun j hj => by
          by_cases ej : j = k
          · rw [ej]; exact q
          · exact k2 j (by omega))
        omega⟩
    rw [k4, k5]
    exact h k kE _ _ _ _ _ _ k7 k8 k10
  · refine so_toNextRow hn16 (fun e2 => cB_t rfl ?_) (fun e2 z hz => cB_f (by omega) ?_)
    · rw [k4, k5]
      exact h k ⟨k2, by omega⟩ _ _ _ _ _ _ k7 k8 k10
    have kO : sqO n rw (k + 1) := fun j hj => by
      by_cases ej : j = k
      · rw [ej]; omega
      · exact k2 j (by omega)
    have q := nxIJ (a := z11) (n := (n : Int)) (by omega) e2
    have hz2 : ∀ q, 0 ≤ q → q < (n : Int) → z q = sq n rw (k + 1) q := fun q q0 q1 => by
      rw [hz q q0 q1]
      exact nxt_c (by omega) k6 e2 q q0 q1
    have hm := sq_m hd hn kO
    have pS := (sq_p hd (k + 1) kO).2.1
    have hS1 : uS x tk tp ls z (nxI z11 n) f2 w2 g2 t2 := uS_c (fun q q0 q1 => by rw [hz q q0 (by omega)]; exact (nxt_lo (by omega) e2 q1).symm) (fun j hj => k9 j (by omega))
    refine so_serveFrom hI hn16 ⟨e2, by omega⟩ hx (fun q q0 q1 => ?_) k7 k8 hS1 (fun f3 w3 g3 t3 b1 b2 b3 => ?_)
    · obtain ⟨j, j0, j1, j2⟩ := pS q q0 q1
      rw [hz2 q q0 q1, j2]; exact hrw j j0 j1
    have s1 := b3 n (Int.le_refl _)
    have eT : t3 n = bsT x tk tp ls n rw (k + 1) := s1.2.2.2.trans (svT_c n (fun q hq => by rw [hz2 q (by omega) (by omega)]; exact ⟨rfl, rfl⟩))
    have eW : w3 n = bsW x tk n rw (k + 1) := s1.2.1.trans (svS_c n (fun q hq => by rw [hz2 q (by omega) (by omega)]))
    have sI : bsI x tk tp ls n rw (k + 1) = if bsT x tk tp ls n rw (bsI x tk tp ls n rw k) < bsT x tk tp ls n rw (k + 1) ∨ (bsT x tk tp ls n rw (k + 1) = bsT x tk tp ls n rw (bsI x tk tp ls n rw k) ∧ bsW x tk n rw (k + 1) < bsW x tk n rw (bsI x tk tp ls n rw k)) then k + 1 else bsI x tk tp ls n rw k := rfl
    rw [← eT, ← eW, ← k4, ← k5] at sI
    refine sp_sumOfTips hn16 (jn1_s (fun t25 => (t25 = 1 ∧ t3 n = z9) ∨ (t25 = 0 ∧ t3 n ≠ z9)) (fun t25 ht => sp_sumOfTips hn16 ?_) (cB_i (fun e3 => Or.inl ⟨rfl, e3⟩) (fun e3 => Or.inr ⟨rfl, e3⟩)))
    refine jn3_s (fun y9 y10 be' => y9 = bsT x tk tp ls n rw (bsI x tk tp ls n rw (k + 1)) ∧ y10 = bsW x tk n rw (bsI x tk tp ls n rw (k + 1)) ∧ (∀ q, 0 ≤ q → q < (n : Int) → be' q = sq n rw (bsI x tk tp ls n rw (k + 1)) q)) (fun y9 y10 be' hy => wO_i (by simp only [iR]; omega) (hself _ _ _ _ _ _ _ _ _ ⟨k + 1, by omega, kO, hm, hy.1, hy.2.1, hz2, b1, b2, b3, hy.2.2⟩ (by omega))) ?_
    have no : ¬ (z9 < t3 n ∨ (t3 n = z9 ∧ w3 n < z10)) → z9 = bsT x tk tp ls n rw (bsI x tk tp ls n rw (k + 1)) ∧ z10 = bsW x tk n rw (bsI x tk tp ls n rw (k + 1)) ∧ (∀ q, 0 ≤ q → q < (n : Int) → be2 q = sq n rw (bsI x tk tp ls n rw (k + 1)) q) := fun w => by
      rw [sI, if_neg w]; exact ⟨k4, k5, k10⟩
    refine jn0_s (z9 < t3 n ∨ (t3 n = z9 ∧ w3 n < z10)) (fun w => so_keepAsBest hn7 (fun be3 hb3 => ?_)) (cB_i (fun w => Or.inl w) (fun w => cB_i (fun w2 => no (fun v => ?_)) (fun w2 => sp_sumOfWaits hn16 (cB_i (fun w3' => no (fun v => by omega)) (fun w3' => Or.inr ⟨?_, by omega⟩)))))
    · rw [sI, if_pos w]
      exact ⟨eT, eW, fun q q0 q1 => by rw [hb3 q q0 q1]; exact hz2 q q0 q1⟩
    · rcases ht with ⟨u, _⟩ | ⟨_, u⟩
      · omega
      · omega
    · rcases ht with ⟨_, u⟩ | ⟨u, _⟩
      · exact u
      · omega
theorem sm_bestRow {pg gu m a1 a2 a3 x y set L : Int} {T P pw sg hg ti rw fa be : Int → Int} {Q : Int → Int → Int → Int → Int → (Int → Int) → (Int → Int) → (Int → Int) → Prop} (hpg : 0 ≤ pg ∧ pg ≤ 24) (hgu : 0 ≤ gu ∧ gu ≤ 16) (hset : iR set) (h1 : ¬ hsM pg gu hg set → Q (-1001) m a1 a2 a3 rw fa be) (h2 : hsM pg gu hg set → ¬ (1 ≤ x ∧ x ≤ 4) → Q (-1002) m a1 a2 a3 rw fa be) (h2' : hsM pg gu hg set → (1 ≤ x ∧ x ≤ 4) → ¬ (cnt set 16 ≤ 7) → Q (-1003) m a1 a2 a3 rw fa be) (hpw : ∀ q, 0 ≤ q → q < pg → 0 ≤ pw q ∧ pw q ≤ 122) (hs : 0 ≤ sg 3 ∧ sg 3 ≤ 20) (h3 : hsM pg gu hg set → (1 ≤ x ∧ x ≤ 4) → cnt set 16 ≤ 7 → (sg 4 = L ∧ 0 ≤ L ∧ L ≤ 20) ∧ (∀ g p, 0 ≤ g → g < gu → bit set g = true → 0 ≤ p → p < pg → hg p = g → T g = 2 * pw p + sg 3 ∧ ti g = P g ∧ 0 ≤ T g ∧ T g ≤ 264 ∧ 0 ≤ P g ∧ P g ≤ 99) ∧ (∀ rw1', rw1 set gu rw1' → ∀ k, sqE (cnt set gu.toNat) rw1' k → ∀ m' b1 b2 b3 rw' f be', (∀ q, 0 ≤ q → q < cnt set gu.toNat → be' q = sq (cnt set gu.toNat) rw1' (bsI x.toNat T P L (cnt set gu.toNat).toNat rw1' k) q) → Q (if y = -1 then bsT x.toNat T P L (cnt set gu.toNat).toNat rw1' (bsI x.toNat T P L (cnt set gu.toNat).toNat rw1' k) else if 0 ≤ y ∧ y ≤ cnt set gu.toNat - 1 then be' y else -1) m' b1 b2 b3 rw' f be')) : nf_M_bestRow pg gu m a1 a2 a3 pw sg hg ti rw fa be set x y Q := by
  unfold nf_M_bestRow
  simp only [ci_m1, ci_m10, ci_m1001, ci_m1002, ci_m1003, ci_m1004, ci_0, ci_1, ci_10, ci_100, ci_1000, ci_10000, ci_101, ci_103, ci_104, ci_105, ci_107, ci_108, ci_110, ci_111, ci_114, ci_115, ci_116, ci_118, ci_119, ci_12, ci_122, ci_1431655765, ci_15, ci_16, ci_2, ci_20, ci_23, ci_24, ci_240, ci_252645135, ci_255, ci_256, ci_3, ci_32, ci_4, ci_420, ci_48, ci_5, ci_5040, ci_57, ci_59, ci_6, ci_60, ci_63, ci_64, ci_7, ci_70, ci_8, ci_858993459, ci_9, ci_900, ci_97, ci_99, ci_999, ci_9999, cl_0, cl_1, cl_10, cl_1000000000000, cl_122, cl_2, cl_2000000000000, cl_23, cl_255, cl_27, cl_3, cl_4, cl_48, cl_57, cl_6, cl_8, cl_96, cl_97, cl_99, cl_999, cl_9999]
  refine sm_areHanging hpg hgu hset (fun hh => cB_f (by decide) ?_) (fun hn => cB_t rfl (h1 hn))
  refine wL_i (sp_in (cB_i (fun a => cB_f (by decide) (st_bits (cB_i (fun b => ?_) (fun b => h2' hh a b)))) (fun a => cB_t rfl (h2 hh a))))
  obtain ⟨hL, hT, hQ⟩ := h3 hh a b
  refine sm_fillRow hgu (fun rw0 hr => ?_)
  have cb := cnt_b set gu.toNat
  have cm := cnt_m set gu.toNat 16 (by omega)
  obtain ⟨n, en⟩ : ∃ n : Nat, cnt set gu.toNat = (n : Int) := ⟨(cnt set gu.toNat).toNat, by omega⟩
  have en2 : (cnt set gu.toNat).toNat = n := by omega
  have hQ := hQ rw0 hr
  rw [en2] at hQ
  rw [en] at hQ ⊢
  have ex : x = ((x.toNat : Nat) : Int) := by omega
  have hx4 : 1 ≤ x.toNat ∧ x.toNat ≤ 4 := ⟨by omega, by omega⟩
  have hk : ∀ k, 0 ≤ k → k < (n : Int) → 0 ≤ rw0 k ∧ rw0 k < gu ∧ bit set (rw0 k) = true := fun k k0 k1 => rw1_k hgu.1 hr k0 (by omega)
  have hd : rD n rw0 := fun i j i0 i1 j0 j1 e => by
    obtain ⟨u, u0, u1, u2, u3⟩ := cnt_sur (x := set) gu.toNat i i0 (by omega)
    obtain ⟨v, v0, v1, v2, v3⟩ := cnt_sur (x := set) gu.toNat j j0 (by omega)
    have eu := hr u u0 (by omega) u2
    have ev := hr v v0 (by omega) v2
    rw [u3] at eu
    rw [v3] at ev
    rw [← u3, ← v3, ← eu, ← ev, e]
  have run : ∀ (k : Nat) (z : Int → Int) (c1 c2 c3 : Int) (f : Int → Int) {X : Int → Int → Int → (Int → Int) → Prop}, sqO n rw0 k → (∀ q, 0 ≤ q → q < (n : Int) → z q = sq n rw0 k q) → (∀ d f', X (bsW x.toNat T n rw0 k) d (bsT x.toNat T P L n rw0 k) f') → nf_M_runRow pg n c1 c2 c3 pw sg hg ti z f x X := fun k z c1 c2 c3 f {X} hk2 hz hX => by
    rw [ex]
    have pS := (sq_p hd k hk2).2.1
    refine sm_runRow (T := T) (P := P) (L := L) hpg ⟨by omega, by omega⟩ hx4 hpw hs hL (fun q q0 q1 => ?_) (fun f' => ?_)
    · obtain ⟨j, j0, j1, j2⟩ := pS q q0 q1
      obtain ⟨u1, u2, u3⟩ := hk j j0 j1
      rw [hz q q0 q1, j2]
      obtain ⟨_, p, p0, p1, p2⟩ := hh (rw0 j) u1 (by omega) u3
      have w := hT (rw0 j) p u1 u2 u3 p0 p1 p2
      exact ⟨u1, by omega, ⟨p, p0, p1, p2⟩, fun p' p0' p1' p2' => (hT (rw0 j) p' u1 u2 u3 p0' p1' p2').1, w.2.1, w.2.2⟩
    · have e1 : svS x.toNat T z n = bsW x.toNat T n rw0 k := svS_c n (fun q hq => by rw [hz q (by omega) (by omega)])
      have e2 : svT x.toNat T P L z n = bsT x.toNat T P L n rw0 k := svT_c n (fun q hq => by rw [hz q (by omega) (by omega)]; exact ⟨rfl, rfl⟩)
      rw [Int.toNat_natCast, e1, e2]
      exact hX _ f'
  have tb : ∀ k, sqO n rw0 k → 0 ≤ bsT x.toNat T P L n rw0 k := fun k hk2 => by
    have pS := (sq_p hd k hk2).2.1
    exact (svT_b (P := P) (L := L) hx4.2 hL.2 n (by omega) (fun q hq => by
      obtain ⟨j, j0, j1, j2⟩ := pS q (by omega) (by omega)
      obtain ⟨u1, u2, u3⟩ := hk j j0 j1
      obtain ⟨_, p, p0, p1, p2⟩ := hh (rw0 j) u1 (by omega) u3
      have w := hT (rw0 j) p u1 u2 u3 p0 p1 p2
      rw [j2]; exact w.2.2)).1
  refine nlp9_i (fun (l4 l5 l6 _ _ _ : Int) (z13 _ z15 : Int → Int) => (l6 = 1 ∧ l4 = -1 ∧ l5 = 0 ∧ z13 = rw0) ∨ ∃ k : Nat, sqO n rw0 k ∧ l4 = bsT x.toNat T P L n rw0 (bsI x.toNat T P L n rw0 k) ∧ l5 = bsW x.toNat T n rw0 (bsI x.toNat T P L n rw0 k) ∧ (∀ q, 0 ≤ q → q < (n : Int) → z15 q = sq n rw0 (bsI x.toNat T P L n rw0 k) q) ∧ ((l6 = 0 ∧ sqE n rw0 k) ∨ (l6 = 1 ∧ sqO n rw0 (k + 1) ∧ ∀ q, 0 ≤ q → q < (n : Int) → z13 q = sq n rw0 (k + 1) q))) (fun _ _ l6 _ _ _ z13 _ _ => if l6 = 0 then 0 else (fac n - rk z13 n n).toNat + 1) ?_ (Or.inl ⟨rfl, rfl, rfl, rfl⟩)
  intro l4 l5 l6 z10 z11 z12 z13 z14 z15 hi self hself
  refine cB_i (fun e6 => ?_) (fun e6 => ?_)
  · rcases hi with ⟨w, _⟩ | ⟨k, k1, k2, k3, k4, k5⟩
    · omega
    have kE : sqE n rw0 k := by
      rcases k5 with ⟨_, q⟩ | ⟨q, _⟩
      · exact q
      · omega
    have g := fun m' b1 b2 b3 rw' f => hQ k kE m' b1 b2 b3 rw' f z15 k4
    refine cB_i (fun e => ?_) (fun e => wL_i (wO_i (by simp only [iR]; omega) (wL_i (sp_in (cB_i (fun v => cB_f (by decide) (wO_i (by simp only [inb]; omega) ?_)) (fun v => cB_t rfl ?_))))))
    · have := g (n : Int) z10 z11 z12 z13 z14
      rw [if_pos e] at this
      rw [k2]; exact this
    · have := g (n : Int) z10 z11 z12 z13 z14
      rw [if_neg e, if_pos v] at this
      exact this
    · have := g (n : Int) z10 z11 z12 z13 z14
      rw [if_neg e, if_neg v] at this
      exact this
  · obtain ⟨k, kO, kz, kb⟩ : ∃ k : Nat, sqO n rw0 k ∧ (∀ q, 0 ≤ q → q < (n : Int) → z13 q = sq n rw0 k q) ∧ ((k = 0 ∧ l4 = -1) ∨ (∃ j, k = j + 1 ∧ l4 = bsT x.toNat T P L n rw0 (bsI x.toNat T P L n rw0 j) ∧ l5 = bsW x.toNat T n rw0 (bsI x.toNat T P L n rw0 j) ∧ (∀ q, 0 ≤ q → q < (n : Int) → z15 q = sq n rw0 (bsI x.toNat T P L n rw0 j) q))) := by
      rcases hi with ⟨_, w1, w2, w3⟩ | ⟨k, k1, k2, k3, k4, k5⟩
      · exact ⟨0, fun j hj => by omega, fun q _ _ => by rw [w3]; rfl, Or.inl ⟨rfl, w1⟩⟩
      · rcases k5 with ⟨w, _⟩ | ⟨_, w2, w3⟩
        · exact absurd w e6
        · exact ⟨k + 1, w2, w3, Or.inr ⟨k, rfl, k2, k3, k4⟩⟩
    have kI : nxI z13 n = nxI (sq n rw0 k) n := nxI_c kz
    refine run k z13 _ _ _ _ kO kz (fun d f' => ?_)
    refine jn3_s (fun y4 y5 be' => y4 = bsT x.toNat T P L n rw0 (bsI x.toNat T P L n rw0 k) ∧ y5 = bsW x.toNat T n rw0 (bsI x.toNat T P L n rw0 k) ∧ (∀ q, 0 ≤ q → q < (n : Int) → be' q = sq n rw0 (bsI x.toNat T P L n rw0 k) q)) (fun y4 y5 be' hy => ?_) ?_
    · refine sm_nextRow ⟨by omega, by omega⟩ (fun e => hself _ _ _ _ _ _ _ _ _ (Or.inr ⟨k, kO, hy.1, hy.2.1, hy.2.2, Or.inl ⟨rfl, kO, by omega⟩⟩) ?_) (fun e z hz => ?_)
      · show (if (0 : Int) = 0 then 0 else (fac n - rk z13 n n).toNat + 1) < (if l6 = 0 then 0 else (fac n - rk z13 n n).toNat + 1)
        rw [if_pos rfl, if_neg e6]; omega
      · have kO1 : sqO n rw0 (k + 1) := fun j hj => by
          by_cases ej : j = k
          · rw [ej]; omega
          · exact kO j (by omega)
        have hz2 : ∀ q, 0 ≤ q → q < (n : Int) → z q = sq n rw0 (k + 1) q := fun q q0 q1 => by
          rw [hz q q0 q1]
          exact nxt_c (by omega) kz e q q0 q1
        refine hself _ _ _ _ _ _ _ _ _ (Or.inr ⟨k, kO, hy.1, hy.2.1, hy.2.2, Or.inr ⟨rfl, kO1, hz2⟩⟩) ?_
        show (if (1 : Int) = 0 then 0 else (fac n - rk z n n).toNat + 1) < (if l6 = 0 then 0 else (fac n - rk z13 n n).toNat + 1)
        rw [if_neg (by decide), if_neg e6, rk_c kz n (Nat.le_refl _), rk_c hz2 n (Nat.le_refl _)]
        have r1 := rk_nxt (sq_p hd k kO).1 (by omega)
        have r2 := rk_t (sq n rw0 (k + 1)) n n (Nat.le_refl _)
        rw [Nat.sub_self] at r2
        have z0 : rk (sq n rw0 (k + 1)) n 0 = 0 := rfl
        have r3 : rk (nxt n (sq n rw0 k)) n n = rk (sq n rw0 (k + 1)) n n := rfl
        omega
    · have copy : (bsI x.toNat T P L n rw0 k = k) → nlp2 (fun self35 (l7_33 : Int) (z34 : (Int → Int)) =>
          cB ((n : Int) ≤ l7_33)
            ((fun y4 y5 be' => y4 = bsT x.toNat T P L n rw0 (bsI x.toNat T P L n rw0 k) ∧ y5 = bsW x.toNat T n rw0 (bsI x.toNat T P L n rw0 k) ∧ (∀ q, 0 ≤ q → q < (n : Int) → be' q = sq n rw0 (bsI x.toNat T P L n rw0 k) q)) (bsT x.toNat T P L n rw0 k) (bsW x.toNat T n rw0 k) z34)
            (wO (inb l7_33 16) (z13 l7_33) fun v36 =>
            wO (inb l7_33 7) (ups z34 l7_33 v36) fun f37 =>
            wO (iR (l7_33 + 1)) (l7_33 + 1) fun v38 =>
            self35 v38 f37)) 0 z15 := fun ek => by
        refine nlp2_i (fun (i : Int) (b : Int → Int) => 0 ≤ i ∧ i ≤ (n : Int) ∧ ∀ q, 0 ≤ q → q < i → b q = z13 q) (fun i _ => ((n : Int) - i).toNat) ?_ ⟨by omega, by omega, fun q a b => by omega⟩
        intro i b1 hi2 self2 hself2
        obtain ⟨i1, i2, i3⟩ := hi2
        refine cB_i (fun _ => ?_) (fun _ => wO_i (by simp only [inb]; omega) (wO_i (by simp only [inb]; omega) (wO_i (by simp only [iR]; omega) (hself2 _ _ ⟨by omega, by omega, fun q a b => ?_⟩ (by omega)))))
        · show _ ∧ _ ∧ _
          rw [ek]
          exact ⟨rfl, rfl, fun q q0 q1 => by rw [i3 q q0 (by omega)]; exact kz q q0 q1⟩
        · by_cases e : q = i
          · rw [e, ups_s]
          · rw [ups_n e]; exact i3 q a (by omega)
      have tk := tb k kO
      rcases kb with ⟨k0, w4⟩ | ⟨j, kj, w4, w5, w6⟩
      · subst k0
        exact jn0_s True (fun _ => copy rfl) (cB_t (by omega) trivial)
      · subst kj
        have sI : bsI x.toNat T P L n rw0 (j + 1) = if bsT x.toNat T P L n rw0 (bsI x.toNat T P L n rw0 j) < bsT x.toNat T P L n rw0 (j + 1) ∨ (bsT x.toNat T P L n rw0 (j + 1) = bsT x.toNat T P L n rw0 (bsI x.toNat T P L n rw0 j) ∧ bsW x.toNat T n rw0 (j + 1) < bsW x.toNat T n rw0 (bsI x.toNat T P L n rw0 j)) then j + 1 else bsI x.toNat T P L n rw0 j := rfl
        rw [← w4, ← w5] at sI
        have no : ¬ (l4 < bsT x.toNat T P L n rw0 (j + 1) ∨ (bsT x.toNat T P L n rw0 (j + 1) = l4 ∧ bsW x.toNat T n rw0 (j + 1) < l5)) → l4 = bsT x.toNat T P L n rw0 (bsI x.toNat T P L n rw0 (j + 1)) ∧ l5 = bsW x.toNat T n rw0 (bsI x.toNat T P L n rw0 (j + 1)) ∧ (∀ q, 0 ≤ q → q < (n : Int) → z15 q = sq n rw0 (bsI x.toNat T P L n rw0 (j + 1)) q) := fun w => by
          rw [sI, if_neg w]; exact ⟨w4, w5, w6⟩
        refine jn0_s (l4 < bsT x.toNat T P L n rw0 (j + 1) ∨ (bsT x.toNat T P L n rw0 (j + 1) = l4 ∧ bsW x.toNat T n rw0 (j + 1) < l5)) (fun w => copy (by rw [sI, if_pos w])) (cB_i (fun w => Or.inl w) (fun w => cB_i (fun w2 => cB_i (fun w3 => no (fun v => by omega)) (fun w3 => Or.inr ⟨w2, by omega⟩)) (fun w2 => no (fun v => by omega))))
theorem sim_best {pg gn en cn nn gu ev cl ni ht hl sz ls bt bw m a1 a2 a3 x y set : Int} {pk hw pw sg hs' hx gs gk gt gm gb gp gh ef cg cy cz nl so ki ti mk br ha hb hg er mg my mz pl we le tk tp rw fa wa gr ts be rw2 fa2 be2 : Int → Int} {K : Int → Int → Int → Int → Int → (Int → Int) → (Int → Int) → (Int → Int) → (Int → Int) → (Int → Int) → (Int → Int) → (Int → Int) → (Int → Int) → Int → Int → Int → Int → Int → (Int → Int) → (Int → Int) → (Int → Int) → Prop} (hpg : 0 ≤ pg ∧ pg ≤ 24) (hcg : cG gn gt) (hd : dI 0 pg ht hl hw hs' hx) (hkk : ∀ q, 0 ≤ q → q < pg → hw q = pw q) (hht : ht = sg 3) (hhl : hl = sg 4) (hset : iR set) (hI : uI ls tk tp) (hA : uA fa) (hW : uW wa gr ts) (hm : mF gu ev cl ni so ti ha hb hg er mg le) (hs : RS pg pk gn gs gk gt gm gb gp gh en ef cn cg cy cz nn nl gu so ki ti mk br ha hb hg ev er cl mg my mz ni pl we le) (h : ∀ r r2 sz' ls' bt' bw' tk' tp' rw' fa' wa' gr' ts' be' m' b1 b2 b3 rw2' fa2' be2', uI ls' tk' tp' → uA fa' → uW wa' gr' ts' → r = r2 → K r sz' ls' bt' bw' tk' tp' rw' fa' wa' gr' ts' be' r2 m' b1 b2 b3 rw2' fa2' be2') : nf_H_bestRow gn gt gp pg ht hl hw sz ls bt bw tk tp rw fa wa gr ts be set x y fun r sz' ls' bt' bw' tk' tp' rw' fa' wa' gr' ts' be' => nf_M_bestRow pg gu m a1 a2 a3 pw sg hg ti rw2 fa2 be2 set x y fun r2 m' b1 b2 b3 rw2' fa2' be2' => K r sz' ls' bt' bw' tk' tp' rw' fa' wa' gr' ts' be' r2 m' b1 b2 b3 rw2' fa2' be2' := by
  have hs0 := hs
  have hgu : 0 ≤ gu ∧ gu ≤ 16 := ⟨hm.1.1, hm.1.2.1⟩
  have egn : gn = gu := hs.1.1
  have hsx := RS_hs (set := set) hpg hs
  obtain ⟨d1, d2, d3, d4⟩ := hd
  obtain ⟨e1, e2, e3, e4, e5, e6⟩ := d4 rfl
  have hpw : ∀ q, 0 ≤ q → q < pg → 0 ≤ pw q ∧ pw q ≤ 122 := fun q a b => by rw [← hkk q a b]; exact d3 q a b
  have hs3 : 0 ≤ sg 3 ∧ sg 3 ≤ 20 := by omega
  have fail : ∀ (r : Int), (¬ hsM pg gu hg set → r = -1001) → (hsM pg gu hg set → ¬ (1 ≤ x ∧ x ≤ 4) → r = -1002) → (hsM pg gu hg set → (1 ≤ x ∧ x ≤ 4) → ¬ cnt set 16 ≤ 7 → r = -1003) → ¬ (hsM pg gu hg set ∧ (1 ≤ x ∧ x ≤ 4) ∧ cnt set 16 ≤ 7) → nf_M_bestRow pg gu m a1 a2 a3 pw sg hg ti rw2 fa2 be2 set x y fun r2 m' b1 b2 b3 rw2' fa2' be2' => K r sz ls bt bw tk tp rw fa wa gr ts be r2 m' b1 b2 b3 rw2' fa2' be2' := fun r f1 f2 f3 f4 => sm_bestRow (T := tk) (P := tp) (L := ls) hpg hgu hset (fun q => h _ _ _ _ _ _ _ _ _ _ _ _ _ _ _ _ _ _ _ _ _ hI hA hW (f1 q)) (fun q a => h _ _ _ _ _ _ _ _ _ _ _ _ _ _ _ _ _ _ _ _ _ hI hA hW (f2 q a)) (fun q a b => h _ _ _ _ _ _ _ _ _ _ _ _ _ _ _ _ _ _ _ _ _ hI hA hW (f3 q a b)) hpw hs3 (fun q a b => absurd ⟨q, a, b⟩ f4)
  unfold nf_H_bestRow
  simp only [ci_m1, ci_m10, ci_m1001, ci_m1002, ci_m1003, ci_m1004, ci_0, ci_1, ci_10, ci_100, ci_1000, ci_10000, ci_101, ci_103, ci_104, ci_105, ci_107, ci_108, ci_110, ci_111, ci_114, ci_115, ci_116, ci_118, ci_119, ci_12, ci_122, ci_1431655765, ci_15, ci_16, ci_2, ci_20, ci_23, ci_24, ci_240, ci_252645135, ci_255, ci_256, ci_3, ci_32, ci_4, ci_420, ci_48, ci_5, ci_5040, ci_57, ci_59, ci_6, ci_60, ci_63, ci_64, ci_7, ci_70, ci_8, ci_858993459, ci_9, ci_900, ci_97, ci_99, ci_999, ci_9999, cl_0, cl_1, cl_10, cl_1000000000000, cl_122, cl_2, cl_2000000000000, cl_23, cl_255, cl_27, cl_3, cl_4, cl_48, cl_57, cl_6, cl_8, cl_96, cl_97, cl_99, cl_999, cl_9999]
  refine so_allHang (by omega) (fun hh => cB_f (by decide) ?_) (fun hn => cB_t rfl (fail (-1001) (fun _ => rfl) (fun q => absurd (hsx.mpr q) hn) (fun q => absurd (hsx.mpr q) hn) (fun w => hn (hsx.mpr w.1))))
  have hh2 := hsx.mp hh
  refine sp_within (cB_i (fun v1 => cB_f (by decide) ?_) (fun v1 => cB_t rfl (fail (-1002) (fun q => absurd hh2 q) (fun _ _ => rfl) (fun _ w => absurd w v1) (fun w => v1 w.2.1))))
  have small := (st_small hset hgu).mpr (fun t t0 t1 => by
    cases hb1 : bit set t
    · rfl
    · have := (hh2 t (by omega) t1 hb1).1; omega)
  have s1 : ∀ k : Nat, k < 17 → ishl 1 (k : Int) ≤ 65536 := by decide +kernel
  have s2 := s1 gu.toNat (by omega)
  rw [Int.toNat_of_nonneg hgu.1] at s2
  refine so_bitCount16 ⟨small.1, by omega⟩ (cB_i (fun v2 => ?_) (fun v2 => fail (-1003) (fun q => absurd hh2 q) (fun _ w => absurd v1 w) (fun _ _ _ => rfl) (fun w => v2 w.2.2)))
  refine so_loadU (by omega) hpg.2 hcg.2 ⟨e1, e2, e3, e4⟩ d3 hI (fun g g0 g1 hb1 => ?_) (fun tk1 tp1 rwc hI1 hr1 ht1 => ?_)
  · rcases hs.2.2.1.2 g g0 (by omega) with q | q
    · exact absurd q (hh g g0 (by omega) hb1).2
    · exact ⟨q.1, q.2.1⟩
  have cb1 := cnt_b set gn.toNat
  have cm := cnt_m set gn.toNat 16 (by omega)
  have hTT := RS_tk hpg hkk hht hs hI1 (by omega) ht1
  obtain ⟨n, en⟩ : ∃ n : Nat, cnt set gn.toNat = (n : Int) := ⟨(cnt set gn.toNat).toNat, by omega⟩
  have enu : cnt set gu.toNat = (n : Int) := by rw [← egn]; exact en
  have en2 : (cnt set gu.toNat).toNat = n := by omega
  have hr1u : rw1 set gu rwc := by rw [← egn]; exact hr1
  have ex : x = ((x.toNat : Nat) : Int) := by omega
  have hk : ∀ k, 0 ≤ k → k < (n : Int) → 0 ≤ rwc k ∧ rwc k < gu ∧ bit set (rwc k) = true := fun k k0 k1 => rw1_k hgu.1 hr1u k0 (by omega)
  have hrd : rD n rwc := fun i j i0 i1 j0 j1 e => by
    obtain ⟨u, u0, u1, u2, u3⟩ := cnt_sur (x := set) gu.toNat i i0 (by omega)
    obtain ⟨v, v0, v1', v2', v3⟩ := cnt_sur (x := set) gu.toNat j j0 (by omega)
    have eu := hr1u u u0 (by omega) u2
    have ev := hr1u v v0 (by omega) v2'
    rw [u3] at eu
    rw [v3] at ev
    rw [← u3, ← v3, ← eu, ← ev, e]
  rw [en]
  have go : ∀ {X : Int → Int → (Int → Int) → (Int → Int) → (Int → Int) → (Int → Int) → (Int → Int) → (Int → Int) → Prop}, (∀ k, sqE n rwc k → ∀ rw' fa' wa' gr' ts' be', uA fa' → uW wa' gr' ts' → (∀ q, 0 ≤ q → q < (n : Int) → be' q = sq n rwc (bsI x.toNat tk1 tp1 hl n rwc k) q) → X (bsT x.toNat tk1 tp1 hl n rwc (bsI x.toNat tk1 tp1 hl n rwc k)) (bsW x.toNat tk1 n rwc (bsI x.toNat tk1 tp1 hl n rwc k)) rw' fa' wa' gr' ts' be') → nf_Rush_findBest n hl bt bw tk1 tp1 rwc fa wa gr ts be x X := fun {X} hX => by
    rw [ex]
    exact so_findBest hI1 (by omega) ⟨by omega, by omega⟩ (fun k k0 k1 => by have := hk k k0 k1; omega) hrd hA hW hX
  refine go (fun k kE rw' fa' wa' gr' ts' be' hA' hW' hbe => ?_)
  have fin : ∀ (r : Int), r = (if y = -1 then bsT x.toNat tk1 tp1 hl n rwc (bsI x.toNat tk1 tp1 hl n rwc k) else if 0 ≤ y ∧ y ≤ (n : Int) - 1 then be' y else -1) → nf_M_bestRow pg gu m a1 a2 a3 pw sg hg ti rw2 fa2 be2 set x y fun r2 m' b1 b2 b3 rw2' fa2' be2' => K r n hl (bsT x.toNat tk1 tp1 hl n rwc (bsI x.toNat tk1 tp1 hl n rwc k)) (bsW x.toNat tk1 n rwc (bsI x.toNat tk1 tp1 hl n rwc k)) tk1 tp1 rw' fa' wa' gr' ts' be' r2 m' b1 b2 b3 rw2' fa2' be2' := fun r er => sm_bestRow (T := tk1) (P := tp1) (L := hl) hpg hgu hset (fun q => absurd hh2 q) (fun _ q => absurd v1 q) (fun _ _ q => absurd v2 q) hpw hs3 (fun _ _ _ => ⟨⟨hhl.symm, e3, e4⟩, hTT, fun rwm hrm k' kE' m' b1 b2 b3 rw3 f be3 hbe3 => h _ _ _ _ _ _ _ _ _ _ _ _ _ _ _ _ _ _ _ _ _ hI1 hA' hW' (by
    rw [enu] at kE' hbe3
    rw [enu, Int.toNat_natCast]
    rw [Int.toNat_natCast] at hbe3
    have eq : ∀ q : Int, 0 ≤ q → q < (n : Int) → rwc q = rwm q := fun q q0 q1 => rw1_e hgu.1 hr1u hrm q0 (by omega)
    have ek := sqE_u (n := (n : Int)) (by omega) eq kE kE'
    subst ek
    have eI := bsI_c (x := x.toNat) (T := tk1) (P := tp1) (L := hl) eq k kE.1
    have bb := bsI_b x.toNat tk1 tp1 hl n rwc k
    have sO : sqO n rwc (bsI x.toNat tk1 tp1 hl n rwc k) := fun j hj => kE.1 j (by omega)
    have eT := (bs_c (x := x.toNat) (T := tk1) (P := tp1) (L := hl) eq sO).1
    rw [er, ← eI, ← eT]
    by_cases y1 : y = -1
    · rw [if_pos y1, if_pos y1]
    · rw [if_neg y1, if_neg y1]
      by_cases y2 : 0 ≤ y ∧ y ≤ (n : Int) - 1
      · rw [if_pos y2, if_pos y2, hbe y y2.1 (by omega), hbe3 y y2.1 (by omega), ← eI]
        exact sq_c (by omega) eq _ sO y y2.1 (by omega)
      · rw [if_neg y2, if_neg y2])⟩)
  refine cB_i (fun y1 => fin _ (by rw [if_pos y1])) (fun y1 => ?_)
  unfold nf_Rush_bestMember
  simp only [ci_m1, ci_m10, ci_m1001, ci_m1002, ci_m1003, ci_m1004, ci_0, ci_1, ci_10, ci_100, ci_1000, ci_10000, ci_101, ci_103, ci_104, ci_105, ci_107, ci_108, ci_110, ci_111, ci_114, ci_115, ci_116, ci_118, ci_119, ci_12, ci_122, ci_1431655765, ci_15, ci_16, ci_2, ci_20, ci_23, ci_24, ci_240, ci_252645135, ci_255, ci_256, ci_3, ci_32, ci_4, ci_420, ci_48, ci_5, ci_5040, ci_57, ci_59, ci_6, ci_60, ci_63, ci_64, ci_7, ci_70, ci_8, ci_858993459, ci_9, ci_900, ci_97, ci_99, ci_999, ci_9999, cl_0, cl_1, cl_10, cl_1000000000000, cl_122, cl_2, cl_2000000000000, cl_23, cl_255, cl_27, cl_3, cl_4, cl_48, cl_57, cl_6, cl_8, cl_96, cl_97, cl_99, cl_999, cl_9999]
  refine cB_i (fun y2 => fin _ (by rw [if_neg y1, if_neg (by omega)])) (fun y2 => cB_i (fun y3 => fin _ (by rw [if_neg y1, if_neg (by omega)])) (fun y3 => cB_f (by omega) (wO_i (by simp only [inb]; omega) (fin _ (by rw [if_neg y1, if_pos (by omega)])))))
