/-! IN STEP 11: the relation of class and model; feed, guest, night -/
def RG (gu : Int) (gs gk gt gm gb gh so ki ti mk br ha : Int → Int) : Prop := ∀ g, 0 ≤ g → g < gu → (gs g = so g ∧ gk g = ki g ∧ gt g = ti g ∧ gm g = mk g ∧ gb g = br g ∧ gh g = ha g) ∧ (-1 ≤ br g ∧ br g < 24) ∧ (0 ≤ mk g ∧ mk g ≤ 255) ∧ (0 ≤ ki g ∧ ki g ≤ 2)
def RP (pg : Int) (pk : Int → Int) (gu : Int) (gp ki hg : Int → Int) : Prop := (∀ g p, 0 ≤ g → g < gu → 0 ≤ p → p < 24 → (gp g = p ↔ hg p = g)) ∧ (∀ g, 0 ≤ g → g < gu → gp g = -1 ∨ (0 ≤ gp g ∧ gp g < pg ∧ pk (gp g) = ki g))
def RE (gu ev : Int) (er hb hg : Int → Int) : Prop := (∀ g, 0 ≤ g → g < gu → hb g < ev) ∧ (∀ e, 0 ≤ e → e < ev → 0 ≤ er (7 * e) ∧ er (7 * e) ≤ 2 ∧ 0 ≤ er (7 * e + 2) ∧ er (7 * e + 2) < gu ∧ (er (7 * e) ≠ 2 → 0 ≤ er (7 * e + 5) ∧ er (7 * e + 5) < gu)) ∧ (∀ e g, 0 ≤ e → e < ev → 0 ≤ g → g < gu → ((er (7 * e) = 0 ∧ er (7 * e + 5) = g) ↔ hb g = e)) ∧ (∀ e, 0 ≤ e → e < ev → er (7 * e) = 1 → 0 ≤ hb (er (7 * e + 5)) ∧ ∀ p, 0 ≤ p → p < 24 → hg p ≠ er (7 * e + 5)) ∧ (∀ e e', 0 ≤ e → e < ev → 0 ≤ e' → e' < ev → er (7 * e) = 1 → er (7 * e') = 1 → er (7 * e + 5) = er (7 * e' + 5) → e = e')
def RF (ev : Int) (ef er : Int → Int) : Prop := ∀ k, 0 ≤ k → k < 7 * ev → ef k = er k
def RC (gu cl : Int) (cg cy cz mg my mz : Int → Int) : Prop := ∀ c, 0 ≤ c → c < cl → (cg c = mg c ∧ cy c = my c ∧ cz c = mz c) ∧ (0 ≤ mg c ∧ mg c < gu) ∧ (0 ≤ my c ∧ my c ≤ 255) ∧ (0 ≤ mz c ∧ mz c ≤ 255)
def sumN (f : Int → Int) : Nat → Int
  | 0 => 0
  | n + 1 => sumN f n + f (n : Int)
def RN (ni : Int) (nl pl we le : Int → Int) : Prop := ∀ p w k, 0 ≤ p → p < 4 → 0 ≤ w → w < 2 → 0 ≤ k → k < 3 → nl ((p * 2 + w) * 3 + k) = sumN (fun n => if pl n = p ∧ we n = w then le (3 * n + k) else 0) ni.toNat
def RS (pg : Int) (pk : Int → Int) (gn : Int) (gs gk gt gm gb gp gh : Int → Int) (en : Int) (ef : Int → Int) (cn : Int) (cg cy cz : Int → Int) (nn : Int) (nl : Int → Int) (gu : Int) (so ki ti mk br ha hb hg : Int → Int) (ev : Int) (er : Int → Int) (cl : Int) (mg my mz : Int → Int) (ni : Int) (pl we le : Int → Int) : Prop :=
  (gn = gu ∧ en = ev ∧ cn = cl ∧ nn = ni) ∧ RG gu gs gk gt gm gb gh so ki ti mk br ha ∧ RP pg pk gu gp ki hg ∧ RE gu ev er hb hg ∧ RF ev ef er ∧ RC gu cl cg cy cz mg my mz ∧ RN ni nl pl we le
theorem sumN_c {f g : Int → Int} : ∀ n : Nat, (∀ k : Nat, k < n → f k = g k) → sumN f n = sumN g n := by
  intro n
  induction n with
  | zero => intro _; rfl
  | succ n ih =>
    intro h
    show sumN f n + f n = sumN g n + g n
    rw [ih (fun k hk => h k (by omega)), h n (by omega)]
/-! bytes -/
theorem by_255 : ∀ i : Nat, i < 64 → (255#64).getLsbD i = decide (i < 8) := by decide
theorem by_255' : ∀ i : Nat, i < 32 → (255#32).getLsbD i = decide (i < 8) := by decide
theorem sh_c : ∀ k : Nat, k < 8 → ((Int32.ofInt (8 * (k : Int))).toInt64.toUInt64 &&& Int64.toUInt64 63).toBitVec % 64 = BitVec.ofNat 64 (8 * k) ∧ ((Int32.ofInt (8 * (k : Int))).toInt64 &&& 63).toBitVec.smod 64 = BitVec.ofNat 64 (8 * k) := by decide +kernel
theorem by_bv (v : BitVec 64) (k : Nat) (hk : k < 8) : (((v >>> (8 * k)).signExtend 32).signExtend 8).signExtend 32 &&& 255#32 = ((v.sshiftRight (8 * k)) &&& 255#64).signExtend 32 := by
  apply BitVec.eq_of_getLsbD_eq
  intro j hj
  have j6 : j < 64 := by omega
  by_cases h8 : j < 8
  · have j7 : 8 * k + j < 64 := by omega
    have j8 : ¬ 64 ≤ j := by omega
    simp only [BitVec.getLsbD_and, BitVec.getLsbD_signExtend, BitVec.getLsbD_sshiftRight, BitVec.getLsbD_ushiftRight, by_255' j hj, by_255 j j6, h8, hj, j6, j7, j8, decide_true, decide_false, Bool.true_and, Bool.and_true, if_true, Bool.not_false]
  · simp only [BitVec.getLsbD_and, BitVec.getLsbD_signExtend, by_255' j hj, by_255 j j6, h8, hj, j6, decide_true, decide_false, Bool.and_false, if_true]
theorem by_eq {w i : Int} (h0 : 0 ≤ i) (h1 : i < 8) : iand (i2b (l2i (lushr w (8 * i)))) 255 = l2i (land (lshr w (8 * i)) 255) := by
  obtain ⟨k, rfl⟩ : ∃ k : Nat, i = (k : Int) := ⟨i.toNat, by omega⟩
  have hk : k < 8 := by omega
  obtain ⟨s1, s2⟩ := sh_c k hk
  have e1 : lushr w (8 * (k : Int)) = ((Int64.ofInt w).toUInt64 >>> ((Int32.ofInt (8 * (k : Int))).toInt64.toUInt64 &&& Int64.toUInt64 63)).toInt64.toInt := rfl
  have e2 : lshr w (8 * (k : Int)) = (Int64.ofInt w >>> ((Int32.ofInt (8 * (k : Int))).toInt64 &&& 63)).toInt := rfl
  rw [e1, e2]
  generalize hz1 : ((Int64.ofInt w).toUInt64 >>> ((Int32.ofInt (8 * (k : Int))).toInt64.toUInt64 &&& Int64.toUInt64 63)).toInt64 = z1
  generalize hz2 : (Int64.ofInt w >>> ((Int32.ofInt (8 * (k : Int))).toInt64 &&& 63)) = z2
  have b1 : z1.toBitVec = BitVec.ofInt 64 w >>> (8 * k) := by
    rw [← hz1]
    show ((Int64.ofInt w).toUInt64 >>> ((Int32.ofInt (8 * (k : Int))).toInt64.toUInt64 &&& Int64.toUInt64 63)).toBitVec = _
    rw [UInt64.toBitVec_shiftRight, s1]
    show (BitVec.ofInt 64 w) >>> (BitVec.ofNat 64 (8 * k)).toNat = _
    rw [BitVec.toNat_ofNat, Nat.mod_eq_of_lt (by omega)]
  have b2 : z2.toBitVec = (BitVec.ofInt 64 w).sshiftRight (8 * k) := by
    rw [← hz2, Int64.toBitVec_shiftRight, s2]
    show (BitVec.ofInt 64 w).sshiftRight (BitVec.ofNat 64 (8 * k)).toNat = _
    rw [BitVec.toNat_ofNat, Nat.mod_eq_of_lt (by omega)]
  unfold iand i2b l2i land
  rw [tl_of, ti_of, ti_of, tl_of, tl_of]
  show (z1.toInt32.toInt8.toInt32 &&& Int32.ofInt 255).toBitVec.toInt = (z2 &&& Int64.ofInt 255).toInt32.toBitVec.toInt
  have key : (z1.toInt32.toInt8.toInt32 &&& Int32.ofInt 255).toBitVec = (z2 &&& Int64.ofInt 255).toInt32.toBitVec := by
    rw [Int32.toBitVec_and]
    show ((z1.toBitVec.signExtend 32).signExtend 8).signExtend 32 &&& 255#32 = (z2.toBitVec &&& 255#64).signExtend 32
    rw [b1, b2]
    exact by_bv _ k hk
  rw [key]
