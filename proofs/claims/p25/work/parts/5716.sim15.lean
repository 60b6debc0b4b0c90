/-! IN STEP 16: in how many ways -/
theorem sumN_0 {f : Int → Int} : ∀ n : Nat, (∀ k : Nat, k < n → f k = 0) → sumN f n = 0 := by
  intro n
  induction n with
  | zero => intro _; rfl
  | succ n ih =>
    intro h
    show sumN f n + f n = 0
    rw [ih (fun k hk => h k (by omega)), h n (by omega)]
    rfl
theorem sumN_nn {f : Int → Int} : ∀ n : Nat, (∀ k : Nat, k < n → 0 ≤ f k) → 0 ≤ sumN f n := by
  intro n
  induction n with
  | zero => intro _; exact Int.le_refl _
  | succ n ih =>
    intro h
    have a := ih (fun k hk => h k (by omega))
    have b := h n (by omega)
    show 0 ≤ sumN f n + f n
    omega
theorem sumN_add (f g : Int → Int) : ∀ n : Nat, sumN (fun k => f k + g k) n = sumN f n + sumN g n := by
  intro n
  induction n with
  | zero => rfl
  | succ n ih =>
    show sumN (fun k => f k + g k) n + (f n + g n) = (sumN f n + f n) + (sumN g n + g n)
    rw [ih]; omega
theorem sumN_swap (f : Int → Int → Int) (m : Nat) : ∀ n : Nat, sumN (fun k => sumN (fun t => f k t) m) n = sumN (fun t => sumN (fun k => f k t) n) m := by
  intro n
  induction n with
  | zero => exact (sumN_0 m (fun _ _ => rfl)).symm
  | succ n ih =>
    show sumN (fun k => sumN (fun t => f k t) m) n + sumN (fun t => f n t) m = sumN (fun t => sumN (fun k => f k t) n + f n t) m
    rw [ih, sumN_add]
theorem sumN_if (c : Prop) [Decidable c] (f : Int → Int) (n : Nat) : (if c then sumN f n else 0) = sumN (fun k => if c then f k else 0) n := by
  by_cases h : c
  · rw [if_pos h]; exact sumN_c n (fun k _ => (if_pos h).symm)
  · rw [if_neg h]; exact (sumN_0 n (fun k _ => if_neg h)).symm
theorem sumN_le {f : Int → Int} {n : Nat} (hn : ∀ k : Nat, k < n → 0 ≤ f k) {j : Nat} (hj : j < n) : f j ≤ sumN f n := by
  induction n with
  | zero => omega
  | succ n ih =>
    have b := hn n (by omega)
    show f j ≤ sumN f n + f n
    by_cases e : j = n
    · subst e
      have := sumN_nn j (fun k hk => hn k (by omega))
      omega
    · have := ih (fun k hk => hn k (by omega)) (by omega)
      omega
theorem sumN_le2 {f : Int → Int} {n : Nat} (hn : ∀ k : Nat, k < n → 0 ≤ f k) {i j : Nat} (hi : i < n) (hj : j < n) (hij : i ≠ j) : f i + f j ≤ sumN f n := by
  induction n with
  | zero => omega
  | succ n ih =>
    have b := hn n (by omega)
    show f i + f j ≤ sumN f n + f n
    by_cases e : j = n
    · subst e
      have := sumN_le (fun k hk => hn k (by omega)) (show i < j by omega)
      omega
    · by_cases e2 : i = n
      · subst e2
        have := sumN_le (fun k hk => hn k (by omega)) (show j < i by omega)
        omega
      · have := ih (fun k hk => hn k (by omega)) (by omega) (by omega)
        omega
theorem sumN_one {f : Int → Int} {n : Nat} {j : Nat} (hj : j < n) (h : ∀ k : Nat, k < n → k ≠ j → f k = 0) : sumN f n = f j := by
  induction n with
  | zero => omega
  | succ n ih =>
    show sumN f n + f n = f j
    by_cases e : j = n
    · subst e
      rw [sumN_0 j (fun k hk => h k (by omega) (by omega))]; omega
    · rw [ih (by omega) (fun k hk hkj => h k (by omega) hkj), h n (by omega) (fun q => e q.symm)]; omega
/-- ways in which the claims of a set can have the first things -/
def ww (K : Nat) (f : Int → Int → Bool) : Nat → Int → Int
  | 0, S => if S = 0 then 1 else 0
  | t + 1, S => ww K f t S + sumN (fun k => if bit S k = true ∧ f k (t : Int) = true then ww K f t (ixor S (ishl 1 k)) else 0) K
theorem ww_s (K : Nat) (f : Int → Int → Bool) (t : Nat) (S : Int) : ww K f (t + 1) S = ww K f t S + sumN (fun k => if bit S k = true ∧ f k (t : Int) = true then ww K f t (ixor S (ishl 1 k)) else 0) K := rfl
theorem ww_n (K : Nat) (f : Int → Int → Bool) : ∀ (t : Nat) (S : Int), 0 ≤ ww K f t S := by
  intro t
  induction t with
  | zero =>
    intro S
    show (0 : Int) ≤ if S = 0 then 1 else 0
    split <;> omega
  | succ t ih =>
    intro S
    rw [ww_s]
    have a := ih S
    have b := sumN_nn (f := fun k => if bit S k = true ∧ f k (t : Int) = true then ww K f t (ixor S (ishl 1 k)) else 0) K (fun k _ => by
      split
      · exact ih _
      · omega)
    omega
theorem sumN_b {f : Int → Int} {M : Int} : ∀ n : Nat, (∀ k : Nat, k < n → 0 ≤ f k ∧ f k ≤ M) → sumN f n ≤ M * n := by
  intro n
  induction n with
  | zero => intro _; show (0 : Int) ≤ M * 0; omega
  | succ n ih =>
    intro h
    have a := ih (fun k hk => h k (by omega))
    have b := h n (by omega)
    show sumN f n + f n ≤ M * ((n + 1 : Nat) : Int)
    rw [Int.natCast_add, Int.mul_add]
    show sumN f n + f n ≤ M * n + M * 1
    omega
theorem ww_p {K : Nat} (hK : K ≤ 6) (f : Int → Int → Bool) : ∀ (t : Nat) (S : Int), ww K f t S ≤ p7 t := by
  intro t
  induction t with
  | zero =>
    intro S
    show (if S = 0 then (1 : Int) else 0) ≤ 1
    split <;> omega
  | succ t ih =>
    intro S
    rw [ww_s]
    have a := ih S
    have a0 := ww_n K f t S
    have b := sumN_b (f := fun k => if bit S k = true ∧ f k (t : Int) = true then ww K f t (ixor S (ishl 1 k)) else 0) (M := p7 t) K (fun k _ => by
      split
      · exact ⟨ww_n K f t _, ih _⟩
      · exact ⟨by omega, by omega⟩)
    have c : p7 t * (K : Int) ≤ p7 t * 6 := Int.mul_le_mul_of_nonneg_left (by omega) (by omega)
    show _ ≤ 7 * p7 t
    omega
theorem bt_ixor (a b k : Int) : bit (ixor a b) k = (bit a k ^^ bit b k) := by
  unfold bit ixor
  rw [bv_ti, Int32.toBitVec_xor, BitVec.getLsbD_xor]
  rfl
theorem bt_x {S k c : Int} (h0 : 0 ≤ k) (h1 : k < 32) (h2 : 0 ≤ c) (h3 : c < 32) : bit (ixor S (ishl 1 k)) c = (bit S c ^^ decide (k = c)) := by
  rw [bt_ixor, bt_shl h0 h1 h2 h3]
/-- claim c has thing t, told on its own -/
def fo (f : Int → Int → Bool) (c t : Int) : Int → Int → Bool := fun k g => if k = c then decide (g = t) else f k g
/-- the same, told to all -/
def fa (f : Int → Int → Bool) (c t : Int) : Int → Int → Bool := fun k g => f k g && (decide (k = c) == decide (g = t))
section WW
variable {K : Nat} {f : Int → Int → Bool} {c : Int}
theorem ww_c (t : Nat) (hK : K ≤ 6) (hc : 0 ≤ c ∧ c < K) (S : Int) : ∀ T : Nat, ∀ S, bit S c = false → ww K (fo f c t) T S = ww K f T S := by
  intro T
  induction T with
  | zero => intro S _; rfl
  | succ T ih =>
    intro S hS
    rw [ww_s, ww_s, ih S hS]
    congr 1
    refine sumN_c K (fun k hk => ?_)
    by_cases e : (k : Int) = c
    · rw [e, hS, if_neg (by simp), if_neg (by simp)]
    · have e1 : fo f c t k T = f k T := if_neg e
      rw [e1]
      by_cases g : bit S k = true ∧ f k T = true
      · rw [if_pos g, if_pos g]
        refine ih _ ?_
        rw [bt_x (by omega) (by omega) hc.1 (by omega), hS, decide_eq_false e]; rfl
      · rw [if_neg g, if_neg g]
theorem ww_z (t : Nat) (hK : K ≤ 6) (hc : 0 ≤ c ∧ c < K) : ∀ T : Nat, T ≤ t → ∀ S, bit S c = true → ww K (fo f c t) T S = 0 := by
  intro T
  induction T with
  | zero =>
    intro _ S hS
    show (if S = 0 then (1 : Int) else 0) = 0
    rw [if_neg (fun e => by rw [e, bt_0] at hS; exact absurd hS (by decide))]
  | succ T ih =>
    intro hT S hS
    rw [ww_s, ih (by omega) S hS, sumN_0 K (fun k hk => ?_)]
    · rfl
    · by_cases e : (k : Int) = c
      · have e1 : fo f c t k T = false := by
          unfold fo
          rw [if_pos e]
          exact decide_eq_false (by omega)
        rw [e1, if_neg (by simp)]
      · split
        · refine ih (by omega) _ ?_
          rw [bt_x (by omega) (by omega) hc.1 (by omega), hS, decide_eq_false e]; rfl
        · rfl
theorem ww_a0 (t : Nat) (hK : K ≤ 6) (hc : 0 ≤ c ∧ c < K) : ∀ T : Nat, T ≤ t → ∀ S, (bit S c = true → ww K (fa f c t) T S = 0) ∧ (bit S c = false → ww K (fa f c t) T S = ww K f T S) := by
  intro T
  induction T with
  | zero =>
    intro _ S
    refine ⟨fun hS => ?_, fun _ => rfl⟩
    show (if S = 0 then (1 : Int) else 0) = 0
    rw [if_neg (fun e => by rw [e, bt_0] at hS; exact absurd hS (by decide))]
  | succ T ih =>
    intro hT S
    have e0 : ∀ k : Int, k ≠ c → fa f c t k T = f k T := fun k e => by
      unfold fa
      rw [decide_eq_false e, decide_eq_false (by omega)]; simp
    refine ⟨fun hS => ?_, fun hS => ?_⟩
    · rw [ww_s, (ih (by omega) S).1 hS, sumN_0 K (fun k hk => ?_)]
      · rfl
      · by_cases e : (k : Int) = c
        · have e1 : fa f c t k T = false := by
            unfold fa
            rw [decide_eq_true e, decide_eq_false (by omega)]; simp
          rw [e1, if_neg (by simp)]
        · split
          · refine (ih (by omega) _).1 ?_
            rw [bt_x (by omega) (by omega) hc.1 (by omega), hS, decide_eq_false e]; rfl
          · rfl
    · rw [ww_s, ww_s, (ih (by omega) S).2 hS]
      congr 1
      refine sumN_c K (fun k hk => ?_)
      by_cases e : (k : Int) = c
      · rw [e, hS, if_neg (by simp), if_neg (by simp)]
      · rw [e0 k e]
        by_cases g : bit S k = true ∧ f k T = true
        · rw [if_pos g, if_pos g]
          refine (ih (by omega) _).2 ?_
          rw [bt_x (by omega) (by omega) hc.1 (by omega), hS, decide_eq_false e]; rfl
        · rw [if_neg g, if_neg g]
theorem ww_oa (t : Nat) (hK : K ≤ 6) (hc : 0 ≤ c ∧ c < K) (hf : f c t = true) : ∀ T : Nat, ∀ S, bit S c = true → ww K (fo f c t) T S = ww K (fa f c t) T S := by
  intro T
  induction T with
  | zero => intro S _; rfl
  | succ T ih =>
    intro S hS
    by_cases hT : T + 1 ≤ t
    · rw [ww_z t hK hc _ hT S hS, (ww_a0 t hK hc _ hT S).1 hS]
    · rw [ww_s, ww_s, ih S hS]
      congr 1
      refine sumN_c K (fun k hk => ?_)
      by_cases e : (k : Int) = c
      · by_cases eT : T = t
        · have e1 : fo f c t k T = true := by
            unfold fo
            rw [if_pos e]
            exact decide_eq_true (by omega)
          have e2 : fa f c t k T = true := by
            unfold fa
            rw [e, eT, hf]; simp
          rw [e1, e2]
          by_cases g : bit S k = true
          · rw [if_pos ⟨g, rfl⟩, if_pos ⟨g, rfl⟩, eT]
            have hb : bit (ixor S (ishl 1 k)) c = false := by
              rw [bt_x (by omega) (by omega) hc.1 (by omega), hS, decide_eq_true e]; rfl
            rw [ww_c t hK hc 0 t _ hb, (ww_a0 t hK hc t (Nat.le_refl _) _).2 hb]
          · rw [if_neg (fun q => g q.1), if_neg (fun q => g q.1)]
        · have e1 : fo f c t k T = false := by
            unfold fo
            rw [if_pos e]
            exact decide_eq_false (by omega)
          have e2 : fa f c t k T = false := by
            unfold fa
            rw [decide_eq_true e, decide_eq_false (show ¬ (T : Int) = t by omega)]; simp
          rw [e1, e2]
          simp
      · have hb : bit (ixor S (ishl 1 k)) c = true := by
          rw [bt_x (by omega) (by omega) hc.1 (by omega), hS, decide_eq_false e]; rfl
        have e1 : fo f c t k T = f k T := if_neg e
        rw [e1]
        by_cases eT : T = t
        · have e2 : fa f c t k T = false := by
            unfold fa
            rw [decide_eq_false e, decide_eq_true (show (T : Int) = t by omega)]; simp
          rw [e2, if_neg (show ¬ (bit S k = true ∧ false = true) by simp), eT, ww_z t hK hc t (Nat.le_refl _) _ hb]
          split <;> rfl
        · have e2 : fa f c t k T = f k T := by
            unfold fa
            rw [decide_eq_false e, decide_eq_false (show ¬ (T : Int) = t by omega)]; simp
          rw [e2, ih _ hb]
theorem ww_sum (hK : K ≤ 6) (hc : 0 ≤ c ∧ c < K) : ∀ T : Nat, ∀ S, bit S c = true → ww K f T S = sumN (fun t => if f c t = true then ww K (fo f c t) T S else 0) T := by
  intro T
  induction T with
  | zero =>
    intro S hS
    show (if S = 0 then (1 : Int) else 0) = 0
    rw [if_neg (fun e => by rw [e, bt_0] at hS; exact absurd hS (by decide))]
  | succ T ih =>
    intro S hS
    have hbc : bit (ixor S (ishl 1 c)) c = false := by
      rw [bt_x hc.1 (by omega) hc.1 (by omega), hS, decide_eq_true rfl]; rfl
    have hbk : ∀ k : Nat, k < K → (k : Int) ≠ c → bit (ixor S (ishl 1 k)) c = true := fun k hk e => by
      rw [bt_x (by omega) (by omega) hc.1 (by omega), hS, decide_eq_false e]; rfl
    -- what thing T gives
    have last : ww K (fo f c T) (T + 1) S = ww K f T (ixor S (ishl 1 c)) := by
      rw [ww_s, ww_z T hK hc T (Nat.le_refl _) S hS, sumN_one (j := c.toNat) (by omega) (fun k hk e => ?_)]
      · have e1 : ((c.toNat : Nat) : Int) = c := by omega
        rw [e1]
        have e2 : fo f c T c T = true := by
          unfold fo
          rw [if_pos rfl]
          exact decide_eq_true rfl
        rw [e2, if_pos ⟨hS, rfl⟩, ww_c T hK hc 0 T _ hbc]; omega
      · have e1 : (k : Int) ≠ c := by omega
        split
        · exact ww_z T hK hc T (Nat.le_refl _) _ (hbk k hk e1)
        · rfl
    have early : ∀ t : Nat, t < T → ww K (fo f c t) (T + 1) S = ww K (fo f c t) T S + sumN (fun k => if bit S k = true ∧ f k T = true ∧ k ≠ c then ww K (fo f c t) T (ixor S (ishl 1 k)) else 0) K := fun t ht => by
      rw [ww_s]
      congr 1
      refine sumN_c K (fun k hk => ?_)
      by_cases e : (k : Int) = c
      · have e1 : fo f c t k T = false := by
          unfold fo
          rw [if_pos e]
          exact decide_eq_false (by omega)
        rw [e1, if_neg (by simp), if_neg (fun q => q.2.2 e)]
      · have e1 : fo f c t k T = f k T := if_neg e
        rw [e1]
        by_cases g : bit S k = true ∧ f k T = true
        · rw [if_pos g, if_pos ⟨g.1, g.2, e⟩]
        · rw [if_neg g, if_neg (fun q => g ⟨q.1, q.2.1⟩)]
    show _ = sumN (fun t => if f c t = true then ww K (fo f c t) (T + 1) S else 0) T + (if f c T = true then ww K (fo f c T) (T + 1) S else 0)
    rw [last]
    have r1 : sumN (fun t => if f c t = true then ww K (fo f c t) (T + 1) S else 0) T = sumN (fun t => (if f c t = true then ww K (fo f c t) T S else 0) + (if f c t = true then sumN (fun k => if bit S k = true ∧ f k T = true ∧ k ≠ c then ww K (fo f c t) T (ixor S (ishl 1 k)) else 0) K else 0)) T := by
      refine sumN_c T (fun t ht => ?_)
      rw [early t ht]
      split <;> omega
    rw [r1, sumN_add, ← ih S hS, ww_s]
    have r2 : sumN (fun t => if f c t = true then sumN (fun k => if bit S k = true ∧ f k T = true ∧ k ≠ c then ww K (fo f c t) T (ixor S (ishl 1 k)) else 0) K else 0) T = sumN (fun k => if bit S k = true ∧ f k T = true ∧ k ≠ c then ww K f T (ixor S (ishl 1 k)) else 0) K := by
      have r3 : sumN (fun t => if f c t = true then sumN (fun k => if bit S k = true ∧ f k T = true ∧ k ≠ c then ww K (fo f c t) T (ixor S (ishl 1 k)) else 0) K else 0) T = sumN (fun t => sumN (fun k => if f c t = true then (if bit S k = true ∧ f k T = true ∧ k ≠ c then ww K (fo f c t) T (ixor S (ishl 1 k)) else 0) else 0) K) T := sumN_c T (fun t _ => sumN_if _ _ K)
      rw [r3, sumN_swap (fun t k => if f c t = true then (if bit S k = true ∧ f k T = true ∧ k ≠ c then ww K (fo f c t) T (ixor S (ishl 1 k)) else 0) else 0) K T]
      refine sumN_c K (fun k hk => ?_)
      by_cases g : bit S k = true ∧ f k T = true ∧ (k : Int) ≠ c
      · rw [if_pos g, ih _ (hbk k hk g.2.2)]
        exact sumN_c T (fun t _ => by rw [if_pos g])
      · rw [if_neg g]
        exact sumN_0 T (fun t _ => by rw [if_neg g]; split <;> rfl)
    rw [r2]
    have r4 : sumN (fun k => if bit S k = true ∧ f k T = true then ww K f T (ixor S (ishl 1 k)) else 0) K = sumN (fun k => (if bit S k = true ∧ f k T = true ∧ k ≠ c then ww K f T (ixor S (ishl 1 k)) else 0) + (if k = c then (if f c T = true then ww K f T (ixor S (ishl 1 c)) else 0) else 0)) K := by
      refine sumN_c K (fun k hk => ?_)
      by_cases e : (k : Int) = c
      · have z : ¬ (bit S k = true ∧ f k T = true ∧ (k : Int) ≠ c) := fun q => q.2.2 e
        rw [if_neg z, if_pos e, e, hS]
        by_cases g : f c T = true
        · rw [if_pos ⟨rfl, g⟩, if_pos g]; omega
        · rw [if_neg (fun q => g q.2), if_neg g]; omega
      · rw [if_neg e]
        by_cases g : bit S k = true ∧ f k T = true
        · rw [if_pos g, if_pos ⟨g.1, g.2, e⟩]; omega
        · rw [if_neg g, if_neg (fun q => g ⟨q.1, q.2.1⟩)]; omega
    rw [r4, sumN_add, sumN_one (f := fun k => if k = c then (if f c T = true then ww K f T (ixor S (ishl 1 c)) else 0) else 0) (j := c.toNat) (by omega) (fun k hk e => if_neg (by omega))]
    rw [if_pos (show ((c.toNat : Nat) : Int) = c by omega)]
    omega
theorem ww_e {f g : Int → Int → Bool} (hK : K ≤ 6) : ∀ T : Nat, (∀ k t : Nat, k < K → t < T → f k t = g k t) → ∀ S, ww K f T S = ww K g T S := by
  intro T
  induction T with
  | zero => intro _ S; rfl
  | succ T ih =>
    intro h S
    have ih2 := ih (fun k t hk ht => h k t hk (by omega))
    rw [ww_s, ww_s, ih2 S]
    congr 1
    refine sumN_c K (fun k hk => ?_)
    rw [h k T hk (by omega), ih2]
theorem ww_up (hK : K ≤ 6) {n : Nat} : ∀ T : Nat, n ≤ T → (∀ k t : Nat, k < K → n ≤ t → f k t = false) → ∀ S, ww K f T S = ww K f n S := by
  intro T
  induction T with
  | zero => intro h _ S; rw [show n = 0 by omega]
  | succ T ih =>
    intro h hf S
    by_cases e : n = T + 1
    · rw [e]
    · rw [ww_s, ih (by omega) hf S, sumN_0 K (fun k hk => ?_)]
      · omega
      · rw [hf k T hk (by omega), if_neg (by simp)]
end WW
