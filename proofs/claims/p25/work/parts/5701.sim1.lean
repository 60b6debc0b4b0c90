/-! IN STEP 1: the text's grammar in whole numbers -/
def skN (T : Int → Int) (n : Int) : Nat → Int → Int
  | 0, a => a
  | k + 1, a => if a < n ∧ T a = 32 then skN T n k (a + 1) else a
def sk (T : Int → Int) (n a : Int) : Int := skN T n (n - a).toNat a
theorem skN_p (T : Int → Int) (n : Int) : ∀ (k : Nat) (a : Int), a ≤ n → (n - a).toNat ≤ k → a ≤ skN T n k a ∧ skN T n k a ≤ n ∧ (∀ j, a ≤ j → j < skN T n k a → T j = 32) ∧ (skN T n k a < n → T (skN T n k a) ≠ 32) := by
  intro k
  induction k with
  | zero =>
    intro a h1 h2
    show a ≤ a ∧ a ≤ n ∧ (∀ j, a ≤ j → j < a → T j = 32) ∧ (a < n → T a ≠ 32)
    exact ⟨by omega, h1, by omega, by omega⟩
  | succ k ih =>
    intro a h1 h2
    have e : skN T n (k + 1) a = if a < n ∧ T a = 32 then skN T n k (a + 1) else a := rfl
    rw [e]
    by_cases c : a < n ∧ T a = 32
    · rw [if_pos c]
      obtain ⟨i1, i2, i3, i4⟩ := ih (a + 1) (by omega) (by omega)
      refine ⟨by omega, i2, fun j b d => ?_, i4⟩
      by_cases ej : j = a
      · rw [ej]; exact c.2
      · exact i3 j (by omega) d
    · rw [if_neg c]
      exact ⟨by omega, h1, by omega, fun h => fun h2 => c ⟨h, h2⟩⟩
theorem sk_p {T : Int → Int} {n a : Int} (h : a ≤ n) : a ≤ sk T n a ∧ sk T n a ≤ n ∧ (∀ j, a ≤ j → j < sk T n a → T j = 32) ∧ (sk T n a < n → T (sk T n a) ≠ 32) := skN_p T n _ a h (Nat.le_refl _)
theorem sk_u {T : Int → Int} {n a x : Int} (h1 : a ≤ x) (h2 : x ≤ n) (h3 : ∀ j, a ≤ j → j < x → T j = 32) (h4 : x < n → T x ≠ 32) : sk T n a = x := by
  obtain ⟨i1, i2, i3, i4⟩ := sk_p (T := T) (show a ≤ n by omega)
  rcases Int.lt_trichotomy (sk T n a) x with h | h | h
  · exact absurd (h3 _ i1 h) (i4 (by omega))
  · exact h
  · exact absurd (i3 _ h1 h) (h4 (by omega))
def fgN (T : Int → Int) (n : Int) : Nat → Int → Int
  | 0, a => a
  | k + 1, a => if a < n ∧ 48 ≤ T a ∧ T a ≤ 57 then fgN T n k (a + 1) else a
def fg (T : Int → Int) (n a : Int) : Int := fgN T n (n - a).toNat a
theorem fgN_p (T : Int → Int) (n : Int) : ∀ (k : Nat) (a : Int), a ≤ n → (n - a).toNat ≤ k → a ≤ fgN T n k a ∧ fgN T n k a ≤ n ∧ (∀ j, a ≤ j → j < fgN T n k a → 48 ≤ T j ∧ T j ≤ 57) ∧ (fgN T n k a < n → ¬ (48 ≤ T (fgN T n k a) ∧ T (fgN T n k a) ≤ 57)) := by
  intro k
  induction k with
  | zero =>
    intro a h1 h2
    show a ≤ a ∧ a ≤ n ∧ (∀ j, a ≤ j → j < a → 48 ≤ T j ∧ T j ≤ 57) ∧ (a < n → ¬ (48 ≤ T a ∧ T a ≤ 57))
    exact ⟨by omega, h1, by omega, by omega⟩
  | succ k ih =>
    intro a h1 h2
    have e : fgN T n (k + 1) a = if a < n ∧ 48 ≤ T a ∧ T a ≤ 57 then fgN T n k (a + 1) else a := rfl
    rw [e]
    by_cases c : a < n ∧ 48 ≤ T a ∧ T a ≤ 57
    · rw [if_pos c]
      obtain ⟨i1, i2, i3, i4⟩ := ih (a + 1) (by omega) (by omega)
      refine ⟨by omega, i2, fun j b d => ?_, i4⟩
      by_cases ej : j = a
      · rw [ej]; exact c.2
      · exact i3 j (by omega) d
    · rw [if_neg c]
      exact ⟨by omega, h1, by omega, fun h => fun h2 => c ⟨h, h2⟩⟩
theorem fg_p {T : Int → Int} {n a : Int} (h : a ≤ n) : a ≤ fg T n a ∧ fg T n a ≤ n ∧ (∀ j, a ≤ j → j < fg T n a → 48 ≤ T j ∧ T j ≤ 57) ∧ (fg T n a < n → ¬ (48 ≤ T (fg T n a) ∧ T (fg T n a) ≤ 57)) := fgN_p T n _ a h (Nat.le_refl _)
theorem fg_u {T : Int → Int} {n a x : Int} (h1 : a ≤ x) (h2 : x ≤ n) (h3 : ∀ j, a ≤ j → j < x → 48 ≤ T j ∧ T j ≤ 57) (h4 : x < n → ¬ (48 ≤ T x ∧ T x ≤ 57)) : fg T n a = x := by
  obtain ⟨i1, i2, i3, i4⟩ := fg_p (T := T) (show a ≤ n by omega)
  rcases Int.lt_trichotomy (fg T n a) x with h | h | h
  · exact absurd (h3 _ i1 h) (i4 (by omega))
  · exact h
  · exact absurd (i3 _ h1 h) (h4 (by omega))
def dc (T : Int → Int) (a : Int) : Nat → Int
  | 0 => 0
  | k + 1 => 10 * dc T a k + (T (a + (k : Int)) - 48)
theorem dc_s {T : Int → Int} {a z : Int} (h : a ≤ z) : dc T a (z + 1 - a).toNat = 10 * dc T a (z - a).toNat + (T z - 48) := by
  have e : (z + 1 - a).toNat = (z - a).toNat + 1 := by omega
  rw [e]
  show 10 * dc T a (z - a).toNat + (T (a + ((z - a).toNat : Int)) - 48) = _
  rw [show a + ((z - a).toNat : Int) = z by omega]
theorem dc_0 {T : Int → Int} {a : Int} : dc T a (a - a).toNat = 0 := by
  rw [show (a - a).toNat = 0 by omega]; rfl
def ob {α β : Type} (o : Sum (Int × Int) α) (k : α → Sum (Int × Int) β) : Sum (Int × Int) β := match o with
  | .inl x => .inl x
  | .inr y => k y
theorem ob_l {α β : Type} {x : Int × Int} {k : α → Sum (Int × Int) β} : ob (.inl x) k = .inl x := rfl
theorem ob_r {α β : Type} {y : α} {k : α → Sum (Int × Int) β} : ob (.inr y) k = k y := rfl
def pNum (T : Int → Int) (n a lo hi : Int) : Sum (Int × Int) (Int × Int × Int) :=
  if fg T n (sk T n a) = sk T n a then .inl (1, sk T n a)
  else if fg T n (sk T n a) - sk T n a ≤ 3 ∧ lo ≤ dc T (sk T n a) (fg T n (sk T n a) - sk T n a).toNat ∧ dc T (sk T n a) (fg T n (sk T n a) - sk T n a).toNat ≤ hi then .inr (dc T (sk T n a) (fg T n (sk T n a) - sk T n a).toNat, sk T n a, fg T n (sk T n a))
  else .inl (2, sk T n a)
def iw (T : Int → Int) (n s : Int) (si : Nat) : Bool := decide (s + slenN si ≤ n) && ((List.range (slenN si)).all fun k => decide (T (s + (k : Int)) = schr si (k : Int))) && !(decide (s + slenN si < n) && decide (97 ≤ T (s + slenN si)) && decide (T (s + slenN si) ≤ 122))
theorem iw_t {T : Int → Int} {n s : Int} {si : Nat} : iw T n s si = true ↔ s + slenN si ≤ n ∧ (∀ k : Int, 0 ≤ k → k < slenN si → T (s + k) = schr si k) ∧ ¬ (s + slenN si < n ∧ 97 ≤ T (s + slenN si) ∧ T (s + slenN si) ≤ 122) := by
  unfold iw
  rw [Bool.and_eq_true, Bool.and_eq_true, decide_eq_true_eq, List.all_eq_true, Bool.not_eq_true', ← Bool.not_eq_true, Bool.and_eq_true, Bool.and_eq_true, decide_eq_true_eq, decide_eq_true_eq, decide_eq_true_eq]
  constructor
  · rintro ⟨⟨h1, h2⟩, h3⟩
    refine ⟨h1, fun k k0 k1 => ?_, fun h => h3 ⟨⟨h.1, h.2.1⟩, h.2.2⟩⟩
    have := of_decide_eq_true (h2 k.toNat (List.mem_range.mpr (by omega)))
    rwa [Int.toNat_of_nonneg k0] at this
  · rintro ⟨h1, h2, h3⟩
    exact ⟨⟨h1, fun k hk => decide_eq_true (h2 k (by omega) (by have := List.mem_range.mp hk; omega))⟩, fun h => h3 ⟨h.1.1, h.1.2, h.2⟩⟩
def pWord (T : Int → Int) (n a : Int) (si : Nat) : Sum (Int × Int) Int := if iw T n (sk T n a) si = true then .inr (sk T n a + slenN si) else .inl (1, sk T n a)
def pEnd (T : Int → Int) (n a : Int) : Sum (Int × Int) Int := if sk T n a < n ∧ T (sk T n a) = 59 then .inr (sk T n a + 1) else .inl (1, sk T n a)
def tl (t : Int → Bool) (j : Int) : Int → Bool := fun i => if i = j then true else t i
def pRow (T : Int → Int) (n a rp : Int) (rk rw : Int → Int) : Sum (Int × Int) (Int × Int × (Int → Int) × (Int → Int)) :=
  ob (pWord T n a 0) fun a1 => ob (pNum T n a1 1 24) fun x => ob (if rp + x.1 ≤ 24 then .inr x.2.2 else .inl (4, x.2.1)) fun a2 =>
  ob (pWord T n a2 5) fun a3 => ob (pNum T n a3 0 2) fun y => ob (pWord T n y.2.2 6) fun a4 => ob (pNum T n a4 0 99) fun z => ob (pEnd T n z.2.2) fun a5 =>
  .inr (a5, rp + x.1, (fun q => if rp ≤ q ∧ q < rp + x.1 then y.1 else rk q), (fun q => if rp ≤ q ∧ q < rp + x.1 then z.1 + (q - rp) else rw q))
def pOdds (T : Int → Int) (n a : Int) (t : Int → Bool) (ro : Int → Int) : Sum (Int × Int) (Int × (Int → Bool) × (Int → Int)) :=
  ob (pWord T n a 1) fun a1 => ob (pNum T n a1 0 3) fun s => ob (if t s.1 = true then .inl (3, s.2.1) else .inr s.2.2) fun a2 =>
  ob (pNum T n a2 0 100) fun x => ob (pNum T n x.2.2 0 100) fun y => ob (pNum T n y.2.2 0 100) fun z => ob (if x.1 + y.1 + z.1 = 100 then .inr z.2.2 else .inl (5, z.2.1)) fun a3 =>
  ob (pEnd T n a3) fun a4 => .inr (a4, tl t s.1, ups (ups (ups ro (3 * s.1) x.1) (3 * s.1 + 1) y.1) (3 * s.1 + 2) z.1)
def pWts (T : Int → Int) (n a : Int) (t : Int → Bool) (rs : Int → Int) : Sum (Int × Int) (Int × (Int → Bool) × (Int → Int)) :=
  ob (if t 4 = true then .inl (3, a) else .inr a) fun a0 => ob (pWord T n a0 2) fun a1 => ob (pNum T n a1 0 9) fun x => ob (pNum T n x.2.2 0 9) fun y => ob (pNum T n y.2.2 0 9) fun z => ob (pEnd T n z.2.2) fun a2 =>
  .inr (a2, tl t 4, ups (ups (ups rs 0 x.1) 1 y.1) 2 z.1)
def pOne (T : Int → Int) (n a : Int) (si : Nat) (t : Int → Bool) (rs : Int → Int) : Sum (Int × Int) (Int × (Int → Bool) × (Int → Int)) :=
  ob (if t (si + 2) = true then .inl (3, a) else .inr a) fun a0 => ob (pWord T n a0 si) fun a1 => ob (pNum T n a1 0 20) fun x => ob (pEnd T n x.2.2) fun a2 =>
  .inr (a2, tl t (si + 2), ups rs si x.1)
abbrev pSt : Type := Int × (Int → Bool) × Int × (Int → Int) × (Int → Int) × (Int → Int) × (Int → Int)
def pClause (T : Int → Int) (n a : Int) (t : Int → Bool) (rp : Int) (rk rw ro rs : Int → Int) : Sum (Int × Int) pSt :=
  if iw T n a 0 = true then ob (pRow T n a rp rk rw) fun x => .inr (x.1, t, x.2.1, x.2.2.1, x.2.2.2, ro, rs)
  else if iw T n a 1 = true then ob (pOdds T n a t ro) fun x => .inr (x.1, x.2.1, rp, rk, rw, x.2.2, rs)
  else if iw T n a 2 = true then ob (pWts T n a t rs) fun x => .inr (x.1, x.2.1, rp, rk, rw, ro, x.2.2)
  else if iw T n a 3 = true then ob (pOne T n a 3 t rs) fun x => .inr (x.1, x.2.1, rp, rk, rw, ro, x.2.2)
  else if iw T n a 4 = true then ob (pOne T n a 4 t rs) fun x => .inr (x.1, x.2.1, rp, rk, rw, ro, x.2.2)
  else .inl (1, a)
def pRun (T : Int → Int) (n : Int) : Nat → pSt → Sum (Int × Int) pSt
  | 0, s => .inr s
  | k + 1, s => if s.1 < n then ob (pClause T n s.1 s.2.1 s.2.2.1 s.2.2.2.1 s.2.2.2.2.1 s.2.2.2.2.2.1 s.2.2.2.2.2.2) (fun r => pRun T n k (sk T n r.1, r.2)) else .inr s
/-! the class's reader keeps to it -/
def tx (n : Int) (F T : Int → Int) : Prop := (0 ≤ n ∧ n ≤ 240) ∧ ∀ k, 0 ≤ k → k < n → iand (F k) 255 = T k
theorem sx_byteAt {n i : Int} {F T : Int → Int} {Q : Int → Prop} (ht : tx n F T) (h : cB (0 ≤ i ∧ i < n) (Q (T i)) (Q (-1))) : nf_Reader_byteAt n F i Q := by
  have hn := ht.1
  refine sp_byteAt (cB_i (fun a => ?_) (fun a => h.2 (by omega)))
  rw [ht.2 i a.1 a.2.1]
  exact h.1 (by omega)
theorem sx_skip {n a : Int} {F T : Int → Int} {Q : Int → Prop} (ht : tx n F T) (ha : 0 ≤ a ∧ a ≤ n) (h : Q (sk T n a)) : nf_Reader_skipBlanks n a F Q := by
  have hn := ht.1
  unfold nf_Reader_skipBlanks
  simp only [ci_m1, ci_m10, ci_m1001, ci_m1002, ci_m1003, ci_m1004, ci_0, ci_1, ci_10, ci_100, ci_1000, ci_10000, ci_101, ci_103, ci_104, ci_105, ci_107, ci_108, ci_110, ci_111, ci_114, ci_115, ci_116, ci_118, ci_119, ci_12, ci_122, ci_1431655765, ci_15, ci_16, ci_2, ci_20, ci_23, ci_24, ci_240, ci_252645135, ci_255, ci_256, ci_3, ci_32, ci_4, ci_420, ci_48, ci_5, ci_5040, ci_57, ci_59, ci_6, ci_60, ci_63, ci_64, ci_7, ci_70, ci_8, ci_858993459, ci_9, ci_900, ci_97, ci_99, ci_999, ci_9999, cl_0, cl_1, cl_10, cl_1000000000000, cl_122, cl_2, cl_2000000000000, cl_23, cl_255, cl_27, cl_3, cl_4, cl_48, cl_57, cl_6, cl_8, cl_96, cl_97, cl_99, cl_999, cl_9999]
  have fin : ∀ x, a ≤ x → x ≤ n → (∀ j, a ≤ j → j < x → T j = 32) → (x < n → T x ≠ 32) → Q x := fun x h1 h2 h3 h4 => by
    rw [← sk_u h1 h2 h3 h4]; exact h
  refine cB_i (fun _ => fin _ (by omega) (by omega) (by omega) (by omega)) (fun _ => sx_byteAt ht (cB_i (fun _ => ?_) (fun hz => by omega)))
  refine cB_i (fun e => wO_i (by (try simp only [iR]); omega) ?_) (fun e => fin _ (by omega) (by omega) (by omega) (fun _ => e))
  refine nlp1_i (fun i => a + 1 ≤ i ∧ i ≤ n ∧ ∀ j, a ≤ j → j < i → T j = 32) (fun i => (n - i).toNat) ?_ ⟨by omega, by omega, fun j b d => ?_⟩
  · intro i hi self hself
    obtain ⟨i1, i2, i3⟩ := hi
    refine cB_i (fun _ => fin _ (by omega) (by omega) i3 (by omega)) (fun _ => sx_byteAt ht (cB_i (fun _ => ?_) (fun hz => by omega)))
    refine cB_i (fun e2 => wO_i (by (try simp only [iR]); omega) (hself _ ⟨by omega, by omega, fun j b d => ?_⟩ (by omega))) (fun e2 => fin _ (by omega) (by omega) i3 (fun _ => e2))
    by_cases ej : j = i
    · rw [ej]; exact e2
    · exact i3 j b (by omega)
  · rw [show j = a by omega]; exact e
theorem sx_isHere {n a : Int} {F T : Int → Int} {si : Nat} {Q : Int → Prop} (hsi : si < 7) (ht : tx n F T) (ha : 0 ≤ a ∧ a ≤ n) (h : cB (iw T n a si = true) (Q 1) (Q 0)) : nf_Reader_isHere n a F si Q := by
  have hn := ht.1
  unfold nf_Reader_isHere
  simp only [ci_m1, ci_m10, ci_m1001, ci_m1002, ci_m1003, ci_m1004, ci_0, ci_1, ci_10, ci_100, ci_1000, ci_10000, ci_101, ci_103, ci_104, ci_105, ci_107, ci_108, ci_110, ci_111, ci_114, ci_115, ci_116, ci_118, ci_119, ci_12, ci_122, ci_1431655765, ci_15, ci_16, ci_2, ci_20, ci_23, ci_24, ci_240, ci_252645135, ci_255, ci_256, ci_3, ci_32, ci_4, ci_420, ci_48, ci_5, ci_5040, ci_57, ci_59, ci_6, ci_60, ci_63, ci_64, ci_7, ci_70, ci_8, ci_858993459, ci_9, ci_900, ci_97, ci_99, ci_999, ci_9999, cl_0, cl_1, cl_10, cl_1000000000000, cl_122, cl_2, cl_2000000000000, cl_23, cl_255, cl_27, cl_3, cl_4, cl_48, cl_57, cl_6, cl_8, cl_96, cl_97, cl_99, cl_999, cl_9999]
  have hl := sl_b si hsi
  refine nlp1_i (fun (i : Int) => 0 ≤ i ∧ i ≤ slenN si ∧ a + i ≤ n ∧ ∀ k, 0 ≤ k → k < i → T (a + k) = schr si k) (fun i => ((slenN si : Int) - i).toNat) ?_ ⟨by omega, by omega, by omega, by omega⟩
  intro i hi self hself
  obtain ⟨i1, i2, i3, i4⟩ := hi
  refine wL_i (cB_i (fun _ => wL_i (wO_i (by (try simp only [iR]); omega) ?_)) (fun _ => wO_i (by (try simp only [iR]); omega) ?_))
  · have ei : i = slenN si := by omega
    have yes : ¬ (a + slenN si < n ∧ 97 ≤ T (a + slenN si) ∧ T (a + slenN si) ≤ 122) → Q 1 := fun hq => h.1 (iw_t.mpr ⟨by omega, fun k k0 k1 => i4 k k0 (by omega), hq⟩)
    refine sx_byteAt ht (cB_i (fun _ => ?_) (fun _ => ?_))
    · refine cB_i (fun _ => yes (by omega)) (fun _ => cB_i (fun _ => h.2 (fun hc => ?_)) (fun _ => yes (by omega)))
      exact (iw_t.mp hc).2.2 ⟨by omega, by omega, by omega⟩
    · exact cB_i (fun _ => yes (by omega)) (fun _ => by omega)
  · have hc := sc_bI hsi i1 (show i < slenN si by omega)
    have no : T (a + i) ≠ schr si i → Q 0 := fun hq => h.2 (fun hc => hq ((iw_t.mp hc).2.1 i i1 (by omega)))
    refine sx_byteAt ht (cB_i (fun hb => ?_) (fun hb => wO_i (by (try simp only [inb]); omega) (cB_i (fun e => by omega) (fun _ => ?_))))
    · refine wO_i (by (try simp only [inb]); omega) (cB_i (fun e => wO_i (by (try simp only [iR]); omega) (hself _ ⟨by omega, by omega, by omega, fun k k0 k1 => ?_⟩ (by omega))) (fun e => no e))
      by_cases ek : k = i
      · rw [ek]; exact e
      · exact i4 k k0 (by omega)
    · exact h.2 (fun hc => by have := (iw_t.mp hc).1; omega)
theorem so_word {n a : Int} {F T : Int → Int} {si : Nat} {Q : Int → Int → Int → Prop} (hsi : si < 7) (ht : tx n F T) (ha : 0 ≤ a ∧ a ≤ n) (h : match pWord T n a si with
    | .inl x => ∀ a', 0 ≤ a' → a' ≤ n → Q x.2 x.1 a'
    | .inr b => Q (-1) 0 b) : nf_Reader_needWord n (-1) 0 a F si Q := by
  unfold nf_Reader_needWord
  simp only [ci_m1, ci_m10, ci_m1001, ci_m1002, ci_m1003, ci_m1004, ci_0, ci_1, ci_10, ci_100, ci_1000, ci_10000, ci_101, ci_103, ci_104, ci_105, ci_107, ci_108, ci_110, ci_111, ci_114, ci_115, ci_116, ci_118, ci_119, ci_12, ci_122, ci_1431655765, ci_15, ci_16, ci_2, ci_20, ci_23, ci_24, ci_240, ci_252645135, ci_255, ci_256, ci_3, ci_32, ci_4, ci_420, ci_48, ci_5, ci_5040, ci_57, ci_59, ci_6, ci_60, ci_63, ci_64, ci_7, ci_70, ci_8, ci_858993459, ci_9, ci_900, ci_97, ci_99, ci_999, ci_9999, cl_0, cl_1, cl_10, cl_1000000000000, cl_122, cl_2, cl_2000000000000, cl_23, cl_255, cl_27, cl_3, cl_4, cl_48, cl_57, cl_6, cl_8, cl_96, cl_97, cl_99, cl_999, cl_9999]
  have hs := sk_p (T := T) ha.2
  have hn := ht.1
  have hl := sl_b si hsi
  refine sx_skip ht ha (sx_isHere hsi ht ⟨by omega, hs.2.1⟩ (cB_i (fun e => cB_f (by decide) (wL_i (wO_i ?_ ?_))) (fun e => cB_t rfl (sp_fail (cB_t rfl ?_)))))
  · have := (iw_t.mp e).1
    simp only [iR]; omega
  · rw [pWord, if_pos e] at h; exact h
  · rw [pWord, if_neg e] at h; exact h _ (by omega) hs.2.1
theorem so_end {n a : Int} {F T : Int → Int} {Q : Int → Int → Int → Prop} (ht : tx n F T) (ha : 0 ≤ a ∧ a ≤ n) (h : match pEnd T n a with
    | .inl x => ∀ a', 0 ≤ a' → a' ≤ n → Q x.2 x.1 a'
    | .inr b => Q (-1) 0 b) : nf_Reader_needEnd n (-1) 0 a F Q := by
  unfold nf_Reader_needEnd
  simp only [ci_m1, ci_m10, ci_m1001, ci_m1002, ci_m1003, ci_m1004, ci_0, ci_1, ci_10, ci_100, ci_1000, ci_10000, ci_101, ci_103, ci_104, ci_105, ci_107, ci_108, ci_110, ci_111, ci_114, ci_115, ci_116, ci_118, ci_119, ci_12, ci_122, ci_1431655765, ci_15, ci_16, ci_2, ci_20, ci_23, ci_24, ci_240, ci_252645135, ci_255, ci_256, ci_3, ci_32, ci_4, ci_420, ci_48, ci_5, ci_5040, ci_57, ci_59, ci_6, ci_60, ci_63, ci_64, ci_7, ci_70, ci_8, ci_858993459, ci_9, ci_900, ci_97, ci_99, ci_999, ci_9999, cl_0, cl_1, cl_10, cl_1000000000000, cl_122, cl_2, cl_2000000000000, cl_23, cl_255, cl_27, cl_3, cl_4, cl_48, cl_57, cl_6, cl_8, cl_96, cl_97, cl_99, cl_999, cl_9999]
  have hs := sk_p (T := T) ha.2
  have hn := ht.1
  refine sx_skip ht ha (sx_byteAt ht (cB_i (fun e => ?_) (fun e => cB_f (by decide) (sp_fail (cB_t rfl ?_)))))
  · refine cB_i (fun e2 => wO_i (by (try simp only [iR]); omega) ?_) (fun e2 => sp_fail (cB_t rfl ?_))
    · rw [pEnd, if_pos ⟨e.2, e2⟩] at h; exact h
    · rw [pEnd, if_neg (fun q => e2 q.2)] at h; exact h _ (by omega) hs.2.1
  · rw [pEnd, if_neg (fun q => e ⟨by omega, q.1⟩)] at h; exact h _ (by omega) hs.2.1
