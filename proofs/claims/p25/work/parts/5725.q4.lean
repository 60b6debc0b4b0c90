/-! ANSWERS 4: rush, wanted -/
/-- the first of the least -/
def am (F : Int → Int) : Nat → Int
  | 0 => 0
  | n + 1 => if F (am F n) ≤ F ((n : Int) + 1) then am F n else (n : Int) + 1
theorem am_b (F : Int → Int) : ∀ n : Nat, 0 ≤ am F n ∧ am F n ≤ n := by
  intro n
  induction n with
  | zero => exact ⟨Int.le_refl _, Int.le_refl _⟩
  | succ n ih =>
    have e : am F (n + 1) = if F (am F n) ≤ F ((n : Int) + 1) then am F n else (n : Int) + 1 := rfl
    rw [e]
    split <;> omega
theorem am_c {F G : Int → Int} : ∀ n : Nat, (∀ k : Int, 0 ≤ k → k ≤ n → F k = G k) → am F n = am G n := by
  intro n
  induction n with
  | zero => intro _; rfl
  | succ n ih =>
    intro h
    have e := ih (fun k a b => h k a (by omega))
    have b := am_b G n
    show (if F (am F n) ≤ F ((n : Int) + 1) then am F n else (n : Int) + 1) = (if G (am G n) ≤ G ((n : Int) + 1) then am G n else (n : Int) + 1)
    rw [e, h _ b.1 (by omega), h ((n : Int) + 1) (by omega) (by omega)]
theorem am_s {F : Int → Int} {l : Int} (h : 1 ≤ l) : am F l.toNat = if F (am F (l - 1).toNat) ≤ F l then am F (l - 1).toNat else l := by
  obtain ⟨n, rfl⟩ : ∃ n : Nat, l = (n : Int) + 1 := ⟨(l - 1).toNat, by omega⟩
  rw [show ((n : Int) + 1).toNat = n + 1 by omega, show ((n : Int) + 1 - 1).toNat = n by omega]
  rfl
/-- who is free when, after n of the row -/
def svF (x : Nat) (T rw : Int → Int) : Nat → Int → Int
  | 0 => fun _ => 0
  | n + 1 => ups (svF x T rw n) (am (svF x T rw n) (x - 1)) (svF x T rw n (am (svF x T rw n) (x - 1)) + T (rw (n : Int)))
def svW (x : Nat) (T rw : Int → Int) (n : Nat) : Int := svF x T rw n (am (svF x T rw n) (x - 1)) + T (rw (n : Int))
def svS (x : Nat) (T rw : Int → Int) : Nat → Int
  | 0 => 0
  | n + 1 => svS x T rw n + svW x T rw n
def svG (x : Nat) (T rw : Int → Int) : Nat → Int
  | 0 => 0
  | n + 1 => if svW x T rw n ≤ svG x T rw n then svG x T rw n else svW x T rw n
def svP (P : Int → Int) (L : Int) (rw : Int → Int) (n : Nat) (w : Int) : Int := if P (rw (n : Int)) - Int.tdiv (L * w) 10 ≤ 0 then 0 else P (rw (n : Int)) - Int.tdiv (L * w) 10
def svT (x : Nat) (T P : Int → Int) (L : Int) (rw : Int → Int) : Nat → Int
  | 0 => 0
  | n + 1 => svT x T P L rw n + svP P L rw n (svW x T rw n)
theorem svF_s (x : Nat) (T rw : Int → Int) (n : Nat) : svF x T rw (n + 1) = ups (svF x T rw n) (am (svF x T rw n) (x - 1)) (svW x T rw n) := rfl
theorem svF_c {x : Nat} {T T' rw rw' : Int → Int} : ∀ n : Nat, (∀ k : Nat, k < n → T (rw k) = T' (rw' k)) → svF x T rw n = svF x T' rw' n := by
  intro n
  induction n with
  | zero => intro _; rfl
  | succ n ih =>
    intro h
    show ups (svF x T rw n) (am (svF x T rw n) (x - 1)) (svF x T rw n (am (svF x T rw n) (x - 1)) + T (rw (n : Int))) = ups (svF x T' rw' n) (am (svF x T' rw' n) (x - 1)) (svF x T' rw' n (am (svF x T' rw' n) (x - 1)) + T' (rw' (n : Int)))
    rw [ih (fun k hk => h k (by omega)), h n (by omega)]
theorem svW_c {x : Nat} {T T' rw rw' : Int → Int} (n : Nat) (h : ∀ k : Nat, k < n + 1 → T (rw k) = T' (rw' k)) : svW x T rw n = svW x T' rw' n := by
  unfold svW
  rw [svF_c n (fun k hk => h k (by omega)), h n (by omega)]
theorem svS_c {x : Nat} {T T' rw rw' : Int → Int} : ∀ n : Nat, (∀ k : Nat, k < n → T (rw k) = T' (rw' k)) → svS x T rw n = svS x T' rw' n := by
  intro n
  induction n with
  | zero => intro _; rfl
  | succ n ih =>
    intro h
    show svS x T rw n + svW x T rw n = svS x T' rw' n + svW x T' rw' n
    rw [ih (fun k hk => h k (by omega)), svW_c n h]
theorem svG_c {x : Nat} {T T' rw rw' : Int → Int} : ∀ n : Nat, (∀ k : Nat, k < n → T (rw k) = T' (rw' k)) → svG x T rw n = svG x T' rw' n := by
  intro n
  induction n with
  | zero => intro _; rfl
  | succ n ih =>
    intro h
    show (if svW x T rw n ≤ svG x T rw n then svG x T rw n else svW x T rw n) = (if svW x T' rw' n ≤ svG x T' rw' n then svG x T' rw' n else svW x T' rw' n)
    rw [ih (fun k hk => h k (by omega)), svW_c n h]
theorem svT_c {x : Nat} {T T' P P' rw rw' : Int → Int} {L : Int} : ∀ n : Nat, (∀ k : Nat, k < n → T (rw k) = T' (rw' k) ∧ P (rw k) = P' (rw' k)) → svT x T P L rw n = svT x T' P' L rw' n := by
  intro n
  induction n with
  | zero => intro _; rfl
  | succ n ih =>
    intro h
    show svT x T P L rw n + svP P L rw n (svW x T rw n) = svT x T' P' L rw' n + svP P' L rw' n (svW x T' rw' n)
    rw [ih (fun k hk => h k (by omega)), svW_c n (fun k hk => (h k hk).1)]
    unfold svP
    rw [(h n (by omega)).2]
theorem svF_b {x : Nat} {T rw : Int → Int} (hx : x ≤ 4) : ∀ n : Nat, (∀ k : Nat, k < n → 0 ≤ T (rw k) ∧ T (rw k) ≤ 264) → ∀ q : Int, 0 ≤ q → q < 4 → 0 ≤ svF x T rw n q ∧ svF x T rw n q ≤ 264 * n := by
  intro n
  induction n with
  | zero => intro _ q _ _; exact ⟨Int.le_refl _, by show (0 : Int) ≤ _; omega⟩
  | succ n ih =>
    intro h q q0 q1
    have ih := ih (fun k hk => h k (by omega))
    have hb := am_b (svF x T rw n) (x - 1)
    have h1 := ih _ hb.1 (by omega)
    have h2 := h n (by omega)
    show 0 ≤ ups _ _ _ q ∧ ups _ _ _ q ≤ _
    by_cases e : q = am (svF x T rw n) (x - 1)
    · rw [e, ups_s]; omega
    · rw [ups_n e]; have := ih q q0 q1; omega
theorem svW_b {x : Nat} {T rw : Int → Int} (hx : x ≤ 4) (n : Nat) (h : ∀ k : Nat, k < n + 1 → 0 ≤ T (rw k) ∧ T (rw k) ≤ 264) : 0 ≤ svW x T rw n ∧ svW x T rw n ≤ 264 * (n + 1) := by
  have h1 := svF_b hx n (fun k hk => h k (by omega)) (am (svF x T rw n) (x - 1)) (am_b _ _).1 (by have := am_b (svF x T rw n) (x - 1); omega)
  have h2 := h n (by omega)
  unfold svW
  omega
theorem svS_b {x : Nat} {T rw : Int → Int} (hx : x ≤ 4) : ∀ n : Nat, n ≤ 16 → (∀ k : Nat, k < n → 0 ≤ T (rw k) ∧ T (rw k) ≤ 264) → 0 ≤ svS x T rw n ∧ svS x T rw n ≤ 4224 * n := by
  intro n
  induction n with
  | zero => intro _ _; exact ⟨Int.le_refl _, by show (0 : Int) ≤ _; omega⟩
  | succ n ih =>
    intro hn h
    have i := ih (by omega) (fun k hk => h k (by omega))
    have w := svW_b hx n h
    show 0 ≤ svS x T rw n + svW x T rw n ∧ svS x T rw n + svW x T rw n ≤ _
    omega
theorem svG_b {x : Nat} {T rw : Int → Int} (hx : x ≤ 4) : ∀ n : Nat, n ≤ 16 → (∀ k : Nat, k < n → 0 ≤ T (rw k) ∧ T (rw k) ≤ 264) → 0 ≤ svG x T rw n ∧ svG x T rw n ≤ 4224 := by
  intro n
  induction n with
  | zero => intro _ _; exact ⟨Int.le_refl _, by show (0 : Int) ≤ _; omega⟩
  | succ n ih =>
    intro hn h
    have i := ih (by omega) (fun k hk => h k (by omega))
    have w := svW_b hx n h
    have e : svG x T rw (n + 1) = if svW x T rw n ≤ svG x T rw n then svG x T rw n else svW x T rw n := rfl
    rw [e]
    split <;> omega
theorem svP_b {P rw : Int → Int} {L w : Int} {n : Nat} (hL : 0 ≤ L ∧ L ≤ 20) (hP : 0 ≤ P (rw n) ∧ P (rw n) ≤ 99) (hw : 0 ≤ w ∧ w ≤ 4224) : 0 ≤ svP P L rw n w ∧ svP P L rw n w ≤ 99 := by
  have m1 := mulb hL.1 hL.2 hw.1 hw.2
  unfold svP
  rw [Int.tdiv_eq_ediv_of_nonneg m1.1]
  split <;> omega
theorem svT_b {x : Nat} {T P rw : Int → Int} {L : Int} (hx : x ≤ 4) (hL : 0 ≤ L ∧ L ≤ 20) : ∀ n : Nat, n ≤ 16 → (∀ k : Nat, k < n → 0 ≤ T (rw k) ∧ T (rw k) ≤ 264 ∧ 0 ≤ P (rw k) ∧ P (rw k) ≤ 99) → 0 ≤ svT x T P L rw n ∧ svT x T P L rw n ≤ 99 * n := by
  intro n
  induction n with
  | zero => intro _ _; exact ⟨Int.le_refl _, by show (0 : Int) ≤ _; omega⟩
  | succ n ih =>
    intro hn h
    have i := ih (by omega) (fun k hk => h k (by omega))
    have w := svW_b hx n (fun k hk => ⟨(h k hk).1, (h k hk).2.1⟩)
    have p := svP_b (n := n) hL (h n (by omega)).2.2 (show 0 ≤ svW x T rw n ∧ svW x T rw n ≤ 4224 by omega)
    show 0 ≤ svT x T P L rw n + svP P L rw n (svW x T rw n) ∧ svT x T P L rw n + svP P L rw n (svW x T rw n) ≤ _
    omega
/-- the class keeps what the row gives at each of its places, up to place i -/
def uS (x : Nat) (tk tp : Int → Int) (ls : Int) (rw : Int → Int) (i : Int) (fa wa gr ts : Int → Int) : Prop := ∀ j : Nat, (j : Int) ≤ i → (∀ q : Int, 0 ≤ q → q < x → fa ((j : Int) * 4 + q) = svF x tk rw j q) ∧ wa j = svS x tk rw j ∧ gr j = svG x tk rw j ∧ ts j = svT x tk tp ls rw j
theorem uS_0 {x : Nat} {tk tp rw fa wa gr ts : Int → Int} {ls : Int} (hx : x ≤ 4) (hA : uA fa) (hW : uW wa gr ts) : uS x tk tp ls rw 0 fa wa gr ts := by
  intro j hj
  have e : j = 0 := by omega
  subst e
  have w := hW 0 (by omega) (by omega)
  refine ⟨fun q q0 q1 => ?_, ?_, ?_, ?_⟩
  · have a := hA 0 q (by omega) (by omega) q0 (by omega)
    show fa ((0 : Int) * 4 + q) = 0
    omega
  · show wa (0 : Int) = 0
    omega
  · show gr (0 : Int) = 0
    omega
  · show ts (0 : Int) = 0
    omega
theorem so_serve {ls i : Int} {x : Nat} {tk tp rw fa wa gr ts : Int → Int} {Q : (Int → Int) → (Int → Int) → (Int → Int) → (Int → Int) → Prop} (hI : uI ls tk tp) (hi : 0 ≤ i ∧ i < 16) (hx : 1 ≤ x ∧ x ≤ 4) (hrw : 0 ≤ rw i ∧ rw i < 16) (hA : uA fa) (hW : uW wa gr ts) (hS : uS x tk tp ls rw i fa wa gr ts) (h : ∀ fa' wa' gr' ts', uA fa' → uW wa' gr' ts' → uS x tk tp ls rw (i + 1) fa' wa' gr' ts' → Q fa' wa' gr' ts') : nf_Rush_serve ls tk tp rw fa wa gr ts i x Q := by
  unfold nf_Rush_serve
  simp only [ci_m1, ci_m10, ci_m1001, ci_m1002, ci_m1003, ci_m1004, ci_0, ci_1, ci_10, ci_100, ci_1000, ci_10000, ci_101, ci_103, ci_104, ci_105, ci_107, ci_108, ci_110, ci_111, ci_114, ci_115, ci_116, ci_118, ci_119, ci_12, ci_122, ci_1431655765, ci_15, ci_16, ci_2, ci_20, ci_23, ci_24, ci_240, ci_252645135, ci_255, ci_256, ci_3, ci_32, ci_4, ci_420, ci_48, ci_5, ci_5040, ci_57, ci_59, ci_6, ci_60, ci_63, ci_64, ci_7, ci_70, ci_8, ci_858993459, ci_9, ci_900, ci_97, ci_99, ci_999, ci_9999, cl_0, cl_1, cl_10, cl_1000000000000, cl_122, cl_2, cl_2000000000000, cl_23, cl_255, cl_27, cl_3, cl_4, cl_48, cl_57, cl_6, cl_8, cl_96, cl_97, cl_99, cl_999, cl_9999]
  obtain ⟨l1, l2, l3⟩ := hI
  have si := hS i.toNat (by omega)
  rw [Int.toNat_of_nonneg hi.1] at si
  obtain ⟨s1, s2, s3, s4⟩ := si
  refine wO_i (by simp only [iR]; omega) ?_
  refine nlp3_i (fun (hd l : Int) (fa' : Int → Int) => 0 ≤ l ∧ l ≤ x ∧ hd = am (svF x tk rw i.toNat) (l - 1).toNat ∧ uA fa' ∧ (∀ q, 0 ≤ q → q < i * 4 + 4 → fa' q = fa q) ∧ (∀ q, 0 ≤ q → q < l → fa' (i * 4 + 4 + q) = svF x tk rw i.toNat q)) (fun _ (l : Int) _ => ((x : Int) - l).toNat) ?_ ⟨by omega, by omega, rfl, hA, fun q _ _ => rfl, fun q a b => by omega⟩
  intro hd l f1 hv self hself
  obtain ⟨i1, i2, i3, i4, i5, i6⟩ := hv
  have hab := am_b (svF x tk rw i.toNat) (l - 1).toNat
  rw [← i3] at hab
  have e0 : ∀ q : Int, 0 ≤ q → q < x → f1 (i * 4 + q) = svF x tk rw i.toNat q := fun q a b => by rw [i5 _ (by omega) (by omega)]; exact s1 q a b
  refine cB_i (fun e => ?_) (fun e => ?_)
  · have el : l = x := by omega
    have hh : 0 ≤ hd ∧ hd < x := by omega
    have ehd : hd = am (svF x tk rw i.toNat) (x - 1) := by rw [i3, el]; congr 1; omega
    refine wO_i (by simp only [inb]; omega) (sp_within (cB_t ⟨hrw.1, by omega⟩ (cB_f (by decide) ?_)))
    have t1 := l3 (rw i) hrw.1 hrw.2
    have a1 := i4 i hd hi.1 (by omega) hh.1 (by omega)
    have w0 := hW i hi.1 (by omega)
    have ew : f1 (i * 4 + hd) + tk (rw i) = svW x tk rw i.toNat := by
      unfold svW
      rw [e0 hd hh.1 hh.2, ← ehd, Int.toNat_of_nonneg hi.1]
    have m1 := mulb l1 l2 (show 0 ≤ f1 (i * 4 + hd) + tk (rw i) by omega) (show f1 (i * 4 + hd) + tk (rw i) ≤ 4224 by omega)
    have td : Int.tdiv (ls * (f1 (i * 4 + hd) + tk (rw i))) 10 = ls * (f1 (i * 4 + hd) + tk (rw i)) / 10 := Int.tdiv_eq_ediv_of_nonneg m1.1
    have mx1 : 0 ≤ imax (gr i) (f1 (i * 4 + hd) + tk (rw i)) ∧ imax (gr i) (f1 (i * 4 + hd) + tk (rw i)) ≤ 264 * (i + 1) := by unfold imax; split <;> omega
    have mx2 : 0 ≤ imax 0 (tp (rw i) - ls * (f1 (i * 4 + hd) + tk (rw i)) / 10) ∧ imax 0 (tp (rw i) - ls * (f1 (i * 4 + hd) + tk (rw i)) / 10) ≤ 99 := by unfold imax; split <;> omega
    have eg : imax (gr i) (f1 (i * 4 + hd) + tk (rw i)) = svG x tk rw (i.toNat + 1) := by
      show _ = (if svW x tk rw i.toNat ≤ svG x tk rw i.toNat then svG x tk rw i.toNat else svW x tk rw i.toNat)
      rw [s3, ew]
      unfold imax
      split <;> split <;> omega
    have ep : imax 0 (tp (rw i) - ls * (f1 (i * 4 + hd) + tk (rw i)) / 10) = svP tp ls rw i.toNat (svW x tk rw i.toNat) := by
      unfold svP
      rw [← ew, td, Int.toNat_of_nonneg hi.1]
      unfold imax
      split <;> split <;> omega
    have st : svT x tk tp ls rw (i.toNat + 1) = svT x tk tp ls rw i.toNat + svP tp ls rw i.toNat (svW x tk rw i.toNat) := rfl
    have ss : svS x tk rw (i.toNat + 1) = svS x tk rw i.toNat + svW x tk rw i.toNat := rfl
    repeat' (first | with_reducible refine wO_i ?_ ?_ | with_reducible refine wL_i ?_ | with_reducible refine cB_f (by decide) ?_ | with_reducible refine cB_t (by decide) ?_ | with_reducible refine cB_i (fun _ => ?_) (fun _ => ?_) | with_reducible refine jn0_i ?_ | with_reducible refine jn1_i ?_ | with_reducible refine jn2_i ?_ | with_reducible refine jn3_i ?_ | with_reducible refine jn4_i ?_ | with_reducible refine jn5_i ?_ | with_reducible refine jn6_i ?_)
    all_goals (try simp only [td])
    all_goals (try (simp only [iR, lR, inb, bZ, dOK, or_true, true_or, true_and, and_true] at *)); all_goals (try omega)
    refine h _ _ _ _ (uA_u2 i4 hi.1 hi.2 hh.1 (by omega) (by omega) (by omega) rfl) (fun j j1 j2 => ?_) (fun j hj => ?_)
    · by_cases e : j = i + 1
      · subst e
        rw [ups_s, ups_s, ups_s]
        omega
      · rw [ups_n e, ups_n e, ups_n e]
        exact hW j j1 j2
    · by_cases e : (j : Int) = i + 1
      · have ej : j = i.toNat + 1 := by omega
        rw [show ((j : Nat) : Int) = i + 1 by omega, ups_s, ups_s, ups_s, ej]
        refine ⟨fun q q0 q1 => ?_, ?_, eg, ?_⟩
        · rw [svF_s, show (i + 1) * 4 + q = i * 4 + 4 + q by omega]
          by_cases eq : q = hd
          · rw [eq, ups_s, ← ehd, ups_s]; exact ew
          · rw [ups_n (by omega), ups_n (by rw [← ehd]; exact eq)]; exact i6 q q0 (by omega)
        · rw [ss, ← ew, s2]
        · rw [st, ← ep, s4]
      · have hj2 := hS j (by omega)
        rw [ups_n (by omega), ups_n (by omega), ups_n (by omega)]
        refine ⟨fun q q0 q1 => ?_, hj2.2.1, hj2.2.2.1, hj2.2.2.2⟩
        rw [ups_n (by omega), i5 _ (by omega) (by omega)]
        exact hj2.1 q q0 q1
  · have a2 := i4 i l hi.1 (by omega) i1 (by omega)
    have hl : hd < 4 := by omega
    have ef : ∀ hd', hd' = am (svF x tk rw i.toNat) l.toNat → self hd' (l + 1) (ups f1 (i * 4 + 4 + l) (f1 (i * 4 + l))) := fun hd' e2 => hself _ _ _ ⟨by omega, by omega, by rw [e2, show (l + 1 - 1).toNat = l.toNat by omega], uA_u2 i4 hi.1 hi.2 i1 (by omega) a2.1 (by omega) rfl, fun q a b => by rw [ups_n (by omega)]; exact i5 q a b, fun q a b => by
      by_cases eq : q = l
      · rw [eq, ups_s]; exact e0 l i1 (by omega)
      · rw [ups_n (by omega)]; exact i6 q a (by omega)⟩ (by omega)
    refine wO_i (by simp only [iR]; omega) (wO_i (by simp only [inb]; omega) (wO_i (by simp only [iR]; omega) (wO_i (by simp only [inb]; omega) ?_)))
    refine jn1_s (fun hd' => hd' = am (svF x tk rw i.toNat) l.toNat) (fun hd' e2 => wO_i (by simp only [iR]; omega) (wO_i (by simp only [iR]; omega) (wO_i (by simp only [iR]; omega) (wO_i (by simp only [inb]; omega) (wO_i (by simp only [inb]; omega) (wO_i (by simp only [iR]; omega) (ef hd' e2))))))) ?_
    by_cases l0 : l = 0
    · have h0 : hd = 0 := by
        rw [i3, l0]; rfl
      have : am (svF x tk rw i.toNat) l.toNat = 0 := by rw [l0]; rfl
      exact cB_i (fun _ => by omega) (fun q => by omega)
    · have as := am_s (F := svF x tk rw i.toNat) (l := l) (by omega)
      rw [← i3, ← e0 hd hab.1 (by omega), ← e0 l i1 (by omega)] at as
      exact cB_i (fun q => by rw [as, if_pos q]) (fun q => by rw [as, if_neg q])
theorem so_serveFrom {sz ls fr : Int} {x : Nat} {tk tp rw fa wa gr ts : Int → Int} {Q : (Int → Int) → (Int → Int) → (Int → Int) → (Int → Int) → Prop} (hI : uI ls tk tp) (hs : 0 ≤ sz ∧ sz ≤ 16) (hf : 0 ≤ fr ∧ fr ≤ sz) (hx : 1 ≤ x ∧ x ≤ 4) (hrw : ∀ k, 0 ≤ k → k < sz → 0 ≤ rw k ∧ rw k < 16) (hA : uA fa) (hW : uW wa gr ts) (hS : uS x tk tp ls rw fr fa wa gr ts) (h : ∀ fa' wa' gr' ts', uA fa' → uW wa' gr' ts' → uS x tk tp ls rw sz fa' wa' gr' ts' → Q fa' wa' gr' ts') : nf_Rush_serveFrom sz ls tk tp rw fa wa gr ts fr x Q := by
  unfold nf_Rush_serveFrom
  simp only [ci_m1, ci_m10, ci_m1001, ci_m1002, ci_m1003, ci_m1004, ci_0, ci_1, ci_10, ci_100, ci_1000, ci_10000, ci_101, ci_103, ci_104, ci_105, ci_107, ci_108, ci_110, ci_111, ci_114, ci_115, ci_116, ci_118, ci_119, ci_12, ci_122, ci_1431655765, ci_15, ci_16, ci_2, ci_20, ci_23, ci_24, ci_240, ci_252645135, ci_255, ci_256, ci_3, ci_32, ci_4, ci_420, ci_48, ci_5, ci_5040, ci_57, ci_59, ci_6, ci_60, ci_63, ci_64, ci_7, ci_70, ci_8, ci_858993459, ci_9, ci_900, ci_97, ci_99, ci_999, ci_9999, cl_0, cl_1, cl_10, cl_1000000000000, cl_122, cl_2, cl_2000000000000, cl_23, cl_255, cl_27, cl_3, cl_4, cl_48, cl_57, cl_6, cl_8, cl_96, cl_97, cl_99, cl_999, cl_9999]
  refine cB_f (by omega) (cB_f (by omega) (cB_t (by omega) ?_))
  refine nlp5_i (fun i fa' wa' gr' ts' => 0 ≤ i ∧ i ≤ sz ∧ uA fa' ∧ uW wa' gr' ts' ∧ uS x tk tp ls rw i fa' wa' gr' ts') (fun i _ _ _ _ => (sz - i).toNat) ?_ ⟨hf.1, hf.2, hA, hW, hS⟩
  intro i f1 w1 g1 t1 hi self hself
  obtain ⟨i1, i2, i3, i4, i5⟩ := hi
  refine cB_i (fun _ => h _ _ _ _ i3 i4 (by rw [show sz = i by omega]; exact i5)) (fun _ => so_serve hI ⟨i1, by omega⟩ hx (hrw i i1 (by omega)) i3 i4 i5 (fun fa' wa' gr' ts' a b c => wO_i (by simp only [iR]; omega) (hself _ _ _ _ _ ⟨by omega, by omega, a, b, c⟩ (by omega))))
/-! the row out of the set -/
theorem cnt_lt {x j g : Int} (j0 : 0 ≤ j) (h : j < g) (hb : bit x j = true) : cnt x j.toNat < cnt x g.toNat := by
  have s := cnt_s (x := x) j0
  rw [if_pos hb] at s
  have := cnt_m x (j + 1).toNat g.toNat (by omega)
  omega
theorem cnt_sur {x : Int} : ∀ n : Nat, ∀ k : Int, 0 ≤ k → k < cnt x n → ∃ j : Int, 0 ≤ j ∧ j < n ∧ bit x j = true ∧ cnt x j.toNat = k := by
  intro n
  induction n with
  | zero =>
    intro k k0 k1
    have : cnt x 0 = 0 := rfl
    omega
  | succ n ih =>
    intro k k0 k1
    have s : cnt x (n + 1) = cnt x n + (if bit x (n : Int) then 1 else 0) := rfl
    by_cases e : k < cnt x n
    · obtain ⟨j, j0, j1, j2, j3⟩ := ih k k0 e
      exact ⟨j, j0, by omega, j2, j3⟩
    · by_cases hb : bit x (n : Int) = true
      · rw [if_pos hb] at s
        exact ⟨n, by omega, by omega, hb, by rw [Int.toNat_natCast]; omega⟩
      · rw [if_neg hb] at s; omega
def rw1 (set n : Int) (rw : Int → Int) : Prop := ∀ j, 0 ≤ j → j < n → bit set j = true → rw (cnt set j.toNat) = j
theorem rw1_k {set n k : Int} {rw : Int → Int} (hn : 0 ≤ n) (h : rw1 set n rw) (k0 : 0 ≤ k) (k1 : k < cnt set n.toNat) : 0 ≤ rw k ∧ rw k < n ∧ bit set (rw k) = true := by
  obtain ⟨j, j0, j1, j2, j3⟩ := cnt_sur n.toNat k k0 k1
  have := h j j0 (by omega) j2
  rw [j3] at this
  rw [this]
  exact ⟨j0, by omega, j2⟩
theorem rw1_e {set n k : Int} {rw rw' : Int → Int} (hn : 0 ≤ n) (h : rw1 set n rw) (h' : rw1 set n rw') (k0 : 0 ≤ k) (k1 : k < cnt set n.toNat) : rw k = rw' k := by
  obtain ⟨j, j0, j1, j2, j3⟩ := cnt_sur n.toNat k k0 k1
  rw [← j3, h j j0 (by omega) j2, h' j j0 (by omega) j2]
theorem rw1_u {set g : Int} {rw : Int → Int} (g0 : 0 ≤ g) (h : rw1 set g rw) : rw1 set (g + 1) (ups rw (cnt set g.toNat) g) := fun j j0 j1 j2 => by
  by_cases e : j = g
  · rw [e, ups_s]
  · have := cnt_lt j0 (show j < g by omega) j2
    rw [ups_n (by omega)]
    exact h j j0 (by omega) j2
theorem so_loadU {n hp ht hl sz ls set : Int} {gt gp hw tk tp rw : Int → Int} {Q : Int → Int → (Int → Int) → (Int → Int) → (Int → Int) → Prop} (hn : 0 ≤ n ∧ n ≤ 16) (hp24 : hp ≤ 24) (hg : ∀ i, 0 ≤ i → i < 16 → 0 ≤ gt i ∧ gt i ≤ 99) (hh : 0 ≤ ht ∧ ht ≤ 20 ∧ 0 ≤ hl ∧ hl ≤ 20) (hwk : ∀ q, 0 ≤ q → q < hp → 0 ≤ hw q ∧ hw q ≤ 122) (hI : uI ls tk tp) (hgp : ∀ g, 0 ≤ g → g < n → bit set g = true → 0 ≤ gp g ∧ gp g < hp) (h : ∀ tk' tp' rw', uI hl tk' tp' → rw1 set n rw' → (∀ g, 0 ≤ g → g < n → bit set g = true → tk' g = 2 * hw (gp g) + ht ∧ tp' g = gt g) → Q (cnt set n.toNat) hl tk' tp' rw') : nf_Rush_load n gt gp hp ht hl hw sz ls tk tp rw set Q := by
  unfold nf_Rush_load
  simp only [ci_m1, ci_m10, ci_m1001, ci_m1002, ci_m1003, ci_m1004, ci_0, ci_1, ci_10, ci_100, ci_1000, ci_10000, ci_101, ci_103, ci_104, ci_105, ci_107, ci_108, ci_110, ci_111, ci_114, ci_115, ci_116, ci_118, ci_119, ci_12, ci_122, ci_1431655765, ci_15, ci_16, ci_2, ci_20, ci_23, ci_24, ci_240, ci_252645135, ci_255, ci_256, ci_3, ci_32, ci_4, ci_420, ci_48, ci_5, ci_5040, ci_57, ci_59, ci_6, ci_60, ci_63, ci_64, ci_7, ci_70, ci_8, ci_858993459, ci_9, ci_900, ci_97, ci_99, ci_999, ci_9999, cl_0, cl_1, cl_10, cl_1000000000000, cl_122, cl_2, cl_2000000000000, cl_23, cl_255, cl_27, cl_3, cl_4, cl_48, cl_57, cl_6, cl_8, cl_96, cl_97, cl_99, cl_999, cl_9999]
  refine nlp5_i (fun g s tk' tp' rw' => 0 ≤ g ∧ g ≤ n ∧ s = cnt set g.toNat ∧ uI hl tk' tp' ∧ rw1 set g rw' ∧ (∀ j, 0 ≤ j → j < g → bit set j = true → tk' j = 2 * hw (gp j) + ht ∧ tp' j = gt j)) (fun g _ _ _ _ => (n - g).toNat) ?_ ⟨by omega, by omega, rfl, ⟨hh.2.2.1, hh.2.2.2, hI.2.2⟩, fun j a b => by omega, fun j a b => by omega⟩
  intro g s k1 p1 r1 hi self hself
  obtain ⟨i1, i2, i3, i4, i5, i6⟩ := hi
  have cb := cnt_b set g.toNat
  have cs := cnt_s (x := set) i1
  refine cB_i (fun _ => ?_) (fun _ => wL_i (wL_i ?_))
  · have : g = n := by omega
    subst this
    rw [i3]; exact h _ _ _ i4 i5 i6
  refine jn4_s (fun s' tk' tp' rw' => s' = cnt set (g + 1).toNat ∧ uI hl tk' tp' ∧ rw1 set (g + 1) rw' ∧ (∀ j, 0 ≤ j → j < g + 1 → bit set j = true → tk' j = 2 * hw (gp j) + ht ∧ tp' j = gt j)) (fun s' tk' tp' rw' hs => wO_i (by simp only [iR]; omega) (hself _ _ _ _ _ ⟨by omega, by omega, hs.1, hs.2.1, hs.2.2.1, hs.2.2.2⟩ (by omega))) ?_
  refine cB_i (fun e => ?_) (fun e => ?_)
  · have hb := (bt1 i1 (by omega)).mp e
    have gq := hgp g i1 (by omega) hb
    have w1 := hwk _ gq.1 gq.2
    have gg := hg g i1 (by omega)
    rw [if_pos hb] at cs
    refine wO_i (by simp only [inb]; omega) (sp_walkOf (cB_t ⟨gq.1, gq.2, by omega⟩ ?_))
    refine wO_i (by simp only [iR]; omega) (wO_i (by simp only [iR]; omega) (wO_i (by simp only [inb]; omega) (wO_i (by simp only [inb]; omega) (wO_i (by simp only [inb]; omega) (wO_i (by simp only [inb]; omega) (wO_i (by simp only [iR]; omega) ⟨by omega, ⟨hh.2.2.1, hh.2.2.2, fun k k0 k1' => ?_⟩, by rw [i3]; exact rw1_u i1 i5, fun j j0 j1 j2 => ?_⟩))))))
    · by_cases e : k = g
      · subst e; rw [ups_s, ups_s]; omega
      · rw [ups_n e, ups_n e]; exact i4.2.2 k k0 k1'
    · by_cases e : j = g
      · subst e; rw [ups_s, ups_s]; exact ⟨rfl, rfl⟩
      · rw [ups_n e, ups_n e]; exact i6 j j0 (by omega) j2
  · have hb : ¬ bit set g = true := fun q => e ((bt1 i1 (by omega)).mpr q)
    rw [if_neg hb] at cs
    exact ⟨by omega, i4, fun j j0 j1 j2 => i5 j j0 (by by_cases e : j = g; (subst e; exact absurd j2 hb); omega) j2, fun j j0 j1 j2 => i6 j j0 (by by_cases e : j = g; (subst e; exact absurd j2 hb); omega) j2⟩
theorem sm_fillRow {gu rm set : Int} {rw : Int → Int} {Q : Int → (Int → Int) → Prop} (hgu : 0 ≤ gu ∧ gu ≤ 16) (h : ∀ rw', rw1 set gu rw' → Q (cnt set gu.toNat) rw') : nf_M_fillRow gu rm rw set Q := by
  unfold nf_M_fillRow
  simp only [ci_m1, ci_m10, ci_m1001, ci_m1002, ci_m1003, ci_m1004, ci_0, ci_1, ci_10, ci_100, ci_1000, ci_10000, ci_101, ci_103, ci_104, ci_105, ci_107, ci_108, ci_110, ci_111, ci_114, ci_115, ci_116, ci_118, ci_119, ci_12, ci_122, ci_1431655765, ci_15, ci_16, ci_2, ci_20, ci_23, ci_24, ci_240, ci_252645135, ci_255, ci_256, ci_3, ci_32, ci_4, ci_420, ci_48, ci_5, ci_5040, ci_57, ci_59, ci_6, ci_60, ci_63, ci_64, ci_7, ci_70, ci_8, ci_858993459, ci_9, ci_900, ci_97, ci_99, ci_999, ci_9999, cl_0, cl_1, cl_10, cl_1000000000000, cl_122, cl_2, cl_2000000000000, cl_23, cl_255, cl_27, cl_3, cl_4, cl_48, cl_57, cl_6, cl_8, cl_96, cl_97, cl_99, cl_999, cl_9999]
  refine nlp3_i (fun g m rw' => 0 ≤ g ∧ g ≤ gu ∧ m = cnt set g.toNat ∧ rw1 set g rw') (fun g _ _ => (gu - g).toNat) ?_ ⟨by omega, by omega, rfl, fun j a b => by omega⟩
  intro g m r1 hi self hself
  obtain ⟨i1, i2, i3, i4⟩ := hi
  have cb := cnt_b set g.toNat
  have cs := cnt_s (x := set) i1
  refine cB_i (fun _ => ?_) (fun _ => wL_i (wL_i ?_))
  · have : g = gu := by omega
    subst this
    rw [i3]; exact h _ i4
  refine jn2_s (fun m' rw' => m' = cnt set (g + 1).toNat ∧ rw1 set (g + 1) rw') (fun m' rw' hs => wO_i (by simp only [iR]; omega) (hself _ _ _ ⟨by omega, by omega, hs.1, hs.2⟩ (by omega))) ?_
  refine cB_i (fun e => ?_) (fun e => ?_)
  · have hb := (bt1 i1 (by omega)).mp e
    rw [if_pos hb] at cs
    exact wO_i (by simp only [inb]; omega) (wO_i (by simp only [iR]; omega) ⟨by omega, by rw [i3]; exact rw1_u i1 i4⟩)
  · have hb : ¬ bit set g = true := fun q => e ((bt1 i1 (by omega)).mpr q)
    rw [if_neg hb] at cs
    exact ⟨by omega, fun j j0 j1 j2 => i4 j j0 (by by_cases e : j = g; (subst e; exact absurd j2 hb); omega) j2⟩
/-! the set hangs -/
theorem pw_c : ∀ k : Nat, k < 17 → ishl 1 (k : Int) = ((2 ^ k : Nat) : Int) := by decide +kernel
theorem st_small {x n : Int} (hx : iR x) (hn : 0 ≤ n ∧ n ≤ 16) : (0 ≤ x ∧ x ≤ ishl 1 n - 1) ↔ ∀ t, n ≤ t → t < 32 → bit x t = false := by
  obtain ⟨x1, x2⟩ := hx
  obtain ⟨k, rfl⟩ : ∃ k : Nat, n = (k : Int) := ⟨n.toNat, by omega⟩
  have e := pw_c k (by omega)
  have e2 : (BitVec.ofInt 32 x).toNat = (x % 4294967296).toNat := by rw [BitVec.toNat_ofInt]; rfl
  have tb : ∀ t : Int, bit x t = Nat.testBit (x % 4294967296).toNat t.toNat := fun t => by
    unfold bit
    rw [← BitVec.testBit_toNat, e2]
  have p16 : 2 ^ k ≤ 65536 := Nat.le_trans (Nat.pow_le_pow_right (show 0 < 2 by omega) (show k ≤ 16 by omega)) (by decide)
  constructor
  · rintro ⟨a, b⟩ t t0 t1
    rw [tb]
    have pt : 2 ^ k ≤ 2 ^ t.toNat := Nat.pow_le_pow_right (by omega) (by omega)
    refine Nat.testBit_lt_two_pow (Nat.lt_of_lt_of_le ?_ pt)
    generalize 2 ^ k = P at *
    omega
  · intro h
    have h2 : (x % 4294967296).toNat < 2 ^ k := Nat.lt_pow_two_of_testBit _ (fun i hi => by
      by_cases i32 : i < 32
      · have := h (i : Int) (by omega) (by omega)
        rwa [tb, Int.toNat_natCast] at this
      · refine Nat.testBit_lt_two_pow (Nat.lt_of_lt_of_le (m := 2 ^ 32) ?_ (Nat.pow_le_pow_right (by omega) (by omega)))
        show (x % 4294967296).toNat < 4294967296
        omega)
    generalize 2 ^ k = P at *
    omega
def hsC (n : Int) (gp : Int → Int) (set : Int) : Prop := ∀ t, 0 ≤ t → t < 32 → bit set t = true → t < n ∧ gp t ≠ -1
def hsM (pg gu : Int) (hg : Int → Int) (set : Int) : Prop := ∀ t, 0 ≤ t → t < 32 → bit set t = true → t < gu ∧ ∃ p, 0 ≤ p ∧ p < pg ∧ hg p = t
theorem so_allHang {gn x : Int} {gp : Int → Int} {Q : Int → Prop} (hg : 0 ≤ gn ∧ gn ≤ 16) (h1 : hsC gn gp x → Q 1) (h0 : ¬ hsC gn gp x → Q 0) : nf_H_allHang gn gp x Q := by
  unfold nf_H_allHang
  simp only [ci_m1, ci_m10, ci_m1001, ci_m1002, ci_m1003, ci_m1004, ci_0, ci_1, ci_10, ci_100, ci_1000, ci_10000, ci_101, ci_103, ci_104, ci_105, ci_107, ci_108, ci_110, ci_111, ci_114, ci_115, ci_116, ci_118, ci_119, ci_12, ci_122, ci_1431655765, ci_15, ci_16, ci_2, ci_20, ci_23, ci_24, ci_240, ci_252645135, ci_255, ci_256, ci_3, ci_32, ci_4, ci_420, ci_48, ci_5, ci_5040, ci_57, ci_59, ci_6, ci_60, ci_63, ci_64, ci_7, ci_70, ci_8, ci_858993459, ci_9, ci_900, ci_97, ci_99, ci_999, ci_9999, cl_0, cl_1, cl_10, cl_1000000000000, cl_122, cl_2, cl_2000000000000, cl_23, cl_255, cl_27, cl_3, cl_4, cl_48, cl_57, cl_6, cl_8, cl_96, cl_97, cl_99, cl_999, cl_9999]
  refine nlp2_i (fun l i => 0 ≤ i ∧ i ≤ gn ∧ ∀ t, 0 ≤ t → t < 32 → (bit l t = true ↔ (t < i ∧ gp t ≠ -1))) (fun _ i => (gn - i).toNat) ?_ ⟨by omega, by omega, fun t t0 t1 => by rw [bt_0]; exact ⟨fun q => absurd q (by decide), fun q => by omega⟩⟩
  intro l i hi self hself
  obtain ⟨i1, i2, i3⟩ := hi
  refine cB_i (fun _ => wL_i (wL_i (cB_i (fun e => h1 ?_) (fun e => h0 ?_)))) (fun _ => sp_hangs (cB_i (fun a => jn1_i (cB_f (by decide) (wL_i (wL_i (wO_i (by simp only [iR]; omega) (hself _ _ ⟨by omega, by omega, fun t t0 t1 => ?_⟩ (by omega))))))) (fun a => jn1_i (cB_t rfl (wO_i (by simp only [iR]; omega) (hself _ _ ⟨by omega, by omega, fun t t0 t1 => ?_⟩ (by omega)))))))
  · intro t t0 t1 hb
    have q := ia_0.mp e t t0 t1
    rw [bt_ixor, bt_m1 t0 t1, hb] at q
    cases hl : bit l t
    · rw [hl] at q; exact absurd q (by decide)
    · have := (i3 t t0 t1).mp hl
      exact ⟨by omega, this.2⟩
  · intro w
    refine e (ia_0.mpr (fun t t0 t1 => ?_))
    rw [bt_ixor, bt_m1 t0 t1]
    cases hb : bit x t
    · rfl
    · have := w t t0 t1 hb
      rw [(i3 t t0 t1).mpr ⟨by omega, this.2⟩]; rfl
  · rw [bt_ior, bt_shl i1 (by omega) t0 t1, Bool.or_eq_true_iff, i3 t t0 t1, decide_eq_true_eq]
    constructor
    · rintro (q | q)
      · exact ⟨by omega, q.2⟩
      · rw [← q]; exact ⟨by omega, a.2.2.2⟩
    · rintro ⟨q1, q2⟩
      by_cases e : i = t
      · exact Or.inr e
      · exact Or.inl ⟨by omega, q2⟩
  · rw [i3 t t0 t1]
    by_cases e : t = i
    · subst e
      exact ⟨fun q => by omega, fun q => absurd ⟨by omega, by omega, by omega, q.2⟩ a⟩
    · exact ⟨fun q => ⟨by omega, q.2⟩, fun q => ⟨by omega, q.2⟩⟩
theorem sm_areHanging {pg gu set : Int} {hg : Int → Int} {Q : Int → Prop} (hpg : 0 ≤ pg ∧ pg ≤ 24) (hgu : 0 ≤ gu ∧ gu ≤ 16) (hset : iR set) (h1 : hsM pg gu hg set → Q 1) (h0 : ¬ hsM pg gu hg set → Q 0) : nf_M_areHanging pg gu hg set Q := by
  unfold nf_M_areHanging nf_M_areGuests
  simp only [ci_m1, ci_m10, ci_m1001, ci_m1002, ci_m1003, ci_m1004, ci_0, ci_1, ci_10, ci_100, ci_1000, ci_10000, ci_101, ci_103, ci_104, ci_105, ci_107, ci_108, ci_110, ci_111, ci_114, ci_115, ci_116, ci_118, ci_119, ci_12, ci_122, ci_1431655765, ci_15, ci_16, ci_2, ci_20, ci_23, ci_24, ci_240, ci_252645135, ci_255, ci_256, ci_3, ci_32, ci_4, ci_420, ci_48, ci_5, ci_5040, ci_57, ci_59, ci_6, ci_60, ci_63, ci_64, ci_7, ci_70, ci_8, ci_858993459, ci_9, ci_900, ci_97, ci_99, ci_999, ci_9999, cl_0, cl_1, cl_10, cl_1000000000000, cl_122, cl_2, cl_2000000000000, cl_23, cl_255, cl_27, cl_3, cl_4, cl_48, cl_57, cl_6, cl_8, cl_96, cl_97, cl_99, cl_999, cl_9999]
  have s1 : ∀ k : Nat, k < 17 → 1 ≤ ishl 1 (k : Int) ∧ ishl 1 (k : Int) ≤ 65536 := by decide +kernel
  have s2 := s1 gu.toNat (by omega)
  rw [Int.toNat_of_nonneg hgu.1] at s2
  have sm := st_small hset hgu
  refine wL_i (wL_i (wO_i (by simp only [iR]; omega) (wL_i (sp_in (cB_i (fun a => wO_i (Or.inr rfl) ?_) (fun a => wO_i (Or.inl rfl) ?_))))))
  · have lo := sm.mp a
    have bs : ∀ t, 0 ≤ t → t < 32 → bit set t = true → t < gu := fun t t0 t1 hb => by
      rcases Int.lt_or_le t gu with q | q
      · exact q
      · rw [lo t q t1] at hb; exact absurd hb (by decide)
    refine nlp2_i (fun a g => 0 ≤ g ∧ g ≤ gu ∧ ((a = 0 ∧ ¬ hsM pg gu hg set) ∨ (a = 1 ∧ ∀ q, 0 ≤ q → q < g → bit set q = true → ∃ p, 0 ≤ p ∧ p < pg ∧ hg p = q))) (fun _ g => (gu - g).toNat) ?_ ⟨by omega, by omega, Or.inr ⟨rfl, by omega⟩⟩
    intro a g hi self hself
    obtain ⟨i1, i2, i3⟩ := hi
    refine cB_i (fun e => wO_i (by unfold bZ; omega) ?_) (fun e => cB_i (fun e2 => wO_i (by unfold bZ; omega) ?_) (fun e2 => wL_i (wL_i ?_)))
    · rcases i3 with ⟨rfl, i4⟩ | ⟨rfl, i4⟩
      · exact h0 i4
      · exact h1 (fun t t0 t1 hb => ⟨bs t t0 t1 hb, i4 t t0 (by have := bs t t0 t1 hb; omega) hb⟩)
    · rcases i3 with ⟨rfl, i4⟩ | ⟨rfl, i4⟩
      · exact h0 i4
      · exact absurd e2 (by decide)
    · have i4 : ∀ q, 0 ≤ q → q < g → bit set q = true → ∃ p, 0 ≤ p ∧ p < pg ∧ hg p = q := by
        rcases i3 with ⟨i3, _⟩ | ⟨_, i3⟩
        · exact absurd i3 e2
        · exact i3
      have b := bt1 (x := set) i1 (by omega)
      have b2 := bt01 (x := set) i1 (by omega)
      refine jn1_s (fun t => (t = 0 ∧ ¬ hsM pg gu hg set) ∨ (t = 1 ∧ (bit set g = true → ∃ p, 0 ≤ p ∧ p < pg ∧ hg p = g))) (fun t ht => wO_i (by simp only [iR]; omega) (hself _ _ ⟨by omega, by omega, ?_⟩ (by omega))) ?_
      · rcases ht with ht | ⟨ht, ht2⟩
        · exact Or.inl ht
        · refine Or.inr ⟨ht, fun q q1 q2 hq => ?_⟩
          by_cases eq : q = g
          · subst eq; exact ht2 hq
          · exact i4 q q1 (by omega) hq
      · refine jn0_s (bit set g = true → ∃ p, 0 ≤ p ∧ p < pg ∧ hg p = g) (fun e3 => Or.inr ⟨rfl, e3⟩) (cB_i (fun e3 => fun hb => by have := b.mpr hb; omega) (fun e3 => sp_pegOf hpg (fun r r1 r2 r3 r4 => cB_i (fun e4 => Or.inl ⟨rfl, fun w => ?_⟩) (fun e4 => fun _ => ⟨r, by omega, r2, r3 (by omega)⟩))))
        obtain ⟨_, p, p0, p1, p2⟩ := w g i1 (by omega) (b.mp (by omega))
        exact r4 (by omega) p p0 p1 p2
  · have no : ¬ hsM pg gu hg set := fun w => a (sm.mpr (fun t t0 t1 => by
      cases hb : bit set t
      · rfl
      · have := (w t (by omega) t1 hb).1; omega))
    refine nlp2_i (fun a g => a = 0) (fun _ _ => 0) ?_ rfl
    intro a g hi self hself
    subst hi
    exact cB_i (fun e => wO_i (by unfold bZ; omega) (h0 no)) (fun e => cB_t rfl (wO_i (by unfold bZ; omega) (h0 no)))
/-! the model runs a row -/
theorem sm_runRow {pg m a1 a2 a3 L : Int} {x : Nat} {T P pw sg hg ti rw fa : Int → Int} {Q : Int → Int → Int → (Int → Int) → Prop} (hpg : 0 ≤ pg ∧ pg ≤ 24) (hm : 0 ≤ m ∧ m ≤ 16) (hx : 1 ≤ x ∧ x ≤ 4) (hpw : ∀ q, 0 ≤ q → q < pg → 0 ≤ pw q ∧ pw q ≤ 122) (hs : 0 ≤ sg 3 ∧ sg 3 ≤ 20) (hL : sg 4 = L ∧ 0 ≤ L ∧ L ≤ 20) (hr : ∀ k, 0 ≤ k → k < m → 0 ≤ rw k ∧ rw k < 16 ∧ (∃ p, 0 ≤ p ∧ p < pg ∧ hg p = rw k) ∧ (∀ p, 0 ≤ p → p < pg → hg p = rw k → T (rw k) = 2 * pw p + sg 3) ∧ ti (rw k) = P (rw k) ∧ 0 ≤ T (rw k) ∧ T (rw k) ≤ 264 ∧ 0 ≤ P (rw k) ∧ P (rw k) ≤ 99) (h : ∀ f, Q (svS x T rw m.toNat) (svG x T rw m.toNat) (svT x T P L rw m.toNat) f) : nf_M_runRow pg m a1 a2 a3 pw sg hg ti rw fa x Q := by
  unfold nf_M_runRow
  simp only [ci_m1, ci_m10, ci_m1001, ci_m1002, ci_m1003, ci_m1004, ci_0, ci_1, ci_10, ci_100, ci_1000, ci_10000, ci_101, ci_103, ci_104, ci_105, ci_107, ci_108, ci_110, ci_111, ci_114, ci_115, ci_116, ci_118, ci_119, ci_12, ci_122, ci_1431655765, ci_15, ci_16, ci_2, ci_20, ci_23, ci_24, ci_240, ci_252645135, ci_255, ci_256, ci_3, ci_32, ci_4, ci_420, ci_48, ci_5, ci_5040, ci_57, ci_59, ci_6, ci_60, ci_63, ci_64, ci_7, ci_70, ci_8, ci_858993459, ci_9, ci_900, ci_97, ci_99, ci_999, ci_9999, cl_0, cl_1, cl_10, cl_1000000000000, cl_122, cl_2, cl_2000000000000, cl_23, cl_255, cl_27, cl_3, cl_4, cl_48, cl_57, cl_6, cl_8, cl_96, cl_97, cl_99, cl_999, cl_9999]
  refine nlp2_i (fun k fa' => 0 ≤ k ∧ k ≤ 4 ∧ ∀ q, 0 ≤ q → q < k → fa' q = 0) (fun k _ => (4 - k).toNat) ?_ ⟨by omega, by omega, by omega⟩
  intro k fa1 hi self hself
  obtain ⟨i1, i2, i3⟩ := hi
  refine cB_i (fun _ => ?_) (fun _ => ?_)
  · refine nlp5_i (fun i ws wm ts fa' => 0 ≤ i ∧ i ≤ m ∧ ws = svS x T rw i.toNat ∧ wm = svG x T rw i.toNat ∧ ts = svT x T P L rw i.toNat ∧ ∀ q, 0 ≤ q → q < 4 → fa' q = svF x T rw i.toNat q) (fun i _ _ _ _ => (m - i).toNat) ?_ ⟨by omega, by omega, rfl, rfl, rfl, fun q a b => i3 q a (by omega)⟩
    intro i ws wm ts fa2 hj self2 hself2
    obtain ⟨j1, j2, j3, j4, j5, j6⟩ := hj
    refine cB_i (fun _ => ?_) (fun _ => wO_i (by simp only [inb]; omega) ?_)
    · have : i = m := by omega
      subst this
      rw [j3, j4, j5]; exact h _
    have hk : ∀ k : Nat, k < i.toNat + 1 → 0 ≤ T (rw k) ∧ T (rw k) ≤ 264 := fun k hk => by
      have := (hr k (by omega) (by omega)).2.2.2.2.2; omega
    have wb := svW_b hx.2 i.toNat hk
    have sb := svS_b hx.2 i.toNat (by omega) (fun k q => hk k (by omega))
    have gb := svG_b hx.2 i.toNat (by omega) (fun k q => hk k (by omega))
    have tb := svT_b (P := P) (L := L) hx.2 hL.2 i.toNat (by omega) (fun k q => by have := (hr k (by omega) (by omega)).2.2.2.2.2; omega)
    have en : ((i.toNat : Nat) : Int) = i := Int.toNat_of_nonneg j1
    refine nlp2_i (fun (hd l : Int) => 1 ≤ l ∧ l ≤ x ∧ hd = am (svF x T rw i.toNat) (l - 1).toNat) (fun _ (l : Int) => ((x : Int) - l).toNat) ?_ ⟨by omega, by omega, rfl⟩
    intro hd l hk3 self3 hself3
    obtain ⟨k1, k2, k3⟩ := hk3
    have hab := am_b (svF x T rw i.toNat) (l - 1).toNat
    rw [← k3] at hab
    refine cB_i (fun e => ?_) (fun e => ?_)
    · obtain ⟨q1, q2, ⟨p0, p1, p2, p3⟩, q4, q5, q6⟩ := hr i j1 (by omega)
      have ehd : hd = am (svF x T rw i.toNat) (x - 1) := by rw [k3]; congr 1; omega
      have ew : fa2 hd + T (rw i) = svW x T rw i.toNat := by
        unfold svW
        rw [j6 hd (by omega) (by omega), ← ehd, en]
      have pb := svP_b (P := P) (rw := rw) (n := i.toNat) hL.2 (by rw [en]; omega) (show 0 ≤ svW x T rw i.toNat ∧ svW x T rw i.toNat ≤ 4224 by omega)
      have fb := svF_b hx.2 i.toNat (fun k q => hk k (by omega)) hd (by omega) (by omega)
      refine wO_i (by simp only [inb]; omega) (sp_pegOf hpg (fun r r1 r2 r3 r4 => ?_))
      have rr : 0 ≤ r := by
        by_cases er : r = -1
        · exact absurd p3 (r4 er p0 p1 p2)
        · omega
      have eT := q4 r rr r2 (r3 rr)
      have w1 := hpw r rr r2
      have ew2 : fa2 hd + (2 * pw r + sg 3) = svW x T rw i.toNat := by rw [← eT]; exact ew
      have j6h := j6 hd (by omega) (by omega)
      have m1 := mulb hL.2.1 hL.2.2 (show 0 ≤ svW x T rw i.toNat by omega) (show svW x T rw i.toNat ≤ 4224 by omega)
      have td : Int.tdiv (L * svW x T rw i.toNat) 10 = L * svW x T rw i.toNat / 10 := Int.tdiv_eq_ediv_of_nonneg m1.1
      have ss : svS x T rw (i.toNat + 1) = svS x T rw i.toNat + svW x T rw i.toNat := rfl
      have sg1 : svG x T rw (i.toNat + 1) = if svW x T rw i.toNat ≤ svG x T rw i.toNat then svG x T rw i.toNat else svW x T rw i.toNat := rfl
      have st : svT x T P L rw (i.toNat + 1) = svT x T P L rw i.toNat + svP P L rw i.toNat (svW x T rw i.toNat) := rfl
      have ei : (i + 1).toNat = i.toNat + 1 := by omega
      have nxt : ∀ z5 z6 z7, z5 = svS x T rw (i.toNat + 1) → z6 = svG x T rw (i.toNat + 1) → z7 = svT x T P L rw (i.toNat + 1) → self2 (i + 1) z5 z6 z7 (ups fa2 hd (svW x T rw i.toNat)) := fun z5 z6 z7 e1 e2 e3 => hself2 _ _ _ _ _ ⟨by omega, by omega, by rw [ei]; exact e1, by rw [ei]; exact e2, by rw [ei]; exact e3, fun q a b => by
        rw [ei, svF_s]
        by_cases eq : q = hd
        · rw [eq, ups_s, ← ehd, ups_s]
        · rw [ups_n eq, ups_n (by rw [← ehd]; exact eq)]; exact j6 q a b⟩ (by omega)
      refine wO_i (by simp only [inb]; omega) (wO_i (by simp only [iR]; omega) (wO_i (by simp only [inb]; omega) (wO_i (by simp only [iR]; omega) ?_)))
      rw [ew2]
      refine wO_i (by simp only [iR]; omega) (wO_i (by simp only [inb]; omega) (wO_i (by simp only [inb]; omega) ?_))
      rw [ups_s, hL.1]
      refine wO_i (by simp only [inb]; omega) (wO_i (by simp only [inb]; omega) (wO_i (by simp only [iR]; omega) (wO_i (by simp only [dOK]; omega) ?_)))
      rw [td, q5]
      refine wO_i (by simp only [iR]; omega) (wO_i (by simp only [iR]; omega) ?_)
      refine jn1_s (fun t => t = svG x T rw (i.toNat + 1)) (fun t29 ht29 => ?_) (cB_i (fun e6 => by rw [sg1, if_pos (by omega)]; exact j4) (fun e6 => by rw [sg1, if_neg (by omega)]))
      have ep : svP P L rw i.toNat (svW x T rw i.toNat) = if P (rw i) - L * svW x T rw i.toNat / 10 ≤ 0 then 0 else P (rw i) - L * svW x T rw i.toNat / 10 := by
        unfold svP
        rw [en, td]
      refine jn1_s (fun t => t = svP P L rw i.toNat (svW x T rw i.toNat)) (fun t31 ht31 => ?_) (cB_i (fun e6 => by rw [ep, if_pos e6]) (fun e6 => by rw [ep, if_neg e6]))
      exact wO_i (by simp only [iR]; omega) (wO_i (by simp only [iR]; omega) (nxt _ _ _ (by omega) ht29 (by omega)))
    · have as := am_s (F := svF x T rw i.toNat) (l := l) (by omega)
      rw [← k3, ← j6 hd (by omega) (by omega), ← j6 l (by omega) (by omega)] at as
      exact wO_i (by simp only [inb]; omega) (wO_i (by simp only [inb]; omega) (jn1_s (fun t => t = am (svF x T rw i.toNat) l.toNat) (fun t ht => wO_i (by simp only [iR]; omega) (hself3 _ _ ⟨by omega, by omega, by rw [ht, show (l + 1 - 1).toNat = l.toNat by omega]⟩ (by omega))) (cB_i (fun q => by rw [as, if_pos q]) (fun q => by rw [as, if_neg q]))))
  · refine wO_i (by simp only [inb]; omega) (wO_i (by simp only [iR]; omega) (hself _ _ ⟨by omega, by omega, fun q a b => ?_⟩ (by omega)))
    by_cases e : q = k
    · subst e; rw [ups_s]
    · rw [ups_n e]; exact i3 q a (by omega)
/-! the two side by side -/
def rAns (y : Int) (x : Nat) (T P : Int → Int) (L : Int) (rw : Int → Int) (n : Nat) : Int := if y = 0 then svS x T rw n else if y = 1 then svG x T rw n else svT x T P L rw n
theorem rAns_c {y : Int} {x : Nat} {T P rw rw' : Int → Int} {L : Int} (n : Nat) (h : ∀ k : Nat, k < n → rw k = rw' k) : rAns y x T P L rw n = rAns y x T P L rw' n := by
  unfold rAns
  rw [svS_c n (fun k hk => by rw [h k hk]), svG_c n (fun k hk => by rw [h k hk]), svT_c n (fun k hk => by rw [h k hk]; exact ⟨rfl, rfl⟩)]
theorem RS_hs {pg gu ev cl ni set gn en cn nn : Int} {pk gs gk gt gm gb gp gh ef cg cy cz nl so ki ti mk br ha hb hg er mg my mz pl we le : Int → Int} (hpg : 0 ≤ pg ∧ pg ≤ 24) (hs : RS pg pk gn gs gk gt gm gb gp gh en ef cn cg cy cz nn nl gu so ki ti mk br ha hb hg ev er cl mg my mz ni pl we le) : hsC gn gp set ↔ hsM pg gu hg set := by
  obtain ⟨⟨rfl, _, _, _⟩, G, ⟨P1, P2⟩, _⟩ := hs
  constructor
  · intro w t t0 t1 hb
    have q := w t t0 t1 hb
    rcases P2 t t0 q.1 with e | ⟨e1, e2, _⟩
    · exact absurd e q.2
    · exact ⟨q.1, gp t, e1, e2, (P1 t (gp t) t0 q.1 e1 (by omega)).mp rfl⟩
  · intro w t t0 t1 hb
    obtain ⟨q, p, p0, p1, p2⟩ := w t t0 t1 hb
    have := (P1 t p t0 q p0 (by omega)).mpr p2
    exact ⟨q, by omega⟩
theorem sm_rush {pg gu m a1 a2 a3 x y set L : Int} {T P pw sg hg ti rw fa : Int → Int} {Q : Int → Int → Int → Int → Int → (Int → Int) → (Int → Int) → Prop} (hpg : 0 ≤ pg ∧ pg ≤ 24) (hgu : 0 ≤ gu ∧ gu ≤ 16) (hset : iR set) (h1 : ¬ hsM pg gu hg set → Q (-1001) m a1 a2 a3 rw fa) (h2 : hsM pg gu hg set → ¬ ((1 ≤ x ∧ x ≤ 4) ∧ (0 ≤ y ∧ y ≤ 2)) → Q (-1002) m a1 a2 a3 rw fa) (hpw : ∀ q, 0 ≤ q → q < pg → 0 ≤ pw q ∧ pw q ≤ 122) (hs : 0 ≤ sg 3 ∧ sg 3 ≤ 20) (h3 : hsM pg gu hg set → (1 ≤ x ∧ x ≤ 4) → (0 ≤ y ∧ y ≤ 2) → (sg 4 = L ∧ 0 ≤ L ∧ L ≤ 20) ∧ (∀ g p, 0 ≤ g → g < gu → bit set g = true → 0 ≤ p → p < pg → hg p = g → T g = 2 * pw p + sg 3 ∧ ti g = P g ∧ 0 ≤ T g ∧ T g ≤ 264 ∧ 0 ≤ P g ∧ P g ≤ 99) ∧ (∀ rw' m' b1 b2 b3 f, rw1 set gu rw' → Q (rAns y x.toNat T P L rw' (cnt set gu.toNat).toNat) m' b1 b2 b3 rw' f)) : nf_M_rush pg gu m a1 a2 a3 pw sg hg ti rw fa set x y Q := by
  unfold nf_M_rush
  simp only [ci_m1, ci_m10, ci_m1001, ci_m1002, ci_m1003, ci_m1004, ci_0, ci_1, ci_10, ci_100, ci_1000, ci_10000, ci_101, ci_103, ci_104, ci_105, ci_107, ci_108, ci_110, ci_111, ci_114, ci_115, ci_116, ci_118, ci_119, ci_12, ci_122, ci_1431655765, ci_15, ci_16, ci_2, ci_20, ci_23, ci_24, ci_240, ci_252645135, ci_255, ci_256, ci_3, ci_32, ci_4, ci_420, ci_48, ci_5, ci_5040, ci_57, ci_59, ci_6, ci_60, ci_63, ci_64, ci_7, ci_70, ci_8, ci_858993459, ci_9, ci_900, ci_97, ci_99, ci_999, ci_9999, cl_0, cl_1, cl_10, cl_1000000000000, cl_122, cl_2, cl_2000000000000, cl_23, cl_255, cl_27, cl_3, cl_4, cl_48, cl_57, cl_6, cl_8, cl_96, cl_97, cl_99, cl_999, cl_9999]
  refine sm_areHanging hpg hgu hset (fun hh => cB_f (by decide) ?_) (fun hn => cB_t rfl (h1 hn))
  refine wL_i (sp_in (cB_i (fun a => cB_f (by decide) (wL_i (sp_in (cB_i (fun b => cB_f (by decide) ?_) (fun b => cB_t rfl (h2 hh (fun w => b w.2))))))) (fun a => cB_t rfl (h2 hh (fun w => a w.1)))))
  obtain ⟨hL, hT, hQ⟩ := h3 hh a b
  have ex : x = ((x.toNat : Nat) : Int) := by omega
  refine sm_fillRow hgu (fun rw' hr => ?_)
  have cb := cnt_b set gu.toNat
  rw [ex]
  refine sm_runRow (T := T) (P := P) (L := L) hpg ⟨cb.1, by omega⟩ ⟨by omega, by omega⟩ hpw hs hL (fun k k0 k1 => ?_) (fun f => ?_)
  · obtain ⟨q1, q2, q3⟩ := rw1_k hgu.1 hr k0 k1
    obtain ⟨_, p, p0, p1, p2⟩ := hh (rw' k) q1 (by omega) q3
    have w := hT (rw' k) p q1 q2 q3 p0 p1 p2
    exact ⟨q1, by omega, ⟨p, p0, p1, p2⟩, fun p' p0' p1' p2' => (hT (rw' k) p' q1 q2 q3 p0' p1' p2').1, w.2.1, w.2.2⟩
  · have q := fun m' b1 b2 b3 => hQ rw' m' b1 b2 b3 f hr
    unfold rAns at q
    refine cB_i (fun e => ?_) (fun e => cB_i (fun e2 => ?_) (fun e2 => ?_))
    · have := q (cnt set gu.toNat) (svS x.toNat T rw' (cnt set gu.toNat).toNat) (svG x.toNat T rw' (cnt set gu.toNat).toNat) (svT x.toNat T P L rw' (cnt set gu.toNat).toNat)
      rw [if_pos e] at this; exact this
    · have := q (cnt set gu.toNat) (svS x.toNat T rw' (cnt set gu.toNat).toNat) (svG x.toNat T rw' (cnt set gu.toNat).toNat) (svT x.toNat T P L rw' (cnt set gu.toNat).toNat)
      rw [if_neg e, if_pos e2] at this; exact this
    · have := q (cnt set gu.toNat) (svS x.toNat T rw' (cnt set gu.toNat).toNat) (svG x.toNat T rw' (cnt set gu.toNat).toNat) (svT x.toNat T P L rw' (cnt set gu.toNat).toNat)
      rw [if_neg e, if_neg e2] at this; exact this
/-- what the class's ticks and tips are to the reference -/
theorem RS_tk {pg gn en cn nn gu ev cl ni ht hl set : Int} {pk hw pw sg gs gk gt gm gb gp gh ef cg cy cz nl so ki ti mk br ha hb hg er mg my mz pl we le tk tp : Int → Int} (hpg : 0 ≤ pg ∧ pg ≤ 24) (hkk : ∀ q, 0 ≤ q → q < pg → hw q = pw q) (hht : ht = sg 3) (hs : RS pg pk gn gs gk gt gm gb gp gh en ef cn cg cy cz nn nl gu so ki ti mk br ha hb hg ev er cl mg my mz ni pl we le) (hI : uI hl tk tp) (hgn : gn ≤ 16) (e : ∀ g, 0 ≤ g → g < gn → bit set g = true → tk g = 2 * hw (gp g) + ht ∧ tp g = gt g) : ∀ g p, 0 ≤ g → g < gu → bit set g = true → 0 ≤ p → p < pg → hg p = g → tk g = 2 * pw p + sg 3 ∧ ti g = tp g ∧ 0 ≤ tk g ∧ tk g ≤ 264 ∧ 0 ≤ tp g ∧ tp g ≤ 99 := by
  intro g p g0 g1 hb p0 p1 p2
  obtain ⟨⟨rfl, _, _, _⟩, G, ⟨P1, P2⟩, _⟩ := hs
  have e1 := e g g0 g1 hb
  have e2 := (P1 g p g0 g1 p0 (by omega)).mpr p2
  have e3 := (G g g0 g1).1.2.2.1
  have e4 := hI.2.2 g g0 (by omega)
  rw [e2, hkk p p0 p1, hht] at e1
  exact ⟨e1.1, by rw [e1.2]; exact e3.symm, e4⟩
theorem sim_rush {pg gn en cn nn gu ev cl ni ht hl sz ls m a1 a2 a3 x y set : Int} {pk hw pw sg hs' hx gs gk gt gm gb gp gh ef cg cy cz nl so ki ti mk br ha hb hg er mg my mz pl we le tk tp rw fa wa gr ts rw2 fa2 : Int → Int} {K : Int → Int → Int → (Int → Int) → (Int → Int) → (Int → Int) → (Int → Int) → (Int → Int) → (Int → Int) → (Int → Int) → Int → Int → Int → Int → Int → (Int → Int) → (Int → Int) → Prop} (hpg : 0 ≤ pg ∧ pg ≤ 24) (hcg : cG gn gt) (hd : dI 0 pg ht hl hw hs' hx) (hkk : ∀ q, 0 ≤ q → q < pg → hw q = pw q) (hht : ht = sg 3) (hhl : hl = sg 4) (hset : iR set) (hI : uI ls tk tp) (hA : uA fa) (hW : uW wa gr ts) (hm : mF gu ev cl ni so ti ha hb hg er mg le) (hs : RS pg pk gn gs gk gt gm gb gp gh en ef cn cg cy cz nn nl gu so ki ti mk br ha hb hg ev er cl mg my mz ni pl we le) (h : ∀ r r2 sz' ls' tk' tp' rw' fa' wa' gr' ts' m' b1 b2 b3 rw2' fa2', uI ls' tk' tp' → uA fa' → uW wa' gr' ts' → r = r2 → K r sz' ls' tk' tp' rw' fa' wa' gr' ts' r2 m' b1 b2 b3 rw2' fa2') : nf_H_rush gn gt gp pg ht hl hw sz ls tk tp rw fa wa gr ts set x y fun r sz' ls' tk' tp' rw' fa' wa' gr' ts' => nf_M_rush pg gu m a1 a2 a3 pw sg hg ti rw2 fa2 set x y fun r2 m' b1 b2 b3 rw2' fa2' => K r sz' ls' tk' tp' rw' fa' wa' gr' ts' r2 m' b1 b2 b3 rw2' fa2' := by
  have hs0 := hs
  have hgu : 0 ≤ gu ∧ gu ≤ 16 := ⟨hm.1.1, hm.1.2.1⟩
  have egn : gn = gu := hs.1.1
  have hsx := RS_hs (set := set) hpg hs
  obtain ⟨d1, d2, d3, d4⟩ := hd
  obtain ⟨e1, e2, e3, e4, e5, e6⟩ := d4 rfl
  have hpw : ∀ q, 0 ≤ q → q < pg → 0 ≤ pw q ∧ pw q ≤ 122 := fun q a b => by rw [← hkk q a b]; exact d3 q a b
  have hs3 : 0 ≤ sg 3 ∧ sg 3 ≤ 20 := by omega
  have fail : ∀ (r : Int), (¬ hsM pg gu hg set → r = -1001) → (hsM pg gu hg set → ¬ ((1 ≤ x ∧ x ≤ 4) ∧ (0 ≤ y ∧ y ≤ 2)) ∧ r = -1002) → nf_M_rush pg gu m a1 a2 a3 pw sg hg ti rw2 fa2 set x y fun r2 m' b1 b2 b3 rw2' fa2' => K r sz ls tk tp rw fa wa gr ts r2 m' b1 b2 b3 rw2' fa2' := fun r f1 f2 => sm_rush (T := tk) (P := tp) (L := ls) hpg hgu hset (fun q => h _ _ _ _ _ _ _ _ _ _ _ _ _ _ _ _ _ hI hA hW (f1 q)) (fun q _ => h _ _ _ _ _ _ _ _ _ _ _ _ _ _ _ _ _ hI hA hW (f2 q).2) hpw hs3 (fun q a b => absurd ⟨a, b⟩ (f2 q).1)
  unfold nf_H_rush
  simp only [ci_m1, ci_m10, ci_m1001, ci_m1002, ci_m1003, ci_m1004, ci_0, ci_1, ci_10, ci_100, ci_1000, ci_10000, ci_101, ci_103, ci_104, ci_105, ci_107, ci_108, ci_110, ci_111, ci_114, ci_115, ci_116, ci_118, ci_119, ci_12, ci_122, ci_1431655765, ci_15, ci_16, ci_2, ci_20, ci_23, ci_24, ci_240, ci_252645135, ci_255, ci_256, ci_3, ci_32, ci_4, ci_420, ci_48, ci_5, ci_5040, ci_57, ci_59, ci_6, ci_60, ci_63, ci_64, ci_7, ci_70, ci_8, ci_858993459, ci_9, ci_900, ci_97, ci_99, ci_999, ci_9999, cl_0, cl_1, cl_10, cl_1000000000000, cl_122, cl_2, cl_2000000000000, cl_23, cl_255, cl_27, cl_3, cl_4, cl_48, cl_57, cl_6, cl_8, cl_96, cl_97, cl_99, cl_999, cl_9999]
  refine so_allHang (by omega) (fun hh => cB_f (by decide) ?_) (fun hn => cB_t rfl (fail (-1001) (fun _ => rfl) (fun q => absurd (hsx.mpr q) hn)))
  have hh2 := hsx.mp hh
  refine sp_within (cB_i (fun v1 => cB_f (by decide) ?_) (fun v1 => cB_t rfl (fail (-1002) (fun q => absurd hh2 q) (fun _ => ⟨fun w => v1 w.1, rfl⟩))))
  refine sp_within (cB_i (fun v2 => cB_f (by decide) ?_) (fun v2 => cB_t rfl (fail (-1002) (fun q => absurd hh2 q) (fun _ => ⟨fun w => v2 w.2, rfl⟩))))
  refine so_loadU (by omega) hpg.2 hcg.2 ⟨e1, e2, e3, e4⟩ d3 hI (fun g g0 g1 hb => ?_) (fun tk1 tp1 rw1' hI1 hr1 ht1 => ?_)
  · rcases hs.2.2.1.2 g g0 (by omega) with q | q
    · exact absurd q (hh g g0 (by omega) hb).2
    · exact ⟨q.1, q.2.1⟩
  have cb := cnt_b set gn.toNat
  have ex : x = ((x.toNat : Nat) : Int) := by omega
  have hTT := RS_tk hpg hkk hht hs hI1 (by omega) ht1
  have run : ∀ (r : Int) (fa' wa' gr' ts' : Int → Int), uA fa' → uW wa' gr' ts' → r = rAns y x.toNat tk1 tp1 hl rw1' (cnt set gn.toNat).toNat → nf_M_rush pg gu m a1 a2 a3 pw sg hg ti rw2 fa2 set x y fun r2 m' b1 b2 b3 rw2' fa2' => K r (cnt set gn.toNat) hl tk1 tp1 rw1' fa' wa' gr' ts' r2 m' b1 b2 b3 rw2' fa2' := fun r fa' wa' gr' ts' hA' hW' hr => sm_rush (T := tk1) (P := tp1) (L := hl) hpg hgu hset (fun q => absurd hh2 q) (fun _ q => absurd ⟨v1, v2⟩ q) hpw hs3 (fun _ _ _ => ⟨⟨hhl.symm, e3, e4⟩, hTT, fun rw' m' b1 b2 b3 f hr' => h _ _ _ _ _ _ _ _ _ _ _ _ _ _ _ _ _ hI1 hA' hW' (by
    rw [hr, egn]
    rw [egn] at hr1
    have cb2 := cnt_b set gu.toNat
    exact rAns_c _ (fun k hk => rw1_e hgu.1 hr1 hr' (by omega) (by omega)))⟩)
  have hu0 := uS_0 (x := x.toNat) (tk := tk1) (tp := tp1) (rw := rw1') (ls := hl) (by omega) hA hW
  have en : (((cnt set gn.toNat).toNat : Nat) : Int) = cnt set gn.toNat := Int.toNat_of_nonneg cb.1
  have go : ∀ {X : (Int → Int) → (Int → Int) → (Int → Int) → (Int → Int) → Prop}, (∀ fa' wa' gr' ts', uA fa' → uW wa' gr' ts' → uS x.toNat tk1 tp1 hl rw1' (cnt set gn.toNat) fa' wa' gr' ts' → X fa' wa' gr' ts') → nf_Rush_serveFrom (cnt set gn.toNat) hl tk1 tp1 rw1' fa wa gr ts 0 x X := fun {X} hX => by
    rw [ex]
    exact so_serveFrom hI1 ⟨cb.1, by omega⟩ ⟨by omega, cb.1⟩ ⟨by omega, by omega⟩ (fun k k0 k1 => by have := rw1_k (by omega) hr1 k0 k1; omega) hA hW hu0 hX
  refine go (fun fa' wa' gr' ts' hA' hW' hS' => ?_)
  have hS2 := hS' (cnt set gn.toNat).toNat (by omega)
  rw [en] at hS2
  refine cB_i (fun e => sp_sumOfWaits ⟨cb.1, by omega⟩ (run _ _ _ _ _ hA' hW' ?_)) (fun e => cB_i (fun e' => sp_greatestWait ⟨cb.1, by omega⟩ (run _ _ _ _ _ hA' hW' ?_)) (fun e' => sp_sumOfTips ⟨cb.1, by omega⟩ (run _ _ _ _ _ hA' hW' ?_)))
  · unfold rAns
    rw [if_pos e]; exact hS2.2.1
  · unfold rAns
    rw [if_neg e, if_pos e']; exact hS2.2.2.1
  · unfold rAns
    rw [if_neg e, if_neg e']; exact hS2.2.2.2
/-! wanted -/
def wnS (w r : Int) (G : Nat → Int) : Prop := (r = -1 ∧ ∀ l : Nat, 1 ≤ l → l ≤ 4 → w < G l) ∨ (1 ≤ r ∧ r ≤ 4 ∧ G r.toNat ≤ w ∧ ∀ l : Nat, 1 ≤ l → (l : Int) < r → w < G l)
theorem wnS_u {w r r' : Int} {G G' : Nat → Int} (hG : ∀ l, 1 ≤ l → l ≤ 4 → G l = G' l) (h : wnS w r G) (h' : wnS w r' G') : r = r' := by
  rcases h with ⟨h1, h2⟩ | ⟨h1, h2, h3, h4⟩ <;> rcases h' with ⟨k1, k2⟩ | ⟨k1, k2, k3, k4⟩
  · omega
  · have a := h2 r'.toNat (by omega) (by omega)
    rw [hG _ (by omega) (by omega)] at a
    omega
  · have a := k2 r.toNat (by omega) (by omega)
    rw [← hG _ (by omega) (by omega)] at a
    omega
  · rcases Int.lt_trichotomy r r' with q | q | q
    · have a := k4 r.toNat (by omega) (by omega)
      rw [← hG _ (by omega) (by omega)] at a
      omega
    · exact q
    · have a := h4 r'.toNat (by omega) (by omega)
      rw [hG _ (by omega) (by omega)] at a
      omega
theorem sm_wanted {pg gu m a1 a2 a3 w set L : Int} {T P pw sg hg ti rw fa : Int → Int} {Q : Int → Int → Int → Int → Int → (Int → Int) → (Int → Int) → Prop} (hpg : 0 ≤ pg ∧ pg ≤ 24) (hgu : 0 ≤ gu ∧ gu ≤ 16) (hset : iR set) (h1 : ¬ hsM pg gu hg set → Q (-1001) m a1 a2 a3 rw fa) (h2 : hsM pg gu hg set → ¬ (0 ≤ w ∧ w ≤ 9999) → Q (-1002) m a1 a2 a3 rw fa) (hpw : ∀ q, 0 ≤ q → q < pg → 0 ≤ pw q ∧ pw q ≤ 122) (hs : 0 ≤ sg 3 ∧ sg 3 ≤ 20) (h3 : hsM pg gu hg set → (0 ≤ w ∧ w ≤ 9999) → (sg 4 = L ∧ 0 ≤ L ∧ L ≤ 20) ∧ (∀ g p, 0 ≤ g → g < gu → bit set g = true → 0 ≤ p → p < pg → hg p = g → T g = 2 * pw p + sg 3 ∧ ti g = P g ∧ 0 ≤ T g ∧ T g ≤ 264 ∧ 0 ≤ P g ∧ P g ≤ 99) ∧ (∀ r rw' m' b1 b2 b3 f, rw1 set gu rw' → wnS w r (fun l => svG l T rw' (cnt set gu.toNat).toNat) → Q r m' b1 b2 b3 rw' f)) : nf_M_wanted pg gu m a1 a2 a3 pw sg hg ti rw fa set w Q := by
  unfold nf_M_wanted
  simp only [ci_m1, ci_m10, ci_m1001, ci_m1002, ci_m1003, ci_m1004, ci_0, ci_1, ci_10, ci_100, ci_1000, ci_10000, ci_101, ci_103, ci_104, ci_105, ci_107, ci_108, ci_110, ci_111, ci_114, ci_115, ci_116, ci_118, ci_119, ci_12, ci_122, ci_1431655765, ci_15, ci_16, ci_2, ci_20, ci_23, ci_24, ci_240, ci_252645135, ci_255, ci_256, ci_3, ci_32, ci_4, ci_420, ci_48, ci_5, ci_5040, ci_57, ci_59, ci_6, ci_60, ci_63, ci_64, ci_7, ci_70, ci_8, ci_858993459, ci_9, ci_900, ci_97, ci_99, ci_999, ci_9999, cl_0, cl_1, cl_10, cl_1000000000000, cl_122, cl_2, cl_2000000000000, cl_23, cl_255, cl_27, cl_3, cl_4, cl_48, cl_57, cl_6, cl_8, cl_96, cl_97, cl_99, cl_999, cl_9999]
  refine sm_areHanging hpg hgu hset (fun hh => cB_f (by decide) ?_) (fun hn => cB_t rfl (h1 hn))
  refine wL_i (sp_in (cB_i (fun a => cB_f (by decide) ?_) (fun a => cB_t rfl (h2 hh a))))
  obtain ⟨hL, hT, hQ⟩ := h3 hh a
  refine sm_fillRow hgu (fun rw' hr => ?_)
  have cb := cnt_b set gu.toNat
  refine nlp5_i (fun (l _ _ _ : Int) (_ : Int → Int) => 1 ≤ l ∧ l ≤ 5 ∧ ∀ k : Nat, 1 ≤ k → (k : Int) < l → w < svG k T rw' (cnt set gu.toNat).toNat) (fun l _ _ _ _ => (5 - l).toNat) ?_ ⟨by omega, by omega, fun k a b => by omega⟩
  intro l b1 b2 b3 f1 hi self hself
  obtain ⟨i1, i2, i3⟩ := hi
  refine cB_i (fun e => hQ _ _ _ _ _ _ _ hr (Or.inl ⟨rfl, fun k k0 k1 => i3 k k0 (by omega)⟩)) (fun e => ?_)
  have ex : l = ((l.toNat : Nat) : Int) := by omega
  have run : ∀ {X : Int → Int → Int → (Int → Int) → Prop}, (∀ c1 c2 c3 f, c2 = svG l.toNat T rw' (cnt set gu.toNat).toNat → X c1 c2 c3 f) → nf_M_runRow pg (cnt set gu.toNat) b1 b2 b3 pw sg hg ti rw' f1 l X := fun {X} hX => by
    rw [ex]
    refine sm_runRow (T := T) (P := P) (L := L) hpg ⟨cb.1, by omega⟩ ⟨by omega, by omega⟩ hpw hs hL (fun k k0 k1 => ?_) (fun f => hX _ _ _ _ rfl)
    obtain ⟨q1, q2, q3⟩ := rw1_k hgu.1 hr k0 k1
    obtain ⟨_, p, p0, p1, p2⟩ := hh (rw' k) q1 (by omega) q3
    have w := hT (rw' k) p q1 q2 q3 p0 p1 p2
    exact ⟨q1, by omega, ⟨p, p0, p1, p2⟩, fun p' p0' p1' p2' => (hT (rw' k) p' q1 q2 q3 p0' p1' p2').1, w.2.1, w.2.2⟩
  refine run (fun c1 c2 c3 f ec => cB_i (fun e2 => wO_i (by simp only [iR]; omega) (hself _ _ _ _ _ ⟨by omega, by omega, fun k k0 k1 => ?_⟩ (by omega))) (fun e2 => hQ _ _ _ _ _ _ _ hr (Or.inr ⟨i1, by omega, by show svG l.toNat T rw' (cnt set gu.toNat).toNat ≤ w; omega, i3⟩)))
  by_cases q : (k : Int) = l
  · rw [show k = l.toNat by omega, ← ec]; omega
  · exact i3 k k0 (by omega)
theorem sim_wanted {pg gn en cn nn gu ev cl ni ht hl sz ls m a1 a2 a3 w set : Int} {pk hw pw sg hs' hx gs gk gt gm gb gp gh ef cg cy cz nl so ki ti mk br ha hb hg er mg my mz pl we le tk tp rw fa wa gr ts rw2 fa2 : Int → Int} {K : Int → Int → Int → (Int → Int) → (Int → Int) → (Int → Int) → (Int → Int) → (Int → Int) → (Int → Int) → (Int → Int) → Int → Int → Int → Int → Int → (Int → Int) → (Int → Int) → Prop} (hpg : 0 ≤ pg ∧ pg ≤ 24) (hcg : cG gn gt) (hd : dI 0 pg ht hl hw hs' hx) (hkk : ∀ q, 0 ≤ q → q < pg → hw q = pw q) (hht : ht = sg 3) (hhl : hl = sg 4) (hset : iR set) (hI : uI ls tk tp) (hA : uA fa) (hW : uW wa gr ts) (hm : mF gu ev cl ni so ti ha hb hg er mg le) (hs : RS pg pk gn gs gk gt gm gb gp gh en ef cn cg cy cz nn nl gu so ki ti mk br ha hb hg ev er cl mg my mz ni pl we le) (h : ∀ r r2 sz' ls' tk' tp' rw' fa' wa' gr' ts' m' b1 b2 b3 rw2' fa2', uI ls' tk' tp' → uA fa' → uW wa' gr' ts' → r = r2 → K r sz' ls' tk' tp' rw' fa' wa' gr' ts' r2 m' b1 b2 b3 rw2' fa2') : nf_H_wanted gn gt gp pg ht hl hw sz ls tk tp rw fa wa gr ts set w fun r sz' ls' tk' tp' rw' fa' wa' gr' ts' => nf_M_wanted pg gu m a1 a2 a3 pw sg hg ti rw2 fa2 set w fun r2 m' b1 b2 b3 rw2' fa2' => K r sz' ls' tk' tp' rw' fa' wa' gr' ts' r2 m' b1 b2 b3 rw2' fa2' := by
  have hs0 := hs
  have hgu : 0 ≤ gu ∧ gu ≤ 16 := ⟨hm.1.1, hm.1.2.1⟩
  have egn : gn = gu := hs.1.1
  have hsx := RS_hs (set := set) hpg hs
  obtain ⟨d1, d2, d3, d4⟩ := hd
  obtain ⟨e1, e2, e3, e4, e5, e6⟩ := d4 rfl
  have hpw : ∀ q, 0 ≤ q → q < pg → 0 ≤ pw q ∧ pw q ≤ 122 := fun q a b => by rw [← hkk q a b]; exact d3 q a b
  have hs3 : 0 ≤ sg 3 ∧ sg 3 ≤ 20 := by omega
  have fail : ∀ (r : Int), (¬ hsM pg gu hg set → r = -1001) → (hsM pg gu hg set → ¬ (0 ≤ w ∧ w ≤ 9999) ∧ r = -1002) → nf_M_wanted pg gu m a1 a2 a3 pw sg hg ti rw2 fa2 set w fun r2 m' b1 b2 b3 rw2' fa2' => K r sz ls tk tp rw fa wa gr ts r2 m' b1 b2 b3 rw2' fa2' := fun r f1 f2 => sm_wanted (T := tk) (P := tp) (L := ls) hpg hgu hset (fun q => h _ _ _ _ _ _ _ _ _ _ _ _ _ _ _ _ _ hI hA hW (f1 q)) (fun q _ => h _ _ _ _ _ _ _ _ _ _ _ _ _ _ _ _ _ hI hA hW (f2 q).2) hpw hs3 (fun q a => absurd a (f2 q).1)
  unfold nf_H_wanted
  simp only [ci_m1, ci_m10, ci_m1001, ci_m1002, ci_m1003, ci_m1004, ci_0, ci_1, ci_10, ci_100, ci_1000, ci_10000, ci_101, ci_103, ci_104, ci_105, ci_107, ci_108, ci_110, ci_111, ci_114, ci_115, ci_116, ci_118, ci_119, ci_12, ci_122, ci_1431655765, ci_15, ci_16, ci_2, ci_20, ci_23, ci_24, ci_240, ci_252645135, ci_255, ci_256, ci_3, ci_32, ci_4, ci_420, ci_48, ci_5, ci_5040, ci_57, ci_59, ci_6, ci_60, ci_63, ci_64, ci_7, ci_70, ci_8, ci_858993459, ci_9, ci_900, ci_97, ci_99, ci_999, ci_9999, cl_0, cl_1, cl_10, cl_1000000000000, cl_122, cl_2, cl_2000000000000, cl_23, cl_255, cl_27, cl_3, cl_4, cl_48, cl_57, cl_6, cl_8, cl_96, cl_97, cl_99, cl_999, cl_9999]
  refine so_allHang (by omega) (fun hh => cB_f (by decide) ?_) (fun hn => cB_t rfl (fail (-1001) (fun _ => rfl) (fun q => absurd (hsx.mpr q) hn)))
  have hh2 := hsx.mp hh
  refine sp_within (cB_i (fun v1 => cB_f (by decide) ?_) (fun v1 => cB_t rfl (fail (-1002) (fun q => absurd hh2 q) (fun _ => ⟨v1, rfl⟩))))
  refine so_loadU (by omega) hpg.2 hcg.2 ⟨e1, e2, e3, e4⟩ d3 hI (fun g g0 g1 hb => ?_) (fun tk1 tp1 rw1' hI1 hr1 ht1 => ?_)
  · rcases hs.2.2.1.2 g g0 (by omega) with q | q
    · exact absurd q (hh g g0 (by omega) hb).2
    · exact ⟨q.1, q.2.1⟩
  have cb := cnt_b set gn.toNat
  have hTT := RS_tk hpg hkk hht hs hI1 (by omega) ht1
  have en : (((cnt set gn.toNat).toNat : Nat) : Int) = cnt set gn.toNat := Int.toNat_of_nonneg cb.1
  have fin : ∀ (r : Int) (fa' wa' gr' ts' : Int → Int), uA fa' → uW wa' gr' ts' → wnS w r (fun l => svG l tk1 rw1' (cnt set gn.toNat).toNat) → nf_M_wanted pg gu m a1 a2 a3 pw sg hg ti rw2 fa2 set w fun r2 m' b1 b2 b3 rw2' fa2' => K r (cnt set gn.toNat) hl tk1 tp1 rw1' fa' wa' gr' ts' r2 m' b1 b2 b3 rw2' fa2' := fun r fa' wa' gr' ts' hA' hW' hr => sm_wanted (T := tk1) (P := tp1) (L := hl) hpg hgu hset (fun q => absurd hh2 q) (fun _ q => absurd v1 q) hpw hs3 (fun _ _ => ⟨⟨hhl.symm, e3, e4⟩, hTT, fun r2 rw' m' b1 b2 b3 f hr' hw' => h _ _ _ _ _ _ _ _ _ _ _ _ _ _ _ _ _ hI1 hA' hW' (wnS_u (fun l _ _ => by
    rw [egn]
    rw [egn] at hr1
    have cb2 := cnt_b set gu.toNat
    exact svG_c _ (fun k hk => by rw [rw1_e hgu.1 hr1 hr' (by omega) (by omega)])) hr hw')⟩)
  refine nlp5_i (fun (l : Int) (fa' wa' gr' ts' : Int → Int) => 1 ≤ l ∧ l ≤ 5 ∧ uA fa' ∧ uW wa' gr' ts' ∧ ∀ k : Nat, 1 ≤ k → (k : Int) < l → w < svG k tk1 rw1' (cnt set gn.toNat).toNat) (fun l _ _ _ _ => (5 - l).toNat) ?_ ⟨by omega, by omega, hA, hW, fun k a b => by omega⟩
  intro l fa2' wa2 gr2 ts2 hi self hself
  obtain ⟨i1, i2, i3, i4, i5⟩ := hi
  refine cB_i (fun e => fin _ _ _ _ _ i3 i4 (Or.inl ⟨rfl, fun k k0 k1 => i5 k k0 (by omega)⟩)) (fun e => ?_)
  have ex : l = ((l.toNat : Nat) : Int) := by omega
  have hu0 := uS_0 (x := l.toNat) (tk := tk1) (tp := tp1) (rw := rw1') (ls := hl) (by omega) i3 i4
  have go : ∀ {X : (Int → Int) → (Int → Int) → (Int → Int) → (Int → Int) → Prop}, (∀ fa' wa' gr' ts', uA fa' → uW wa' gr' ts' → uS l.toNat tk1 tp1 hl rw1' (cnt set gn.toNat) fa' wa' gr' ts' → X fa' wa' gr' ts') → nf_Rush_serveFrom (cnt set gn.toNat) hl tk1 tp1 rw1' fa2' wa2 gr2 ts2 0 l X := fun {X} hX => by
    rw [ex]
    exact so_serveFrom hI1 ⟨cb.1, by omega⟩ ⟨by omega, cb.1⟩ ⟨by omega, by omega⟩ (fun k k0 k1 => by have := rw1_k (by omega) hr1 k0 k1; omega) i3 i4 hu0 hX
  refine go (fun fa' wa' gr' ts' hA' hW' hS' => sp_greatestWait ⟨cb.1, by omega⟩ ?_)
  have hS2 := (hS' (cnt set gn.toNat).toNat (by omega)).2.2.1
  rw [en] at hS2
  refine cB_i (fun e2 => wO_i (by simp only [iR]; omega) (hself _ _ _ _ _ ⟨by omega, by omega, hA', hW', fun k k0 k1 => ?_⟩ (by omega))) (fun e2 => fin _ _ _ _ _ hA' hW' (Or.inr ⟨i1, by omega, ?_, i5⟩))
  · by_cases q : (k : Int) = l
    · rw [show k = l.toNat by omega, ← hS2]; exact e2
    · exact i5 k k0 (by omega)
  · show svG l.toNat tk1 rw1' (cnt set gn.toNat).toNat ≤ w
    rw [← hS2]; omega
