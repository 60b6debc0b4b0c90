/-! IN STEP 5: ranges of what is read; the class reads the whole text -/
theorem ob_p {α β : Type} {o : Sum (Int × Int) α} {k : α → Sum (Int × Int) β} {P : Int × Int → Prop} (h1 : ∀ x, o = .inl x → P x) (h2 : ∀ y, o = .inr y → ∀ x, k y = .inl x → P x) : ∀ x, ob o k = .inl x → P x := fun x h => by
  cases o with
  | inl z => rw [ob_l] at h; exact h1 x (by cases h; rfl)
  | inr y => rw [ob_r] at h; exact h2 y rfl x h
theorem ob_q {α β : Type} {o : Sum (Int × Int) α} {k : α → Sum (Int × Int) β} {P : β → Prop} (h2 : ∀ y, o = .inr y → ∀ s, k y = .inr s → P s) : ∀ s, ob o k = .inr s → P s := fun s h => by
  cases o with
  | inl z => rw [ob_l] at h; cases h
  | inr y => rw [ob_r] at h; exact h2 y rfl s h
abbrev pP : Int × Int → Prop := fun x => 1 ≤ x.1 ∧ x.1 ≤ 5
theorem pWord_p {T : Int → Int} {n a : Int} {si : Nat} : ∀ x : Int × Int, pWord T n a si = .inl x → pP x := fun x h => by
  unfold pWord at h
  split at h
  · cases h
  · cases h; show (1 : Int) ≤ 1 ∧ (1 : Int) ≤ 5; omega
theorem pEnd_p {T : Int → Int} {n a : Int} : ∀ x : Int × Int, pEnd T n a = .inl x → pP x := fun x h => by
  unfold pEnd at h
  split at h
  · cases h
  · cases h; show (1 : Int) ≤ 1 ∧ (1 : Int) ≤ 5; omega
theorem pNum_p {T : Int → Int} {n a lo hi : Int} : ∀ x : Int × Int, pNum T n a lo hi = .inl x → pP x := fun x h => by
  unfold pNum at h
  split at h
  · cases h; show (1 : Int) ≤ 1 ∧ (1 : Int) ≤ 5; omega
  · split at h
    · cases h
    · cases h; show (1 : Int) ≤ 2 ∧ (2 : Int) ≤ 5; omega
theorem pIf_p {α : Type} {c : Prop} [Decidable c] {v : α} {k w : Int} (hk : 1 ≤ k ∧ k ≤ 5) : ∀ x : Int × Int, (if c then (.inr v : Sum (Int × Int) α) else .inl (k, w)) = .inl x → pP x := fun x h => by
  split at h
  · cases h
  · cases h; exact hk
theorem pIf_n {α : Type} {c : Prop} [Decidable c] {v : α} {k w : Int} (hk : 1 ≤ k ∧ k ≤ 5) : ∀ x : Int × Int, (if c then (.inl (k, w) : Sum (Int × Int) α) else .inr v) = .inl x → pP x := fun x h => by
  split at h
  · cases h; exact hk
  · cases h
theorem pRow_p {T : Int → Int} {n a rp : Int} {rk rw : Int → Int} : ∀ x, pRow T n a rp rk rw = .inl x → pP x := by
  unfold pRow
  exact ob_p pWord_p fun _ _ => ob_p pNum_p fun _ _ => ob_p (pIf_p (by omega)) fun _ _ => ob_p pWord_p fun _ _ => ob_p pNum_p fun _ _ => ob_p pWord_p fun _ _ => ob_p pNum_p fun _ _ => ob_p pEnd_p fun _ _ => fun _ e => by cases e
theorem pOdds_p {T : Int → Int} {n a : Int} {t : Int → Bool} {ro : Int → Int} : ∀ x, pOdds T n a t ro = .inl x → pP x := by
  unfold pOdds
  exact ob_p pWord_p fun _ _ => ob_p pNum_p fun _ _ => ob_p (pIf_n (by omega)) fun _ _ => ob_p pNum_p fun _ _ => ob_p pNum_p fun _ _ => ob_p pNum_p fun _ _ => ob_p (pIf_p (by omega)) fun _ _ => ob_p pEnd_p fun _ _ => fun _ e => by cases e
theorem pWts_p {T : Int → Int} {n a : Int} {t : Int → Bool} {rs : Int → Int} : ∀ x, pWts T n a t rs = .inl x → pP x := by
  unfold pWts
  exact ob_p (pIf_n (by omega)) fun _ _ => ob_p pWord_p fun _ _ => ob_p pNum_p fun _ _ => ob_p pNum_p fun _ _ => ob_p pNum_p fun _ _ => ob_p pEnd_p fun _ _ => fun _ e => by cases e
theorem pOne_p {T : Int → Int} {n a : Int} {si : Nat} {t : Int → Bool} {rs : Int → Int} : ∀ x, pOne T n a si t rs = .inl x → pP x := by
  unfold pOne
  exact ob_p (pIf_n (by omega)) fun _ _ => ob_p pWord_p fun _ _ => ob_p pNum_p fun _ _ => ob_p pEnd_p fun _ _ => fun _ e => by cases e
theorem pClause_p {T : Int → Int} {n a rp : Int} {t : Int → Bool} {rk rw ro rs : Int → Int} : ∀ x, pClause T n a t rp rk rw ro rs = .inl x → pP x := by
  unfold pClause
  split
  · exact ob_p pRow_p fun _ _ => fun _ e => by cases e
  split
  · exact ob_p pOdds_p fun _ _ => fun _ e => by cases e
  split
  · exact ob_p pWts_p fun _ _ => fun _ e => by cases e
  split
  · exact ob_p pOne_p fun _ _ => fun _ e => by cases e
  split
  · exact ob_p pOne_p fun _ _ => fun _ e => by cases e
  · intro x e; cases e; show (1 : Int) ≤ 1 ∧ (1 : Int) ≤ 5; omega
theorem pIf_r {α : Type} {c : Prop} [Decidable c] {v w : α} {x : Int × Int} (h : (if c then (.inr v : Sum (Int × Int) α) else .inl x) = .inr w) : c ∧ w = v := by
  split at h
  · cases h; exact ⟨by assumption, rfl⟩
  · cases h
theorem pIf_m {α : Type} {c : Prop} [Decidable c] {v w : α} {x : Int × Int} (h : (if c then (.inl x : Sum (Int × Int) α) else .inr v) = .inr w) : ¬ c ∧ w = v := by
  split at h
  · cases h
  · cases h; exact ⟨by assumption, rfl⟩
theorem pRow_r {T : Int → Int} {n a rp : Int} {rk rw ro rs : Int → Int} (hn : a ≤ n) (hI : rI 0 rp rw ro rs) : ∀ s, pRow T n a rp rk rw = .inr s → a < s.1 ∧ s.1 ≤ n ∧ rI 0 s.2.1 s.2.2.2 ro rs := by
  unfold pRow
  obtain ⟨i1, i2, i3, i4⟩ := hI
  refine ob_q fun a1 e1 => ob_q fun x e2 => ob_q fun a2 e3 => ob_q fun a3 e4 => ob_q fun y e5 => ob_q fun a4 e6 => ob_q fun z e7 => ob_q fun a5 e8 => fun s e => ?_
  have c1 := pWord_r hn e1
  have c2 := pNum_r c1.2 e2
  have c3 := pIf_r e3
  have g3 : a2 = x.2.2 := c3.2
  have c4 := pWord_r (show a2 ≤ n by omega) e4
  have c5 := pNum_r c4.2 e5
  have c6 := pWord_r c5.2.2.2.2 e6
  have c7 := pNum_r c6.2 e7
  have c8 := pEnd_r c7.2.2.2.2 e8
  cases e
  refine ⟨by show a < a5; omega, c8.2, by show 0 ≤ rp + x.1; omega, c3.1, fun q q0 q1 => ?_, i4⟩
  have q1' : q < rp + x.1 := q1
  show 0 ≤ (if rp ≤ q ∧ q < rp + x.1 then z.1 + (q - rp) else rw q) ∧ (if rp ≤ q ∧ q < rp + x.1 then z.1 + (q - rp) else rw q) ≤ 122
  by_cases c : rp ≤ q ∧ q < rp + x.1
  · rw [if_pos c]; omega
  · rw [if_neg c]; exact i3 q q0 (by omega)
theorem pOdds_r {T : Int → Int} {n a rp : Int} {t : Int → Bool} {rw ro rs : Int → Int} (hn : a ≤ n) (hI : rI 0 rp rw ro rs) : ∀ s, pOdds T n a t ro = .inr s → a < s.1 ∧ s.1 ≤ n ∧ rI 0 rp rw s.2.2 rs := by
  unfold pOdds
  obtain ⟨i1, i2, i3, i4⟩ := hI
  have i5 := i4 rfl
  refine ob_q fun a1 e1 => ob_q fun s e2 => ob_q fun a2 e3 => ob_q fun x e4 => ob_q fun y e5 => ob_q fun z e6 => ob_q fun a3 e7 => ob_q fun a4 e8 => fun s' e => ?_
  have c1 := pWord_r hn e1
  have c2 := pNum_r c1.2 e2
  have g3 : a2 = s.2.2 := (pIf_m e3).2
  have c4 := pNum_r (show a2 ≤ n by omega) e4
  have c5 := pNum_r c4.2.2.2.2 e5
  have c6 := pNum_r c5.2.2.2.2 e6
  have g7 : a3 = z.2.2 := (pIf_r e7).2
  have c8 := pEnd_r (show a3 ≤ n by omega) e8
  cases e
  refine ⟨by show a < a4; omega, c8.2, i1, i2, i3, fun _ => ⟨fun k k0 k1 => ?_, i5.2⟩⟩
  show 0 ≤ ups (ups (ups ro (3 * s.1) x.1) (3 * s.1 + 1) y.1) (3 * s.1 + 2) z.1 k ∧ ups (ups (ups ro (3 * s.1) x.1) (3 * s.1 + 1) y.1) (3 * s.1 + 2) z.1 k ≤ 100
  by_cases g2 : k = 3 * s.1 + 2
  · rw [g2, ups_s]; omega
  · rw [ups_n g2]
    by_cases g1 : k = 3 * s.1 + 1
    · rw [g1, ups_s]; omega
    · rw [ups_n g1]
      by_cases g0 : k = 3 * s.1
      · rw [g0, ups_s]; omega
      · rw [ups_n g0]; exact i5.1 k k0 k1
theorem pWts_r {T : Int → Int} {n a rp : Int} {t : Int → Bool} {rw ro rs : Int → Int} (hn : a ≤ n) (hI : rI 0 rp rw ro rs) : ∀ s, pWts T n a t rs = .inr s → a < s.1 ∧ s.1 ≤ n ∧ rI 0 rp rw ro s.2.2 := by
  unfold pWts
  obtain ⟨i1, i2, i3, i4⟩ := hI
  have i5 := i4 rfl
  refine ob_q fun a0 e0 => ob_q fun a1 e1 => ob_q fun x e4 => ob_q fun y e5 => ob_q fun z e6 => ob_q fun a4 e8 => fun s' e => ?_
  have g0 : a0 = a := (pIf_m e0).2
  have c1 := pWord_r (show a0 ≤ n by omega) e1
  have c4 := pNum_r c1.2 e4
  have c5 := pNum_r c4.2.2.2.2 e5
  have c6 := pNum_r c5.2.2.2.2 e6
  have c8 := pEnd_r c6.2.2.2.2 e8
  cases e
  refine ⟨by show a < a4; omega, c8.2, i1, i2, i3, fun _ => ⟨i5.1, fun k k0 k1 => ?_, ?_⟩⟩
  · show 0 ≤ ups (ups (ups rs 0 x.1) 1 y.1) 2 z.1 k ∧ ups (ups (ups rs 0 x.1) 1 y.1) 2 z.1 k ≤ 9
    rcases (show k = 0 ∨ k = 1 ∨ k = 2 by omega) with rfl | rfl | rfl
    · rw [ups_n (by omega), ups_n (by omega), ups_s]; omega
    · rw [ups_n (by omega), ups_s]; omega
    · rw [ups_s]; omega
  · show 0 ≤ ups (ups (ups rs 0 x.1) 1 y.1) 2 z.1 3 ∧ ups (ups (ups rs 0 x.1) 1 y.1) 2 z.1 3 ≤ 20 ∧ 0 ≤ ups (ups (ups rs 0 x.1) 1 y.1) 2 z.1 4 ∧ ups (ups (ups rs 0 x.1) 1 y.1) 2 z.1 4 ≤ 20
    rw [ups_n (by omega), ups_n (by omega), ups_n (by omega), ups_n (by omega), ups_n (by omega), ups_n (by omega)]
    exact i5.2.2
theorem pOne_r {T : Int → Int} {n a rp : Int} {si : Nat} {t : Int → Bool} {rw ro rs : Int → Int} (hsi : si = 3 ∨ si = 4) (hn : a ≤ n) (hI : rI 0 rp rw ro rs) : ∀ s, pOne T n a si t rs = .inr s → a < s.1 ∧ s.1 ≤ n ∧ rI 0 rp rw ro s.2.2 := by
  unfold pOne
  obtain ⟨i1, i2, i3, i4⟩ := hI
  have i5 := i4 rfl
  refine ob_q fun a0 e0 => ob_q fun a1 e1 => ob_q fun x e4 => ob_q fun a4 e8 => fun s' e => ?_
  have g0 : a0 = a := (pIf_m e0).2
  have c1 := pWord_r (show a0 ≤ n by omega) e1
  have c4 := pNum_r c1.2 e4
  have c8 := pEnd_r c4.2.2.2.2 e8
  cases e
  refine ⟨by show a < a4; omega, c8.2, i1, i2, i3, fun _ => ⟨i5.1, fun k k0 k1 => ?_, ?_⟩⟩
  · show 0 ≤ ups rs (si : Int) x.1 k ∧ ups rs (si : Int) x.1 k ≤ 9
    rw [ups_n (by omega)]; exact i5.2.1 k k0 k1
  · show 0 ≤ ups rs (si : Int) x.1 3 ∧ ups rs (si : Int) x.1 3 ≤ 20 ∧ 0 ≤ ups rs (si : Int) x.1 4 ∧ ups rs (si : Int) x.1 4 ≤ 20
    rcases hsi with rfl | rfl
    · rw [show ((3 : Nat) : Int) = 3 from rfl, ups_s, ups_n (by omega)]; omega
    · rw [show ((4 : Nat) : Int) = 4 from rfl, ups_s, ups_n (by omega)]; omega
theorem pClause_r {T : Int → Int} {n a rp : Int} {t : Int → Bool} {rk rw ro rs : Int → Int} (hn : a ≤ n) (hI : rI 0 rp rw ro rs) : ∀ s : pSt, pClause T n a t rp rk rw ro rs = .inr s → a < s.1 ∧ s.1 ≤ n ∧ rI 0 s.2.2.1 s.2.2.2.2.1 s.2.2.2.2.2.1 s.2.2.2.2.2.2 := by
  unfold pClause
  split
  · exact ob_q fun x e => fun s e2 => by cases e2; exact pRow_r hn hI x e
  split
  · exact ob_q fun x e => fun s e2 => by cases e2; exact pOdds_r hn hI x e
  split
  · exact ob_q fun x e => fun s e2 => by cases e2; exact pWts_r hn hI x e
  split
  · exact ob_q fun x e => fun s e2 => by cases e2; exact pOne_r (Or.inl rfl) hn hI x e
  split
  · exact ob_q fun x e => fun s e2 => by cases e2; exact pOne_r (Or.inr rfl) hn hI x e
  · intro s e; cases e
def ro0 (k : Int) : Int := if k % 3 = 0 then 10 else if k % 3 = 1 then 20 else 70
def rs0 (k : Int) : Int := if k = 0 then 1 else if k = 1 then 2 else if k = 2 then 5 else if k = 3 then 2 else 1
theorem rI_0 {rw : Int → Int} : rI 0 0 rw ro0 rs0 := by
  refine ⟨by omega, by omega, by omega, fun _ => ⟨fun k _ _ => ?_, fun k _ _ => ?_, ?_⟩⟩
  · unfold ro0
    split
    · omega
    · split <;> omega
  · unfold rs0
    split
    · omega
    · split
      · omega
      · split
        · omega
        · split <;> omega
  · decide
theorem so_clear {p t l : Int} {S X : Int → Int} {Q : Int → Int → Int → (Int → Int) → (Int → Int) → Prop} (h : ∀ S' X', (∀ k, 0 ≤ k → k < 12 → S' k = ro0 k) → (∀ k, 0 ≤ k → k < 3 → X' k = rs0 k) → Q 0 2 1 S' X') : nf_Hall_clear p t l S X Q := by
  unfold nf_Hall_clear
  unfold nf_Hall_tellWeights
  simp only [ci_m1, ci_m10, ci_m1001, ci_m1002, ci_m1003, ci_m1004, ci_0, ci_1, ci_10, ci_100, ci_1000, ci_10000, ci_101, ci_103, ci_104, ci_105, ci_107, ci_108, ci_110, ci_111, ci_114, ci_115, ci_116, ci_118, ci_119, ci_12, ci_122, ci_1431655765, ci_15, ci_16, ci_2, ci_20, ci_23, ci_24, ci_240, ci_252645135, ci_255, ci_256, ci_3, ci_32, ci_4, ci_420, ci_48, ci_5, ci_5040, ci_57, ci_59, ci_6, ci_60, ci_63, ci_64, ci_7, ci_70, ci_8, ci_858993459, ci_9, ci_900, ci_97, ci_99, ci_999, ci_9999, cl_0, cl_1, cl_10, cl_1000000000000, cl_122, cl_2, cl_2000000000000, cl_23, cl_255, cl_27, cl_3, cl_4, cl_48, cl_57, cl_6, cl_8, cl_96, cl_97, cl_99, cl_999, cl_9999]
  repeat' (first | with_reducible refine wO_i ?_ ?_ | with_reducible refine wL_i ?_ | with_reducible refine cB_f (by decide) ?_ | with_reducible refine cB_t (by decide) ?_ | with_reducible refine cB_i (fun _ => ?_) (fun _ => ?_) | with_reducible refine jn0_i ?_ | with_reducible refine jn1_i ?_ | with_reducible refine jn2_i ?_ | with_reducible refine jn3_i ?_ | with_reducible refine jn4_i ?_ | with_reducible refine jn5_i ?_ | with_reducible refine jn6_i ?_ | with_reducible refine nlp2_i (fun s S' => 0 ≤ s ∧ s ≤ 4 ∧ ∀ k, 0 ≤ k → k < s * 3 → S' k = ro0 k) (fun s _ => (4 - s).toNat) ?_ ⟨by omega, by omega, by omega⟩)
  all_goals (try (simp only [iR, lR, inb, bZ, dOK, or_true, true_or, true_and, and_true] at *)); all_goals (try omega)
  intro s S1 hi self hself
  obtain ⟨i1, i2, i3⟩ := hi
  refine cB_i (fun _ => ?_) (fun _ => ?_)
  · refine h _ _ (fun k k1 k2 => i3 k k1 (by omega)) (fun k k1 k2 => ?_)
    rcases (show k = 0 ∨ k = 1 ∨ k = 2 by omega) with rfl | rfl | rfl
    · rw [ups_n (by omega), ups_n (by omega), ups_s]; rfl
    · rw [ups_n (by omega), ups_s]; rfl
    · rw [ups_s]; rfl
  · refine so_tellShares i1 (by omega) (wO_i (by (try simp only [iR]); omega) (hself _ _ ⟨by omega, by omega, fun k k1 k2 => ?_⟩ (by omega)))
    by_cases e2 : k = s * 3 + 2
    · rw [e2, ups_s]; unfold ro0; rw [if_neg (by omega), if_neg (by omega)]
    · rw [ups_n e2]
      by_cases e1 : k = s * 3 + 1
      · rw [e1, ups_s]; unfold ro0; rw [if_neg (by omega), if_pos (by omega)]
      · rw [ups_n e1]
        by_cases e0 : k = s * 3
        · rw [e0, ups_s]; unfold ro0; rw [if_pos (by omega)]
        · rw [ups_n e0]; exact i3 k k1 (by omega)
def pHall (T : Int → Int) (n : Int) : Sum (Int × Int) pSt := pRun T n 241 (sk T n 0, (fun _ => false), 0, zA, zA, ro0, rs0)
theorem pRun_e {T : Int → Int} {n : Int} {k : Nat} {s : pSt} (h : n ≤ s.1) : pRun T n k s = .inr s := by
  cases k with
  | zero => rfl
  | succ k => exact if_neg (by omega)
theorem pRun_s {T : Int → Int} {n : Int} {k : Nat} {s : pSt} (h : s.1 < n) (hk : n - s.1 < k) : pRun T n k s = ob (pClause T n s.1 s.2.1 s.2.2.1 s.2.2.2.1 s.2.2.2.2.1 s.2.2.2.2.2.1 s.2.2.2.2.2.2) (fun r => pRun T n (k - 1) (sk T n r.1, r.2)) := by
  cases k with
  | zero => omega
  | succ k => exact if_pos h
theorem so_read {n p f a ff tb dp dt dl : Int} {F T dk dw ds dx : Int → Int} {Q : Int → Int → Int → Int → Int → Int → Int → Int → Int → Int → (Int → Int) → (Int → Int) → (Int → Int) → (Int → Int) → Prop} (ht : tx n F T) (h : match pHall T n with
    | .inl x => pP x → ∀ a' ff' tb' dp' dt' dl' dk' dw' ds' dx', 0 ≤ dp' → dp' ≤ 24 → Q x.1 0 x.2 x.1 a' ff' tb' dp' dt' dl' dk' dw' ds' dx'
    | .inr s => rI 0 s.2.2.1 s.2.2.2.2.1 s.2.2.2.2.2.1 s.2.2.2.2.2.2 → ∀ a' ff' tb' dp' dt' dl' dk' dw' ds' dx', cR dp' dt' dl' dk' dw' ds' dx' s.2.2.1 s.2.2.2.1 s.2.2.2.2.1 s.2.2.2.2.2.1 s.2.2.2.2.2.2 → Q 0 0 (-1) 0 a' ff' tb' dp' dt' dl' dk' dw' ds' dx') : nf_Reader_read n p f a ff tb F dp dt dl dk dw ds dx Q := by
  unfold nf_Reader_read
  simp only [ci_m1, ci_m10, ci_m1001, ci_m1002, ci_m1003, ci_m1004, ci_0, ci_1, ci_10, ci_100, ci_1000, ci_10000, ci_101, ci_103, ci_104, ci_105, ci_107, ci_108, ci_110, ci_111, ci_114, ci_115, ci_116, ci_118, ci_119, ci_12, ci_122, ci_1431655765, ci_15, ci_16, ci_2, ci_20, ci_23, ci_24, ci_240, ci_252645135, ci_255, ci_256, ci_3, ci_32, ci_4, ci_420, ci_48, ci_5, ci_5040, ci_57, ci_59, ci_6, ci_60, ci_63, ci_64, ci_7, ci_70, ci_8, ci_858993459, ci_9, ci_900, ci_97, ci_99, ci_999, ci_9999, cl_0, cl_1, cl_10, cl_1000000000000, cl_122, cl_2, cl_2000000000000, cl_23, cl_255, cl_27, cl_3, cl_4, cl_48, cl_57, cl_6, cl_8, cl_96, cl_97, cl_99, cl_999, cl_9999]
  have hn := ht.1
  refine so_clear (fun S' X' s1 s2 => sx_skip ht ⟨by omega, hn.1⟩ ?_)
  have h0 := sk_p (T := T) hn.1
  generalize hR : pHall T n = R at h
  refine nlp13_i (fun i p' f' a' _ tb' dp' dt' dl' dk' dw' ds' dx' => 0 ≤ i ∧ i ≤ 240 ∧ ((pP (f', p') ∧ R = .inl (f', p') ∧ 0 ≤ a' ∧ a' ≤ n ∧ 0 ≤ dp' ∧ dp' ≤ 24) ∨ (f' = 0 ∧ p' = -1 ∧ i ≤ a' ∧ a' ≤ n ∧ ∃ (k : Nat) (t : Int → Bool) (rp : Int) (rk rw ro rs : Int → Int), R = pRun T n k (a', t, rp, rk, rw, ro, rs) ∧ n - a' < k ∧ tR tb' t ∧ cR dp' dt' dl' dk' dw' ds' dx' rp rk rw ro rs ∧ rI 0 rp rw ro rs))) (fun i _ _ _ _ _ _ _ _ _ _ _ _ => (240 - i).toNat) ?_ ⟨by omega, by omega, Or.inr ⟨rfl, rfl, h0.1, h0.2.1, 241, _, _, _, _, _, _, hR.symm, by omega, tR_0, ⟨rfl, by omega, s1, s2, rfl, rfl⟩, rI_0⟩⟩
  intro i p1 f1 a1 ff1 tb1 dp1 dt1 dl1 dk1 dw1 ds1 dx1 hi self hself
  obtain ⟨i1, i2, i3⟩ := hi
  refine jn0_s (f1 ≠ 0 ∨ n ≤ a1) (fun hx => ?_) ?_
  · rcases i3 with ⟨b1, b2, b3, b4, b5, b6⟩ | ⟨b1, b2, b3, b4, k, t, rp, rk, rw, ro, rs, b5, b6, b7, b8, b9⟩
    · rw [b2] at h
      exact h b1 _ _ _ _ _ _ _ _ _ _ b5 b6
    · rw [pRun_e (by show n ≤ a1; omega)] at b5
      rw [b5] at h
      subst b1 b2
      exact h b9 _ _ _ _ _ _ _ _ _ _ b8
  · rcases i3 with ⟨b1, b2, b3, b4, b5, b6⟩ | ⟨b1, b2, b3, b4, k, t, rp, rk, rw, ro, rs, b5, b6, b7, b8, b9⟩
    · have : f1 ≠ 0 := by have b1' : 1 ≤ f1 := b1.1; omega
      exact cB_i (fun _ => Or.inl this) (fun _ => cB_f this (Or.inl this))
    · subst b1 b2
      refine cB_i (fun _ => Or.inr (by omega)) (fun _ => cB_t rfl (cB_i (fun _ => Or.inr (by omega)) (fun e => ?_)))
      rw [pRun_s (by show a1 < n; omega) b6] at b5
      dsimp only at b5
      refine so_clause ht ⟨by omega, b4⟩ ⟨b9.1, b9.2.1⟩ b7 b8 ?_
      cases e1 : pClause T n a1 t rp rk rw ro rs with
      | inl x =>
        rw [e1, ob_l] at b5
        intro a' ff' tb' dp' dt' dl' dk' dw' ds' dx' a0 a2 a3 a4
        have hs := sk_p (T := T) a2
        exact sx_skip ht ⟨a0, a2⟩ (wO_i (by simp only [iR]; omega) (hself _ _ _ _ _ _ _ _ _ _ _ _ _ ⟨by omega, by omega, Or.inl ⟨pClause_p x e1, b5, by omega, hs.2.1, a3, a4⟩⟩ (by omega)))
      | inr s =>
        rw [e1, ob_r] at b5
        have c1 := pClause_r b4 b9 s e1
        have hs := sk_p (T := T) c1.2.1
        intro ff' tb' dp' dt' dl' dk' dw' ds' dx' a0 a2
        exact sx_skip ht ⟨by omega, c1.2.1⟩ (wO_i (by simp only [iR]; omega) (hself _ _ _ _ _ _ _ _ _ _ _ _ _ ⟨by omega, by omega, Or.inr ⟨rfl, rfl, by omega, hs.2.1, k - 1, _, _, _, _, _, _, b5, by omega, a0, a2, c1.2.2⟩⟩ (by omega)))
theorem so_hall {en zk ok n p f a ff tb dp dt dl : Int} {F T dk dw ds dx : Int → Int} {Q : Int → Int → Int → Int → Int → Int → Int → Int → Int → Int → Int → Int → (Int → Int) → (Int → Int) → (Int → Int) → (Int → Int) → Int → Prop} (ht : tx n F T) (h0 : 0 < en → Q (-1003) zk ok n p f a ff tb dp dt dl dk dw ds dx 0) (h : en ≤ 0 → match pHall T n with
    | .inl x => pP x → ∀ a' ff' tb' dp' dt' dl' dk' dw' ds' dx', 0 ≤ dp' → dp' ≤ 24 → Q (-10 - x.1) zk ok 0 x.2 x.1 a' ff' tb' dp' dt' dl' dk' dw' ds' dx' 0
    | .inr s => rI 0 s.2.2.1 s.2.2.2.2.1 s.2.2.2.2.2.1 s.2.2.2.2.2.2 → ∀ a' ff' tb' dp' dt' dl' dk' dw' ds' dx', cR dp' dt' dl' dk' dw' ds' dx' s.2.2.1 s.2.2.2.1 s.2.2.2.2.1 s.2.2.2.2.2.1 s.2.2.2.2.2.2 → Q dp' 0 0 0 (-1) 0 a' ff' tb' dp' dt' dl' dk' dw' ds' dx' 1) : nf_H_hall en zk ok n p f a ff tb F dp dt dl dk dw ds dx Q := by
  unfold nf_H_hall nf_Reader_changeDraft
  simp only [ci_m1, ci_m10, ci_m1001, ci_m1002, ci_m1003, ci_m1004, ci_0, ci_1, ci_10, ci_100, ci_1000, ci_10000, ci_101, ci_103, ci_104, ci_105, ci_107, ci_108, ci_110, ci_111, ci_114, ci_115, ci_116, ci_118, ci_119, ci_12, ci_122, ci_1431655765, ci_15, ci_16, ci_2, ci_20, ci_23, ci_24, ci_240, ci_252645135, ci_255, ci_256, ci_3, ci_32, ci_4, ci_420, ci_48, ci_5, ci_5040, ci_57, ci_59, ci_6, ci_60, ci_63, ci_64, ci_7, ci_70, ci_8, ci_858993459, ci_9, ci_900, ci_97, ci_99, ci_999, ci_9999, cl_0, cl_1, cl_10, cl_1000000000000, cl_122, cl_2, cl_2000000000000, cl_23, cl_255, cl_27, cl_3, cl_4, cl_48, cl_57, cl_6, cl_8, cl_96, cl_97, cl_99, cl_999, cl_9999]
  refine cB_i (fun e => ?_) (fun e => h0 (by omega))
  have h := h e
  refine so_read ht ?_
  cases e1 : pHall T n with
  | inl x =>
    rw [e1] at h
    intro hp a' ff' tb' dp' dt' dl' dk' dw' ds' dx' d0 d1
    have hp1 : 1 ≤ x.1 := hp.1
    have hp2 : x.1 ≤ 5 := hp.2
    exact cB_f (by omega) (wO_i (by simp only [iR]; omega) (h hp _ _ _ _ _ _ _ _ _ _ d0 d1))
  | inr s =>
    rw [e1] at h
    intro hI a' ff' tb' dp' dt' dl' dk' dw' ds' dx' hR
    exact cB_t rfl (h hI _ _ _ _ _ _ _ _ _ _ hR)
