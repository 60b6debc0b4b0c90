/-! the model: plans -/
theorem sp_isPeg {n p : Int} {Q : Int → Prop} (hn : 0 ≤ n ∧ n ≤ 24) (h : cB (0 ≤ p ∧ p < n) (Q 1) (Q 0)) : nf_M_isPeg n p Q := by
  unfold nf_M_isPeg
  simp only [ci_m1, ci_m10, ci_m1001, ci_m1002, ci_m1003, ci_m1004, ci_0, ci_1, ci_10, ci_100, ci_1000, ci_10000, ci_101, ci_103, ci_104, ci_105, ci_107, ci_108, ci_110, ci_111, ci_114, ci_115, ci_116, ci_118, ci_119, ci_12, ci_122, ci_1431655765, ci_15, ci_16, ci_2, ci_20, ci_23, ci_24, ci_240, ci_252645135, ci_255, ci_256, ci_3, ci_32, ci_4, ci_420, ci_48, ci_5, ci_5040, ci_57, ci_59, ci_6, ci_60, ci_63, ci_64, ci_7, ci_70, ci_8, ci_858993459, ci_9, ci_900, ci_97, ci_99, ci_999, ci_9999, cl_0, cl_1, cl_10, cl_1000000000000, cl_122, cl_2, cl_2000000000000, cl_23, cl_255, cl_27, cl_3, cl_4, cl_48, cl_57, cl_6, cl_8, cl_96, cl_97, cl_99, cl_999, cl_9999]
  obtain ⟨h1, h0⟩ := h
  refine wL_i (wO_i (by (try simp only [iR]); omega) (wL_i (sp_in (cB_i (fun e => ?_) (fun e => ?_)))))
  · exact wO_i (Or.inr rfl) (h1 (by omega))
  · exact wO_i (Or.inl rfl) (h0 (by omega))
theorem sp_isGuest {n p : Int} {Q : Int → Prop} (hn : 0 ≤ n ∧ n ≤ 16) (h : cB (0 ≤ p ∧ p < n) (Q 1) (Q 0)) : nf_M_isGuest n p Q := by
  unfold nf_M_isGuest
  simp only [ci_m1, ci_m10, ci_m1001, ci_m1002, ci_m1003, ci_m1004, ci_0, ci_1, ci_10, ci_100, ci_1000, ci_10000, ci_101, ci_103, ci_104, ci_105, ci_107, ci_108, ci_110, ci_111, ci_114, ci_115, ci_116, ci_118, ci_119, ci_12, ci_122, ci_1431655765, ci_15, ci_16, ci_2, ci_20, ci_23, ci_24, ci_240, ci_252645135, ci_255, ci_256, ci_3, ci_32, ci_4, ci_420, ci_48, ci_5, ci_5040, ci_57, ci_59, ci_6, ci_60, ci_63, ci_64, ci_7, ci_70, ci_8, ci_858993459, ci_9, ci_900, ci_97, ci_99, ci_999, ci_9999, cl_0, cl_1, cl_10, cl_1000000000000, cl_122, cl_2, cl_2000000000000, cl_23, cl_255, cl_27, cl_3, cl_4, cl_48, cl_57, cl_6, cl_8, cl_96, cl_97, cl_99, cl_999, cl_9999]
  obtain ⟨h1, h0⟩ := h
  refine wL_i (wO_i (by (try simp only [iR]); omega) (wL_i (sp_in (cB_i (fun e => ?_) (fun e => ?_)))))
  · exact wO_i (Or.inr rfl) (h1 (by omega))
  · exact wO_i (Or.inl rfl) (h0 (by omega))
theorem sp_isClaim {n p : Int} {Q : Int → Prop} (hn : 0 ≤ n ∧ n ≤ 6) (h : cB (0 ≤ p ∧ p < n) (Q 1) (Q 0)) : nf_M_isClaim n p Q := by
  unfold nf_M_isClaim
  simp only [ci_m1, ci_m10, ci_m1001, ci_m1002, ci_m1003, ci_m1004, ci_0, ci_1, ci_10, ci_100, ci_1000, ci_10000, ci_101, ci_103, ci_104, ci_105, ci_107, ci_108, ci_110, ci_111, ci_114, ci_115, ci_116, ci_118, ci_119, ci_12, ci_122, ci_1431655765, ci_15, ci_16, ci_2, ci_20, ci_23, ci_24, ci_240, ci_252645135, ci_255, ci_256, ci_3, ci_32, ci_4, ci_420, ci_48, ci_5, ci_5040, ci_57, ci_59, ci_6, ci_60, ci_63, ci_64, ci_7, ci_70, ci_8, ci_858993459, ci_9, ci_900, ci_97, ci_99, ci_999, ci_9999, cl_0, cl_1, cl_10, cl_1000000000000, cl_122, cl_2, cl_2000000000000, cl_23, cl_255, cl_27, cl_3, cl_4, cl_48, cl_57, cl_6, cl_8, cl_96, cl_97, cl_99, cl_999, cl_9999]
  obtain ⟨h1, h0⟩ := h
  refine wL_i (wO_i (by (try simp only [iR]); omega) (wL_i (sp_in (cB_i (fun e => ?_) (fun e => ?_)))))
  · exact wO_i (Or.inr rfl) (h1 (by omega))
  · exact wO_i (Or.inl rfl) (h0 (by omega))
theorem sp_mHand {x : Int} {Q : Int → Prop} (h : cB (0 ≤ x ∧ x ≤ 3) (Q 1) (Q 0)) : nf_M_isHand x Q := by
  unfold nf_M_isHand
  simp only [ci_m1, ci_m10, ci_m1001, ci_m1002, ci_m1003, ci_m1004, ci_0, ci_1, ci_10, ci_100, ci_1000, ci_10000, ci_101, ci_103, ci_104, ci_105, ci_107, ci_108, ci_110, ci_111, ci_114, ci_115, ci_116, ci_118, ci_119, ci_12, ci_122, ci_1431655765, ci_15, ci_16, ci_2, ci_20, ci_23, ci_24, ci_240, ci_252645135, ci_255, ci_256, ci_3, ci_32, ci_4, ci_420, ci_48, ci_5, ci_5040, ci_57, ci_59, ci_6, ci_60, ci_63, ci_64, ci_7, ci_70, ci_8, ci_858993459, ci_9, ci_900, ci_97, ci_99, ci_999, ci_9999, cl_0, cl_1, cl_10, cl_1000000000000, cl_122, cl_2, cl_2000000000000, cl_23, cl_255, cl_27, cl_3, cl_4, cl_48, cl_57, cl_6, cl_8, cl_96, cl_97, cl_99, cl_999, cl_9999]
  obtain ⟨h1, h0⟩ := h
  refine wL_i (sp_in (cB_i (fun e => ?_) (fun e => ?_)))
  · exact wO_i (Or.inr rfl) (h1 (by omega))
  · exact wO_i (Or.inl rfl) (h0 (by omega))
theorem sp_isNight {p w : Int} {Q : Int → Prop} (h : cB (0 ≤ p ∧ p ≤ 3 ∧ 0 ≤ w ∧ w ≤ 1) (Q 1) (Q 0)) : nf_M_isNight p w Q := by
  unfold nf_M_isNight
  simp only [ci_m1, ci_m10, ci_m1001, ci_m1002, ci_m1003, ci_m1004, ci_0, ci_1, ci_10, ci_100, ci_1000, ci_10000, ci_101, ci_103, ci_104, ci_105, ci_107, ci_108, ci_110, ci_111, ci_114, ci_115, ci_116, ci_118, ci_119, ci_12, ci_122, ci_1431655765, ci_15, ci_16, ci_2, ci_20, ci_23, ci_24, ci_240, ci_252645135, ci_255, ci_256, ci_3, ci_32, ci_4, ci_420, ci_48, ci_5, ci_5040, ci_57, ci_59, ci_6, ci_60, ci_63, ci_64, ci_7, ci_70, ci_8, ci_858993459, ci_9, ci_900, ci_97, ci_99, ci_999, ci_9999, cl_0, cl_1, cl_10, cl_1000000000000, cl_122, cl_2, cl_2000000000000, cl_23, cl_255, cl_27, cl_3, cl_4, cl_48, cl_57, cl_6, cl_8, cl_96, cl_97, cl_99, cl_999, cl_9999]
  obtain ⟨h1, h0⟩ := h
  refine wL_i (sp_in (cB_i (fun e => cB_f (by decide) (wL_i (sp_in (cB_i (fun e2 => ?_) (fun e2 => ?_))))) (fun e => cB_t rfl (h0 (by omega)))))
  · exact cB_f (by decide) (h1 (by omega))
  · exact cB_t rfl (h0 (by omega))
theorem st_learntOf {n p w k : Int} {pl we lf : Int → Int} {Q : Int → Prop} (hn : 0 ≤ n ∧ n ≤ 60) (hl : ∀ k, 0 ≤ k → k < 180 → 0 ≤ lf k ∧ lf k ≤ 999) (h : ∀ r, 0 ≤ r → r ≤ 1000 → Q r) : nf_M_learntOf n pl we lf p w k Q := by
  unfold nf_M_learntOf
  simp only [ci_m1, ci_m10, ci_m1001, ci_m1002, ci_m1003, ci_m1004, ci_0, ci_1, ci_10, ci_100, ci_1000, ci_10000, ci_101, ci_103, ci_104, ci_105, ci_107, ci_108, ci_110, ci_111, ci_114, ci_115, ci_116, ci_118, ci_119, ci_12, ci_122, ci_1431655765, ci_15, ci_16, ci_2, ci_20, ci_23, ci_24, ci_240, ci_252645135, ci_255, ci_256, ci_3, ci_32, ci_4, ci_420, ci_48, ci_5, ci_5040, ci_57, ci_59, ci_6, ci_60, ci_63, ci_64, ci_7, ci_70, ci_8, ci_858993459, ci_9, ci_900, ci_97, ci_99, ci_999, ci_9999, cl_0, cl_1, cl_10, cl_1000000000000, cl_122, cl_2, cl_2000000000000, cl_23, cl_255, cl_27, cl_3, cl_4, cl_48, cl_57, cl_6, cl_8, cl_96, cl_97, cl_99, cl_999, cl_9999]
  refine nlp4_i (fun al on tw i => 0 ≤ i ∧ i ≤ n ∧ 1 ≤ on ∧ on ≤ 1 + 999 * i ∧ 1 ≤ tw ∧ tw ≤ 1 + 999 * i ∧ on + tw + 1 ≤ al ∧ al ≤ 3 + 2997 * i) (fun _ _ _ i => (n - i).toNat) ?_ ⟨by omega, by omega, by omega, by omega, by omega, by omega, by omega, by omega⟩
  intro al on tw i hi self hself
  obtain ⟨i1, i2, i3, i4, i5, i6, i7, i8⟩ := hi
  refine cB_i (fun _ => ?_) (fun _ => ?_)
  · have kd := dv_le (a := 1000 * on) (b := 1000 * tw) (c := al) (by omega) (by omega) (by omega) (by omega)
    rw [← Int.tdiv_eq_ediv_of_nonneg (show (0 : Int) ≤ 1000 * on by omega), ← Int.tdiv_eq_ediv_of_nonneg (show (0 : Int) ≤ 1000 * tw by omega)] at kd
    repeat' (first | with_reducible refine wO_i ?_ ?_ | with_reducible refine wL_i ?_ | with_reducible refine cB_f (by decide) ?_ | with_reducible refine cB_t (by decide) ?_ | with_reducible refine cB_i (fun _ => ?_) (fun _ => ?_) | with_reducible refine jn0_i ?_ | with_reducible refine jn1_i ?_ | with_reducible refine jn2_i ?_ | with_reducible refine jn3_i ?_ | with_reducible refine jn4_i ?_ | with_reducible refine jn5_i ?_ | with_reducible refine jn6_i ?_)
    all_goals (try (simp only [iR, lR, inb, bZ, dOK, or_true, true_or, true_and, and_true] at *)); all_goals (try omega)
    all_goals first | exact h _ (by omega) (by omega) | skip
  · refine wO_i (by (try simp only [inb]); omega) ?_
    refine jn3_s (fun al on tw => 1 ≤ on ∧ on ≤ 1 + 999 * (i + 1) ∧ 1 ≤ tw ∧ tw ≤ 1 + 999 * (i + 1) ∧ on + tw + 1 ≤ al ∧ al ≤ 3 + 2997 * (i + 1)) (fun a b c hs => wO_i (by (try simp only [iR]); omega) (hself _ _ _ _ ⟨by omega, by omega, hs.1, hs.2.1, hs.2.2.1, hs.2.2.2.1, hs.2.2.2.2.1, hs.2.2.2.2.2⟩ (by omega))) ?_
    have l0 := hl (3 * i) (by omega) (by omega)
    have l1 := hl (3 * i + 1) (by omega) (by omega)
    have l2 := hl (3 * i + 2) (by omega) (by omega)
    repeat' (first | with_reducible refine wO_i ?_ ?_ | with_reducible refine wL_i ?_ | with_reducible refine cB_f (by decide) ?_ | with_reducible refine cB_t (by decide) ?_ | with_reducible refine cB_i (fun _ => ?_) (fun _ => ?_) | with_reducible refine jn0_i ?_ | with_reducible refine jn1_i ?_ | with_reducible refine jn2_i ?_ | with_reducible refine jn3_i ?_ | with_reducible refine jn4_i ?_ | with_reducible refine jn5_i ?_ | with_reducible refine jn6_i ?_)
    all_goals (try (simp only [iR, lR, inb, bZ, dOK, or_true, true_or, true_and, and_true] at *)); all_goals (try omega)
theorem st_mexpected {np nw n g : Int} {oo sg so pl we lf : Int → Int} {Q : Int → Prop} (hn : 0 ≤ n ∧ n ≤ 60) (hl : ∀ k, 0 ≤ k → k < 180 → 0 ≤ lf k ∧ lf k ≤ 999) (ho : ∀ k, 0 ≤ k → k < 12 → 0 ≤ oo k ∧ oo k ≤ 100) (hs : ∀ k, 0 ≤ k → k < 3 → 0 ≤ sg k ∧ sg k ≤ 9) (hso : ∀ g, 0 ≤ g → g < 16 → 0 ≤ so g ∧ so g ≤ 3) (hg : 0 ≤ g ∧ g < 16) (h : ∀ r, 0 ≤ r → r ≤ 27000 → Q r) : nf_M_expected np nw n oo sg so pl we lf g Q := by
  unfold nf_M_expected
  simp only [ci_m1, ci_m10, ci_m1001, ci_m1002, ci_m1003, ci_m1004, ci_0, ci_1, ci_10, ci_100, ci_1000, ci_10000, ci_101, ci_103, ci_104, ci_105, ci_107, ci_108, ci_110, ci_111, ci_114, ci_115, ci_116, ci_118, ci_119, ci_12, ci_122, ci_1431655765, ci_15, ci_16, ci_2, ci_20, ci_23, ci_24, ci_240, ci_252645135, ci_255, ci_256, ci_3, ci_32, ci_4, ci_420, ci_48, ci_5, ci_5040, ci_57, ci_59, ci_6, ci_60, ci_63, ci_64, ci_7, ci_70, ci_8, ci_858993459, ci_9, ci_900, ci_97, ci_99, ci_999, ci_9999, cl_0, cl_1, cl_10, cl_1000000000000, cl_122, cl_2, cl_2000000000000, cl_23, cl_255, cl_27, cl_3, cl_4, cl_48, cl_57, cl_6, cl_8, cl_96, cl_97, cl_99, cl_999, cl_9999]
  refine nlp2_i (fun r k => 0 ≤ k ∧ k ≤ 3 ∧ 0 ≤ r ∧ r ≤ 9000 * k) (fun _ k => (3 - k).toNat) ?_ ⟨by omega, by omega, by omega, by omega⟩
  intro r k hi self hself
  obtain ⟨i1, i2, i3, i4⟩ := hi
  refine cB_i (fun _ => h _ (by omega) (by omega)) (fun _ => ?_)
  refine jn1_s (fun t => 0 ≤ t ∧ t ≤ 1000) (fun t ht => ?_) ?_
  · have hx := hs k (by omega) (by omega)
    have hm := mulb ht.1 ht.2 hx.1 hx.2
    repeat' (first | with_reducible refine wO_i ?_ ?_ | with_reducible refine wL_i ?_ | with_reducible refine cB_f (by decide) ?_ | with_reducible refine cB_t (by decide) ?_ | with_reducible refine cB_i (fun _ => ?_) (fun _ => ?_) | with_reducible refine jn0_i ?_ | with_reducible refine jn1_i ?_ | with_reducible refine jn2_i ?_ | with_reducible refine jn3_i ?_ | with_reducible refine jn4_i ?_ | with_reducible refine jn5_i ?_ | with_reducible refine jn6_i ?_)
    all_goals (try (simp only [iR, lR, inb, bZ, dOK, or_true, true_or, true_and, and_true] at *)); all_goals (try omega)
    exact hself _ _ ⟨by omega, by omega, by omega, by omega⟩ (by omega)
  · refine cB_i (fun _ => st_learntOf hn hl (fun r a b => ⟨a, b⟩)) (fun _ => ?_)
    have s1 := hso g hg.1 hg.2
    have o1 := ho (3 * so g + k) (by omega) (by omega)
    repeat' (first | with_reducible refine wO_i ?_ ?_ | with_reducible refine wL_i ?_ | with_reducible refine cB_f (by decide) ?_ | with_reducible refine cB_t (by decide) ?_ | with_reducible refine cB_i (fun _ => ?_) (fun _ => ?_) | with_reducible refine jn0_i ?_ | with_reducible refine jn1_i ?_ | with_reducible refine jn2_i ?_ | with_reducible refine jn3_i ?_ | with_reducible refine jn4_i ?_ | with_reducible refine jn5_i ?_ | with_reducible refine jn6_i ?_)
    all_goals (try (simp only [iR, lR, inb, bZ, dOK, or_true, true_or, true_and, and_true] at *)); all_goals (try omega)
theorem st_nextPeg {n k : Int} {pk pw tk : Int → Int} {Q : Int → Prop} (hn : 0 ≤ n ∧ n ≤ 24) (h : ∀ r, -1 ≤ r → r < n → Q r) : nf_M_nextPeg n pk pw tk k Q := by
  unfold nf_M_nextPeg
  simp only [ci_m1, ci_m10, ci_m1001, ci_m1002, ci_m1003, ci_m1004, ci_0, ci_1, ci_10, ci_100, ci_1000, ci_10000, ci_101, ci_103, ci_104, ci_105, ci_107, ci_108, ci_110, ci_111, ci_114, ci_115, ci_116, ci_118, ci_119, ci_12, ci_122, ci_1431655765, ci_15, ci_16, ci_2, ci_20, ci_23, ci_24, ci_240, ci_252645135, ci_255, ci_256, ci_3, ci_32, ci_4, ci_420, ci_48, ci_5, ci_5040, ci_57, ci_59, ci_6, ci_60, ci_63, ci_64, ci_7, ci_70, ci_8, ci_858993459, ci_9, ci_900, ci_97, ci_99, ci_999, ci_9999, cl_0, cl_1, cl_10, cl_1000000000000, cl_122, cl_2, cl_2000000000000, cl_23, cl_255, cl_27, cl_3, cl_4, cl_48, cl_57, cl_6, cl_8, cl_96, cl_97, cl_99, cl_999, cl_9999]
  refine wO_i (by (try simp only [iR]); omega) ?_
  refine nlp2_i (fun b p => -1 ≤ p ∧ p < n ∧ -1 ≤ b ∧ b < n) (fun _ p => (p + 1).toNat) ?_ ⟨by omega, by omega, by omega, by omega⟩
  intro b p hi self hself
  obtain ⟨i1, i2, i3, i4⟩ := hi
  refine cB_i (fun _ => h _ i3 i4) (fun _ => wO_i (by (try simp only [inb]); omega) ?_)
  refine jn1_s (fun _ => True) (fun t6 _ => ?_) ?_
  · refine jn1_s (fun b' => -1 ≤ b' ∧ b' < n) (fun b' hb => wO_i (by (try simp only [iR]); omega) (hself _ _ ⟨by omega, by omega, hb.1, hb.2⟩ (by omega))) ?_
    repeat' (first | with_reducible refine wO_i ?_ ?_ | with_reducible refine wL_i ?_ | with_reducible refine cB_f (by decide) ?_ | with_reducible refine cB_t (by decide) ?_ | with_reducible refine cB_i (fun _ => ?_) (fun _ => ?_) | with_reducible refine jn0_i ?_ | with_reducible refine jn1_i ?_ | with_reducible refine jn2_i ?_ | with_reducible refine jn3_i ?_ | with_reducible refine jn4_i ?_ | with_reducible refine jn5_i ?_ | with_reducible refine jn6_i ?_)
    all_goals (try (simp only [iR, lR, inb, bZ, dOK, or_true, true_or, true_and, and_true] at *)); all_goals (try omega)
  · repeat' (first | with_reducible refine wO_i ?_ ?_ | with_reducible refine wL_i ?_ | with_reducible refine cB_f (by decide) ?_ | with_reducible refine cB_t (by decide) ?_ | with_reducible refine cB_i (fun _ => ?_) (fun _ => ?_) | with_reducible refine jn0_i ?_ | with_reducible refine jn1_i ?_ | with_reducible refine jn2_i ?_ | with_reducible refine jn3_i ?_ | with_reducible refine jn4_i ?_ | with_reducible refine jn5_i ?_ | with_reducible refine jn6_i ?_)
    all_goals (try (simp only [iR, lR, inb, bZ, dOK, or_true, true_or, true_and, and_true] at *)); all_goals (try omega)
    all_goals trivial
theorem st_nextGuest {gu np nw n x : Int} {oo sg so pd pl we lf : Int → Int} {Q : Int → Prop} (hgu : 0 ≤ gu ∧ gu ≤ 16) (hn : 0 ≤ n ∧ n ≤ 60) (hl : ∀ k, 0 ≤ k → k < 180 → 0 ≤ lf k ∧ lf k ≤ 999) (ho : ∀ k, 0 ≤ k → k < 12 → 0 ≤ oo k ∧ oo k ≤ 100) (hs : ∀ k, 0 ≤ k → k < 3 → 0 ≤ sg k ∧ sg k ≤ 9) (hso : ∀ g, 0 ≤ g → g < 16 → 0 ≤ so g ∧ so g ≤ 3) (h : ∀ r, -1 ≤ r → r < gu → (0 ≤ r → pd r < 0) → (r = -1 → ∀ g, 0 ≤ g → g < gu → 0 ≤ pd g) → Q r) : nf_M_nextGuest gu np nw n oo sg so pd pl we lf x Q := by
  unfold nf_M_nextGuest
  simp only [ci_m1, ci_m10, ci_m1001, ci_m1002, ci_m1003, ci_m1004, ci_0, ci_1, ci_10, ci_100, ci_1000, ci_10000, ci_101, ci_103, ci_104, ci_105, ci_107, ci_108, ci_110, ci_111, ci_114, ci_115, ci_116, ci_118, ci_119, ci_12, ci_122, ci_1431655765, ci_15, ci_16, ci_2, ci_20, ci_23, ci_24, ci_240, ci_252645135, ci_255, ci_256, ci_3, ci_32, ci_4, ci_420, ci_48, ci_5, ci_5040, ci_57, ci_59, ci_6, ci_60, ci_63, ci_64, ci_7, ci_70, ci_8, ci_858993459, ci_9, ci_900, ci_97, ci_99, ci_999, ci_9999, cl_0, cl_1, cl_10, cl_1000000000000, cl_122, cl_2, cl_2000000000000, cl_23, cl_255, cl_27, cl_3, cl_4, cl_48, cl_57, cl_6, cl_8, cl_96, cl_97, cl_99, cl_999, cl_9999]
  refine nlp2_i (fun b g => 0 ≤ g ∧ g ≤ gu ∧ -1 ≤ b ∧ b < g ∧ (0 ≤ b → pd b < 0) ∧ (b = -1 → ∀ q, 0 ≤ q → q < g → 0 ≤ pd q)) (fun _ g => (gu - g).toNat) ?_ ⟨by omega, by omega, by omega, by omega, by omega, by omega⟩
  intro b g hi self hself
  obtain ⟨i1, i2, i3, i4, i5, i6⟩ := hi
  refine cB_i (fun _ => h _ i3 (by omega) i5 (fun e q a c => i6 e q a (by omega))) (fun _ => wO_i (by (try simp only [inb]); omega) ?_)
  refine jn1_s (fun t => (t = 0 ∧ 0 ≤ pd g) ∨ (t = 1 ∧ pd g < 0)) (fun t ht => ?_) (cB_i (fun _ => Or.inl ⟨rfl, by omega⟩) (fun _ => Or.inr ⟨rfl, by omega⟩))
  refine jn1_s (fun b' => (b' = b ∧ (b = -1 → 0 ≤ pd g)) ∨ (b' = g ∧ pd g < 0)) (fun b' hb => wO_i (by (try simp only [iR]); omega) (hself _ _ ⟨by omega, by omega, by omega, by omega, fun e => ?_, fun e q a c => ?_⟩ (by omega))) ?_
  · rcases hb with ⟨rfl, _⟩ | ⟨rfl, hb⟩
    · exact i5 e
    · exact hb
  · rcases hb with ⟨rfl, hb⟩ | ⟨rfl, hb⟩
    · by_cases eq : q = g
      · subst eq; exact hb e
      · exact i6 e q a (by omega)
    · omega
  · refine jn0_s (b = -1 → 0 ≤ pd g) (fun e => Or.inl ⟨rfl, e⟩) (cB_i (fun e => fun _ => by omega) (fun e => ?_))
    refine jn0_s (pd g < 0) (fun e => Or.inr ⟨rfl, e⟩) (cB_i (fun _ => by omega) (fun e3 => cB_i (fun _ => ?_) (fun _ => fun e4 => by omega)))
    refine st_mexpected hn hl ho hs hso ⟨by omega, by omega⟩ (fun r1 _ _ => st_mexpected hn hl ho hs hso ⟨by omega, by omega⟩ (fun r2 _ _ => cB_i (fun _ => fun e4 => by omega) (fun _ => by omega)))
theorem st_findPlan {pg gu np nw n x : Int} {pk pw oo sg so ki pd tk pl we lf : Int → Int} {Q : Int → (Int → Int) → (Int → Int) → Prop} (hpg : 0 ≤ pg ∧ pg ≤ 24) (hgu : 0 ≤ gu ∧ gu ≤ 16) (hn : 0 ≤ n ∧ n ≤ 60) (hl : ∀ k, 0 ≤ k → k < 180 → 0 ≤ lf k ∧ lf k ≤ 999) (ho : ∀ k, 0 ≤ k → k < 12 → 0 ≤ oo k ∧ oo k ≤ 100) (hs : ∀ k, 0 ≤ k → k < 3 → 0 ≤ sg k ∧ sg k ≤ 9) (hso : ∀ g, 0 ≤ g → g < 16 → 0 ≤ so g ∧ so g ≤ 3) (h : ∀ r pd' tk', (r = 0 ∨ (r = 1 ∧ ∀ g, 0 ≤ g → g < gu → 0 ≤ pd' g ∧ pd' g < pg)) → Q r pd' tk') : nf_M_findPlan pg gu np nw n pk pw oo sg so ki pd tk pl we lf x Q := by
  unfold nf_M_findPlan
  simp only [ci_m1, ci_m10, ci_m1001, ci_m1002, ci_m1003, ci_m1004, ci_0, ci_1, ci_10, ci_100, ci_1000, ci_10000, ci_101, ci_103, ci_104, ci_105, ci_107, ci_108, ci_110, ci_111, ci_114, ci_115, ci_116, ci_118, ci_119, ci_12, ci_122, ci_1431655765, ci_15, ci_16, ci_2, ci_20, ci_23, ci_24, ci_240, ci_252645135, ci_255, ci_256, ci_3, ci_32, ci_4, ci_420, ci_48, ci_5, ci_5040, ci_57, ci_59, ci_6, ci_60, ci_63, ci_64, ci_7, ci_70, ci_8, ci_858993459, ci_9, ci_900, ci_97, ci_99, ci_999, ci_9999, cl_0, cl_1, cl_10, cl_1000000000000, cl_122, cl_2, cl_2000000000000, cl_23, cl_255, cl_27, cl_3, cl_4, cl_48, cl_57, cl_6, cl_8, cl_96, cl_97, cl_99, cl_999, cl_9999]
  refine nlp2_i (fun g pd' => 0 ≤ g ∧ g ≤ gu ∧ ∀ q, 0 ≤ q → q < g → pd' q = -1) (fun g _ => (gu - g).toNat) ?_ ⟨by omega, by omega, by omega⟩
  intro g pd1 hi self hself
  obtain ⟨i1, i2, i3⟩ := hi
  refine cB_i (fun _ => ?_) (fun _ => ?_)
  · refine nlp2_i (fun p _ => 0 ≤ p ∧ p ≤ 24) (fun p _ => (24 - p).toNat) ?_ ⟨by omega, by omega⟩
    intro p tk1 hp self2 hself2
    refine cB_i (fun _ => ?_) (fun _ => ?_)
    · refine nlp3_i (fun k pd' _ => 0 ≤ k ∧ k ≤ gu ∧ (∀ q, 0 ≤ q → q < gu → 0 ≤ pd' q → pd' q < pg) ∧ ∃ s : Int → Int, (∀ i, 0 ≤ i → i < k → 0 ≤ s i ∧ s i < gu ∧ 0 ≤ pd' (s i)) ∧ (∀ i j, 0 ≤ i → i < k → 0 ≤ j → j < k → s i = s j → i = j) ∧ (∀ q, 0 ≤ q → q < gu → 0 ≤ pd' q → ∃ i, 0 ≤ i ∧ i < k ∧ s i = q)) (fun k _ _ => (gu - k).toNat) ?_ ⟨by omega, by omega, fun q a b c => by have := i3 q a (by omega); omega, fun _ => 0, by omega, by omega, fun q a b c => by have := i3 q a (by omega); omega⟩
      intro k pd2 tk2 hk self3 hself3
      obtain ⟨k1, k2, k3, s, s1, s2, s3⟩ := hk
      refine cB_i (fun e => h _ _ _ (Or.inr ⟨rfl, fun q a b => ?_⟩)) (fun e => ?_)
      · by_cases hq : 0 ≤ pd2 q
        · exact ⟨hq, k3 q a b hq⟩
        · have := pgn (f := fun i => if i = k then q else s i) (n := k + 1) (m := gu) (by omega) (by omega) (fun i i0 i1 => ?_) (fun i j i0 i1 j0 j1 hij => ?_)
          · omega
          · by_cases ei : i = k
            · show 0 ≤ (if i = k then _ else _) ∧ (if i = k then _ else _) < _
              rw [if_pos ei]; exact ⟨a, b⟩
            · show 0 ≤ (if i = k then _ else _) ∧ (if i = k then _ else _) < _
              rw [if_neg ei]
              have := s1 i i0 (by omega)
              exact ⟨this.1, this.2.1⟩
          · have hij : (if i = k then q else s i) = (if j = k then q else s j) := hij
            by_cases ei : i = k <;> by_cases ej : j = k
            · omega
            · rw [if_pos ei, if_neg ej] at hij
              have := s1 j j0 (by omega)
              rw [← hij] at this
              exact absurd this.2.2 hq
            · rw [if_neg ei, if_pos ej] at hij
              have := s1 i i0 (by omega)
              rw [hij] at this
              exact absurd this.2.2 hq
            · rw [if_neg ei, if_neg ej] at hij
              exact s2 i j i0 (by omega) j0 (by omega) hij
      · refine st_nextGuest hgu hn hl ho hs hso (fun r r1 r2 r3 r4 => ?_)
        have hr : 0 ≤ r := by
          by_cases er : r = -1
          · have all := r4 er
            have ch : ∀ q : Int, ∃ i : Int, 0 ≤ q → q < gu → 0 ≤ i ∧ i < k ∧ s i = q := fun q => by
              by_cases hq : 0 ≤ q ∧ q < gu
              · obtain ⟨i, a, b, c⟩ := s3 q hq.1 hq.2 (all q hq.1 hq.2)
                exact ⟨i, fun _ _ => ⟨a, b, c⟩⟩
              · exact ⟨0, fun a b => absurd ⟨a, b⟩ hq⟩
            obtain ⟨t, ht⟩ := Classical.axiomOfChoice ch
            have := pgn (f := t) (n := gu) (m := k) (by omega) (by omega) (fun i a b => ⟨(ht i a b).1, (ht i a b).2.1⟩) (fun i j a b c d hij => by rw [← (ht i a b).2.2, ← (ht j c d).2.2, hij])
            omega
          · omega
        refine wO_i (by (try simp only [inb]); omega) (st_nextPeg hpg (fun q q1 q2 => cB_i (fun hq => ?_) (fun _ => h _ _ _ (Or.inl rfl))))
        refine wO_i (by (try simp only [inb]); omega) (wO_i ⟨Or.inr rfl, by (try simp only [inb]); omega⟩ (wO_i (by (try simp only [iR]); omega) (hself3 _ _ _ ⟨by omega, by omega, fun z a b c => ?_, fun i => if i = k then r else s i, fun i a b => ?_, fun i j a b c d hij => ?_, fun z a b c => ?_⟩ (by omega))))
        · by_cases ez : z = r
          · subst ez; rw [ups_s]; exact q2
          · rw [ups_n ez] at c ⊢; exact k3 z a b c
        · by_cases ei : i = k
          · show 0 ≤ (if i = k then r else s i) ∧ (if i = k then r else s i) < gu ∧ 0 ≤ ups pd2 r q (if i = k then r else s i)
            rw [if_pos ei, ups_s]; exact ⟨hr, r2, hq⟩
          · show 0 ≤ (if i = k then r else s i) ∧ (if i = k then r else s i) < gu ∧ 0 ≤ ups pd2 r q (if i = k then r else s i)
            rw [if_neg ei]
            have u := s1 i a (by omega)
            have hne : s i ≠ r := fun e5 => by
              have := r3 hr
              rw [e5] at u
              omega
            rw [ups_n hne]; exact u
        · have hij : (if i = k then r else s i) = (if j = k then r else s j) := hij
          have ne : ∀ y, 0 ≤ y → y < k → s y ≠ r := fun y y0 y1 e5 => by
            have u := s1 y y0 y1
            have := r3 hr
            rw [e5] at u
            omega
          by_cases ei : i = k <;> by_cases ej : j = k
          · omega
          · rw [if_pos ei, if_neg ej] at hij; exact absurd hij.symm (ne j c (by omega))
          · rw [if_neg ei, if_pos ej] at hij; exact absurd hij (ne i a (by omega))
          · rw [if_neg ei, if_neg ej] at hij; exact s2 i j a (by omega) c (by omega) hij
        · by_cases ez : z = r
          · exact ⟨k, by omega, by omega, by show (if k = k then r else s k) = z; rw [if_pos rfl, ez]⟩
          · rw [ups_n ez] at c
            obtain ⟨i, a1, a2, a3⟩ := s3 z a b c
            exact ⟨i, a1, by omega, by show (if i = k then r else s i) = z; rw [if_neg (by omega), a3]⟩
    · repeat' (first | with_reducible refine wO_i ?_ ?_ | with_reducible refine wL_i ?_ | with_reducible refine cB_f (by decide) ?_ | with_reducible refine cB_t (by decide) ?_ | with_reducible refine cB_i (fun _ => ?_) (fun _ => ?_) | with_reducible refine jn0_i ?_ | with_reducible refine jn1_i ?_ | with_reducible refine jn2_i ?_ | with_reducible refine jn3_i ?_ | with_reducible refine jn4_i ?_ | with_reducible refine jn5_i ?_ | with_reducible refine jn6_i ?_)
      all_goals (try (simp only [iR, lR, inb, bZ, dOK, or_true, true_or, true_and, and_true] at *)); all_goals (try omega)
      exact hself2 _ _ ⟨by omega, by omega⟩ (by omega)
  · refine wO_i (by (try simp only [inb]); omega) (wO_i (by (try simp only [iR]); omega) (hself _ _ ⟨by omega, by omega, fun q a b => ?_⟩ (by omega)))
    by_cases e : q = g
    · subst e; rw [ups_s]
    · rw [ups_n e]; exact i3 q a (by omega)
theorem st_mplan {pg gu np nw n x g : Int} {pk pw oo sg so ki pd tk pl we lf : Int → Int} {Q : Int → (Int → Int) → (Int → Int) → Prop} (hpg : 0 ≤ pg ∧ pg ≤ 24) (hgu : 0 ≤ gu ∧ gu ≤ 16) (hn : 0 ≤ n ∧ n ≤ 60) (hl : ∀ k, 0 ≤ k → k < 180 → 0 ≤ lf k ∧ lf k ≤ 999) (ho : ∀ k, 0 ≤ k → k < 12 → 0 ≤ oo k ∧ oo k ≤ 100) (hs : ∀ k, 0 ≤ k → k < 3 → 0 ≤ sg k ∧ sg k ≤ 9) (hso : ∀ g, 0 ≤ g → g < 16 → 0 ≤ so g ∧ so g ≤ 3) (hpw : ∀ q, 0 ≤ q → q < pg → 0 ≤ pw q ∧ pw q ≤ 122) (h : ∀ r pd' tk', Q r pd' tk') : nf_M_plan pg gu np nw n pk pw oo sg so ki pd tk pl we lf x g Q := by
  unfold nf_M_plan
  simp only [ci_m1, ci_m10, ci_m1001, ci_m1002, ci_m1003, ci_m1004, ci_0, ci_1, ci_10, ci_100, ci_1000, ci_10000, ci_101, ci_103, ci_104, ci_105, ci_107, ci_108, ci_110, ci_111, ci_114, ci_115, ci_116, ci_118, ci_119, ci_12, ci_122, ci_1431655765, ci_15, ci_16, ci_2, ci_20, ci_23, ci_24, ci_240, ci_252645135, ci_255, ci_256, ci_3, ci_32, ci_4, ci_420, ci_48, ci_5, ci_5040, ci_57, ci_59, ci_6, ci_60, ci_63, ci_64, ci_7, ci_70, ci_8, ci_858993459, ci_9, ci_900, ci_97, ci_99, ci_999, ci_9999, cl_0, cl_1, cl_10, cl_1000000000000, cl_122, cl_2, cl_2000000000000, cl_23, cl_255, cl_27, cl_3, cl_4, cl_48, cl_57, cl_6, cl_8, cl_96, cl_97, cl_99, cl_999, cl_9999]
  refine jn0_s (g = -1 ∨ (0 ≤ g ∧ g < gu)) (fun hg => ?_) (cB_i (fun e => Or.inl e) (fun _ => sp_isGuest hgu (cB_i (fun e => cB_f (by decide) (Or.inr e)) (fun _ => cB_t rfl (h _ _ _)))))
  refine st_findPlan hpg hgu hn hl ho hs hso (fun r pd1 tk1 hr => cB_i (fun _ => h _ _ _) (fun e => ?_))
  have hr2 : ∀ g, 0 ≤ g → g < gu → 0 ≤ pd1 g ∧ pd1 g < pg := by
    rcases hr with hr | hr
    · exact absurd hr e
    · exact hr.2
  refine nlp2_i (fun s k => 0 ≤ k ∧ k ≤ gu ∧ 0 ≤ s ∧ s ≤ 3294000 * k) (fun _ k => (gu - k).toNat) ?_ ⟨by omega, by omega, by omega, by omega⟩
  intro s k hi self hself
  obtain ⟨i1, i2, i3, i4⟩ := hi
  refine cB_i (fun _ => cB_i (fun _ => h _ _ _) (fun _ => wO_i (by (try simp only [inb]); omega) (h _ _ _))) (fun _ => ?_)
  refine st_mexpected hn hl ho hs hso ⟨by omega, by omega⟩ (fun r1 b1 b2 => ?_)
  have p1 := hr2 k i1 (by omega)
  have w1 := hpw (pd1 k) p1.1 p1.2
  have hm := mulb b1 b2 w1.1 w1.2
  repeat' (first | with_reducible refine wO_i ?_ ?_ | with_reducible refine wL_i ?_ | with_reducible refine cB_f (by decide) ?_ | with_reducible refine cB_t (by decide) ?_ | with_reducible refine cB_i (fun _ => ?_) (fun _ => ?_) | with_reducible refine jn0_i ?_ | with_reducible refine jn1_i ?_ | with_reducible refine jn2_i ?_ | with_reducible refine jn3_i ?_ | with_reducible refine jn4_i ?_ | with_reducible refine jn5_i ?_ | with_reducible refine jn6_i ?_)
  all_goals (try (simp only [iR, lR, inb, bZ, dOK, or_true, true_or, true_and, and_true] at *)); all_goals (try omega)
  exact hself _ _ ⟨by omega, by omega, by omega, by omega⟩ (by omega)
