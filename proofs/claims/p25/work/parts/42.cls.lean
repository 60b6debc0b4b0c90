/-! the class: guests, claims, events, nights -/
theorem sp_holderOf {n : Int} {F : Int → Int} {p : Int} {Q : Int → Prop} (hn : 0 ≤ n ∧ n ≤ 16) (h : ∀ r, -1 ≤ r → r < n → (0 ≤ r → F r = p ∧ ∀ q, 0 ≤ q → q < r → F q ≠ p) → (r = -1 → ∀ q, 0 ≤ q → q < n → F q ≠ p) → Q r) : nf_Guests_holderOf n F p Q := by
  unfold nf_Guests_holderOf
  simp only [ci_m1, ci_m10, ci_m1001, ci_m1002, ci_m1003, ci_m1004, ci_0, ci_1, ci_10, ci_100, ci_1000, ci_10000, ci_101, ci_103, ci_104, ci_105, ci_107, ci_108, ci_110, ci_111, ci_114, ci_115, ci_116, ci_118, ci_119, ci_12, ci_122, ci_1431655765, ci_15, ci_16, ci_2, ci_20, ci_23, ci_24, ci_240, ci_252645135, ci_255, ci_256, ci_3, ci_32, ci_4, ci_420, ci_48, ci_5, ci_5040, ci_57, ci_59, ci_6, ci_60, ci_63, ci_64, ci_7, ci_70, ci_8, ci_858993459, ci_9, ci_900, ci_97, ci_99, ci_999, ci_9999, cl_0, cl_1, cl_10, cl_1000000000000, cl_122, cl_2, cl_2000000000000, cl_23, cl_255, cl_27, cl_3, cl_4, cl_48, cl_57, cl_6, cl_8, cl_96, cl_97, cl_99, cl_999, cl_9999]
  refine nlp1_i (fun g => 0 ≤ g ∧ g ≤ n ∧ ∀ q, 0 ≤ q → q < g → F q ≠ p) (fun g => (n - g).toNat) ?_ ?_
  · intro g hi self hself
    obtain ⟨i1, i2, i3⟩ := hi
    repeat' (first | with_reducible refine wO_i ?_ ?_ | with_reducible refine wL_i ?_ | with_reducible refine cB_f (by decide) ?_ | with_reducible refine cB_t (by decide) ?_ | with_reducible refine cB_i (fun _ => ?_) (fun _ => ?_) | with_reducible refine jn0_i ?_ | with_reducible refine jn1_i ?_ | with_reducible refine jn2_i ?_ | with_reducible refine jn3_i ?_ | with_reducible refine jn4_i ?_ | with_reducible refine jn5_i ?_ | with_reducible refine jn6_i ?_)
    all_goals (try (simp only [iR, lR, inb, bZ, dOK, or_true, true_or, true_and, and_true] at *)); all_goals (try omega)
    · exact h _ (by omega) (by omega) (by omega) (fun _ q a b => i3 q a (by omega))
    · exact h g (by omega) (by omega) (fun _ => ⟨by assumption, i3⟩) (by omega)
    · refine hself _ ⟨by omega, by omega, fun q a b => ?_⟩ (by omega)
      by_cases e : q = g
      · subst e; assumption
      · exact i3 q a (by omega)
  · exact ⟨by omega, by omega, by omega⟩
theorem sp_brassIsOut {n : Int} {F : Int → Int} {p : Int} {Q : Int → Prop} (hn : 0 ≤ n ∧ n ≤ 16) (h1 : (∃ q, 0 ≤ q ∧ q < n ∧ F q = p) → Q 1) (h0 : (∀ q, 0 ≤ q → q < n → F q ≠ p) → Q 0) : nf_Guests_brassIsOut n F p Q := by
  unfold nf_Guests_brassIsOut
  simp only [ci_m1, ci_m10, ci_m1001, ci_m1002, ci_m1003, ci_m1004, ci_0, ci_1, ci_10, ci_100, ci_1000, ci_10000, ci_101, ci_103, ci_104, ci_105, ci_107, ci_108, ci_110, ci_111, ci_114, ci_115, ci_116, ci_118, ci_119, ci_12, ci_122, ci_1431655765, ci_15, ci_16, ci_2, ci_20, ci_23, ci_24, ci_240, ci_252645135, ci_255, ci_256, ci_3, ci_32, ci_4, ci_420, ci_48, ci_5, ci_5040, ci_57, ci_59, ci_6, ci_60, ci_63, ci_64, ci_7, ci_70, ci_8, ci_858993459, ci_9, ci_900, ci_97, ci_99, ci_999, ci_9999, cl_0, cl_1, cl_10, cl_1000000000000, cl_122, cl_2, cl_2000000000000, cl_23, cl_255, cl_27, cl_3, cl_4, cl_48, cl_57, cl_6, cl_8, cl_96, cl_97, cl_99, cl_999, cl_9999]
  refine nlp1_i (fun g => 0 ≤ g ∧ g ≤ n ∧ ∀ q, 0 ≤ q → q < g → F q ≠ p) (fun g => (n - g).toNat) ?_ ?_
  · intro g hi self hself
    obtain ⟨i1, i2, i3⟩ := hi
    repeat' (first | with_reducible refine wO_i ?_ ?_ | with_reducible refine wL_i ?_ | with_reducible refine cB_f (by decide) ?_ | with_reducible refine cB_t (by decide) ?_ | with_reducible refine cB_i (fun _ => ?_) (fun _ => ?_) | with_reducible refine jn0_i ?_ | with_reducible refine jn1_i ?_ | with_reducible refine jn2_i ?_ | with_reducible refine jn3_i ?_ | with_reducible refine jn4_i ?_ | with_reducible refine jn5_i ?_ | with_reducible refine jn6_i ?_)
    all_goals (try (simp only [iR, lR, inb, bZ, dOK, or_true, true_or, true_and, and_true] at *)); all_goals (try omega)
    · exact h0 (fun q a b => i3 q a (by omega))
    · exact h1 ⟨g, by omega, by omega, by assumption⟩
    · refine hself _ ⟨by omega, by omega, fun q a b => ?_⟩ (by omega)
      by_cases e : q = g
      · subst e; assumption
      · exact i3 q a (by omega)
  · exact ⟨by omega, by omega, by omega⟩
theorem sp_isOf {n : Int} {F : Int → Int} {p : Int} {Q : Int → Prop} (hn : 0 ≤ n ∧ n ≤ 6) (h1 : (∃ q, 0 ≤ q ∧ q < n ∧ F q = p) → Q 1) (h0 : (∀ q, 0 ≤ q → q < n → F q ≠ p) → Q 0) : nf_Claims_isOf n F p Q := by
  unfold nf_Claims_isOf
  simp only [ci_m1, ci_m10, ci_m1001, ci_m1002, ci_m1003, ci_m1004, ci_0, ci_1, ci_10, ci_100, ci_1000, ci_10000, ci_101, ci_103, ci_104, ci_105, ci_107, ci_108, ci_110, ci_111, ci_114, ci_115, ci_116, ci_118, ci_119, ci_12, ci_122, ci_1431655765, ci_15, ci_16, ci_2, ci_20, ci_23, ci_24, ci_240, ci_252645135, ci_255, ci_256, ci_3, ci_32, ci_4, ci_420, ci_48, ci_5, ci_5040, ci_57, ci_59, ci_6, ci_60, ci_63, ci_64, ci_7, ci_70, ci_8, ci_858993459, ci_9, ci_900, ci_97, ci_99, ci_999, ci_9999, cl_0, cl_1, cl_10, cl_1000000000000, cl_122, cl_2, cl_2000000000000, cl_23, cl_255, cl_27, cl_3, cl_4, cl_48, cl_57, cl_6, cl_8, cl_96, cl_97, cl_99, cl_999, cl_9999]
  refine nlp1_i (fun g => 0 ≤ g ∧ g ≤ n ∧ ∀ q, 0 ≤ q → q < g → F q ≠ p) (fun g => (n - g).toNat) ?_ ?_
  · intro g hi self hself
    obtain ⟨i1, i2, i3⟩ := hi
    repeat' (first | with_reducible refine wO_i ?_ ?_ | with_reducible refine wL_i ?_ | with_reducible refine cB_f (by decide) ?_ | with_reducible refine cB_t (by decide) ?_ | with_reducible refine cB_i (fun _ => ?_) (fun _ => ?_) | with_reducible refine jn0_i ?_ | with_reducible refine jn1_i ?_ | with_reducible refine jn2_i ?_ | with_reducible refine jn3_i ?_ | with_reducible refine jn4_i ?_ | with_reducible refine jn5_i ?_ | with_reducible refine jn6_i ?_)
    all_goals (try (simp only [iR, lR, inb, bZ, dOK, or_true, true_or, true_and, and_true] at *)); all_goals (try omega)
    · exact h0 (fun q a b => i3 q a (by omega))
    · exact h1 ⟨g, by omega, by omega, by assumption⟩
    · refine hself _ ⟨by omega, by omega, fun q a b => ?_⟩ (by omega)
      by_cases e : q = g
      · subst e; assumption
      · exact i3 q a (by omega)
  · exact ⟨by omega, by omega, by omega⟩
theorem sp_find {n : Int} {F : Int → Int} {k t : Int} {Q : Int → Prop} (hn : 0 ≤ n ∧ n ≤ 60) (h : ∀ r, -1 ≤ r → r < n → (0 ≤ r → F (r * 7 + 0) = k ∧ F (r * 7 + 5) = t ∧ ∀ q, 0 ≤ q → q < r → ¬ (F (q * 7 + 0) = k ∧ F (q * 7 + 5) = t)) → (r = -1 → ∀ q, 0 ≤ q → q < n → ¬ (F (q * 7 + 0) = k ∧ F (q * 7 + 5) = t)) → Q r) : nf_Events_find n F k t Q := by
  unfold nf_Events_find
  simp only [ci_m1, ci_m10, ci_m1001, ci_m1002, ci_m1003, ci_m1004, ci_0, ci_1, ci_10, ci_100, ci_1000, ci_10000, ci_101, ci_103, ci_104, ci_105, ci_107, ci_108, ci_110, ci_111, ci_114, ci_115, ci_116, ci_118, ci_119, ci_12, ci_122, ci_1431655765, ci_15, ci_16, ci_2, ci_20, ci_23, ci_24, ci_240, ci_252645135, ci_255, ci_256, ci_3, ci_32, ci_4, ci_420, ci_48, ci_5, ci_5040, ci_57, ci_59, ci_6, ci_60, ci_63, ci_64, ci_7, ci_70, ci_8, ci_858993459, ci_9, ci_900, ci_97, ci_99, ci_999, ci_9999, cl_0, cl_1, cl_10, cl_1000000000000, cl_122, cl_2, cl_2000000000000, cl_23, cl_255, cl_27, cl_3, cl_4, cl_48, cl_57, cl_6, cl_8, cl_96, cl_97, cl_99, cl_999, cl_9999]
  refine nlp1_i (fun g => 0 ≤ g ∧ g ≤ n ∧ ∀ q, 0 ≤ q → q < g → ¬ (F (q * 7 + 0) = k ∧ F (q * 7 + 5) = t)) (fun g => (n - g).toNat) ?_ ?_
  · intro g hi self hself
    obtain ⟨i1, i2, i3⟩ := hi
    have key : ¬ (F (g * 7 + 0) = k ∧ F (g * 7 + 5) = t) → g < n → self (g + 1) := fun a b => hself _ ⟨by omega, by omega, fun q c d => by
      by_cases e : q = g
      · subst e; exact a
      · exact i3 q c (by omega)⟩ (by omega)
    repeat' (first | with_reducible refine wO_i ?_ ?_ | with_reducible refine wL_i ?_ | with_reducible refine cB_f (by decide) ?_ | with_reducible refine cB_t (by decide) ?_ | with_reducible refine cB_i (fun _ => ?_) (fun _ => ?_) | with_reducible refine jn0_i ?_ | with_reducible refine jn1_i ?_ | with_reducible refine jn2_i ?_ | with_reducible refine jn3_i ?_ | with_reducible refine jn4_i ?_ | with_reducible refine jn5_i ?_ | with_reducible refine jn6_i ?_ | with_reducible refine sp_factOf ?_)
    all_goals (try (simp only [iR, lR, inb, bZ, dOK, or_true, true_or, true_and, and_true] at *)); all_goals (try omega)
    · exact h _ (by omega) (by omega) (by omega) (fun _ q a b => i3 q a (by omega))
    · exact h g (by omega) (by omega) (fun _ => ⟨by assumption, by assumption, i3⟩) (by omega)
    · exact key (fun a => by simp_all) (by omega)
    · exact key (fun a => by simp_all) (by omega)
  · exact ⟨by omega, by omega, by omega⟩
theorem sp_wasWrong {n e : Int} {F : Int → Int} {Q : Int → Prop} (h : cB (0 ≤ e ∧ e < n ∧ e < 60 ∧ F (e * 7 + 6) = 1) (Q 1) (Q 0)) : nf_Events_wasWrong n F e Q := by
  unfold nf_Events_wasWrong
  simp only [ci_m1, ci_m10, ci_m1001, ci_m1002, ci_m1003, ci_m1004, ci_0, ci_1, ci_10, ci_100, ci_1000, ci_10000, ci_101, ci_103, ci_104, ci_105, ci_107, ci_108, ci_110, ci_111, ci_114, ci_115, ci_116, ci_118, ci_119, ci_12, ci_122, ci_1431655765, ci_15, ci_16, ci_2, ci_20, ci_23, ci_24, ci_240, ci_252645135, ci_255, ci_256, ci_3, ci_32, ci_4, ci_420, ci_48, ci_5, ci_5040, ci_57, ci_59, ci_6, ci_60, ci_63, ci_64, ci_7, ci_70, ci_8, ci_858993459, ci_9, ci_900, ci_97, ci_99, ci_999, ci_9999, cl_0, cl_1, cl_10, cl_1000000000000, cl_122, cl_2, cl_2000000000000, cl_23, cl_255, cl_27, cl_3, cl_4, cl_48, cl_57, cl_6, cl_8, cl_96, cl_97, cl_99, cl_999, cl_9999]
  obtain ⟨h1, h0⟩ := h
  repeat' (first | with_reducible refine wO_i ?_ ?_ | with_reducible refine wL_i ?_ | with_reducible refine cB_f (by decide) ?_ | with_reducible refine cB_t (by decide) ?_ | with_reducible refine cB_i (fun _ => ?_) (fun _ => ?_) | with_reducible refine jn0_i ?_ | with_reducible refine jn1_i ?_ | with_reducible refine jn2_i ?_ | with_reducible refine jn3_i ?_ | with_reducible refine jn4_i ?_ | with_reducible refine jn5_i ?_ | with_reducible refine jn6_i ?_ | with_reducible refine sp_factOf ?_)
  all_goals (try (simp only [iR, lR, inb, bZ, dOK, or_true, true_or, true_and, and_true] at *)); all_goals (try omega)
  all_goals first | exact h1 (by omega) | exact h0 (by omega)
theorem st_firstWrong {n : Int} {F : Int → Int} {t : Int} {Q : Int → Prop} (hn : 0 ≤ n ∧ n ≤ 60) (h : ∀ r, -1 ≤ r → r < n → Q r) : nf_Events_firstWrong n F t Q := by
  unfold nf_Events_firstWrong
  simp only [ci_m1, ci_m10, ci_m1001, ci_m1002, ci_m1003, ci_m1004, ci_0, ci_1, ci_10, ci_100, ci_1000, ci_10000, ci_101, ci_103, ci_104, ci_105, ci_107, ci_108, ci_110, ci_111, ci_114, ci_115, ci_116, ci_118, ci_119, ci_12, ci_122, ci_1431655765, ci_15, ci_16, ci_2, ci_20, ci_23, ci_24, ci_240, ci_252645135, ci_255, ci_256, ci_3, ci_32, ci_4, ci_420, ci_48, ci_5, ci_5040, ci_57, ci_59, ci_6, ci_60, ci_63, ci_64, ci_7, ci_70, ci_8, ci_858993459, ci_9, ci_900, ci_97, ci_99, ci_999, ci_9999, cl_0, cl_1, cl_10, cl_1000000000000, cl_122, cl_2, cl_2000000000000, cl_23, cl_255, cl_27, cl_3, cl_4, cl_48, cl_57, cl_6, cl_8, cl_96, cl_97, cl_99, cl_999, cl_9999]
  refine sp_find hn (fun r1 a1 a2 _ _ => ?_)
  repeat' (first | with_reducible refine wO_i ?_ ?_ | with_reducible refine wL_i ?_ | with_reducible refine cB_f (by decide) ?_ | with_reducible refine cB_t (by decide) ?_ | with_reducible refine cB_i (fun _ => ?_) (fun _ => ?_) | with_reducible refine jn0_i ?_ | with_reducible refine jn1_i ?_ | with_reducible refine jn2_i ?_ | with_reducible refine jn3_i ?_ | with_reducible refine jn4_i ?_ | with_reducible refine jn5_i ?_ | with_reducible refine jn6_i ?_ | with_reducible refine sp_wasWrong ?_ | with_reducible refine sp_factOf ?_ | with_reducible refine sp_find hn (fun _ _ _ _ _ => ?_))
  all_goals (try (simp only [iR, lR, inb, bZ, dOK, or_true, true_or, true_and, and_true] at *)); all_goals (try omega)
  all_goals exact h _ (by omega) (by omega)
theorem st_chainLength {n : Int} {F : Int → Int} {a : Int} {Q : Int → Prop} (h : ∀ r, 0 ≤ r → r ≤ 16 → Q r) : nf_Guests_chainLength n F a Q := by
  unfold nf_Guests_chainLength
  simp only [ci_m1, ci_m10, ci_m1001, ci_m1002, ci_m1003, ci_m1004, ci_0, ci_1, ci_10, ci_100, ci_1000, ci_10000, ci_101, ci_103, ci_104, ci_105, ci_107, ci_108, ci_110, ci_111, ci_114, ci_115, ci_116, ci_118, ci_119, ci_12, ci_122, ci_1431655765, ci_15, ci_16, ci_2, ci_20, ci_23, ci_24, ci_240, ci_252645135, ci_255, ci_256, ci_3, ci_32, ci_4, ci_420, ci_48, ci_5, ci_5040, ci_57, ci_59, ci_6, ci_60, ci_63, ci_64, ci_7, ci_70, ci_8, ci_858993459, ci_9, ci_900, ci_97, ci_99, ci_999, ci_9999, cl_0, cl_1, cl_10, cl_1000000000000, cl_122, cl_2, cl_2000000000000, cl_23, cl_255, cl_27, cl_3, cl_4, cl_48, cl_57, cl_6, cl_8, cl_96, cl_97, cl_99, cl_999, cl_9999]
  refine nlp2_i (fun _ l => 0 ≤ l ∧ l ≤ 16) (fun _ l => (16 - l).toNat) ?_ ⟨by omega, by omega⟩
  intro g l hi self hself
  obtain ⟨i1, i2⟩ := hi
  repeat' (first | with_reducible refine wO_i ?_ ?_ | with_reducible refine wL_i ?_ | with_reducible refine cB_f (by decide) ?_ | with_reducible refine cB_t (by decide) ?_ | with_reducible refine cB_i (fun _ => ?_) (fun _ => ?_) | with_reducible refine jn0_i ?_ | with_reducible refine jn1_i ?_ | with_reducible refine jn2_i ?_ | with_reducible refine jn3_i ?_ | with_reducible refine jn4_i ?_ | with_reducible refine jn5_i ?_ | with_reducible refine jn6_i ?_ | with_reducible refine sp_nextInChain ?_)
  all_goals (try (simp only [iR, lR, inb, bZ, dOK, or_true, true_or, true_and, and_true] at *)); all_goals (try omega)
  all_goals first | exact h _ (by omega) (by omega) | exact hself _ _ ⟨by omega, by omega⟩ (by omega)
theorem st_chainMember {n : Int} {F : Int → Int} {a i : Int} {Q : Int → Prop} (hi : i ≤ 2147483647) (h : ∀ r, Q r) : nf_Guests_chainMember n F a i Q := by
  unfold nf_Guests_chainMember
  simp only [ci_m1, ci_m10, ci_m1001, ci_m1002, ci_m1003, ci_m1004, ci_0, ci_1, ci_10, ci_100, ci_1000, ci_10000, ci_101, ci_103, ci_104, ci_105, ci_107, ci_108, ci_110, ci_111, ci_114, ci_115, ci_116, ci_118, ci_119, ci_12, ci_122, ci_1431655765, ci_15, ci_16, ci_2, ci_20, ci_23, ci_24, ci_240, ci_252645135, ci_255, ci_256, ci_3, ci_32, ci_4, ci_420, ci_48, ci_5, ci_5040, ci_57, ci_59, ci_6, ci_60, ci_63, ci_64, ci_7, ci_70, ci_8, ci_858993459, ci_9, ci_900, ci_97, ci_99, ci_999, ci_9999, cl_0, cl_1, cl_10, cl_1000000000000, cl_122, cl_2, cl_2000000000000, cl_23, cl_255, cl_27, cl_3, cl_4, cl_48, cl_57, cl_6, cl_8, cl_96, cl_97, cl_99, cl_999, cl_9999]
  refine cB_i (fun hi0 => ?_) (fun _ => h _)
  refine nlp2_i (fun _ l => 0 ≤ l ∧ l ≤ i) (fun _ l => (i - l).toNat) ?_ ⟨by omega, by omega⟩
  intro g l hi self hself
  obtain ⟨i1, i2⟩ := hi
  repeat' (first | with_reducible refine wO_i ?_ ?_ | with_reducible refine wL_i ?_ | with_reducible refine cB_f (by decide) ?_ | with_reducible refine cB_t (by decide) ?_ | with_reducible refine cB_i (fun _ => ?_) (fun _ => ?_) | with_reducible refine jn0_i ?_ | with_reducible refine jn1_i ?_ | with_reducible refine jn2_i ?_ | with_reducible refine jn3_i ?_ | with_reducible refine jn4_i ?_ | with_reducible refine jn5_i ?_ | with_reducible refine jn6_i ?_ | with_reducible refine sp_nextInChain ?_)
  all_goals (try (simp only [iR, lR, inb, bZ, dOK, or_true, true_or, true_and, and_true] at *)); all_goals (try omega)
  all_goals first | exact h _ | exact hself _ _ ⟨by omega, by omega⟩ (by omega)
theorem st_comesRound {n : Int} {F : Int → Int} {a : Int} {Q : Int → Prop} (h : ∀ r, (r = 0 ∨ r = 1) → Q r) : nf_Guests_comesRound n F a Q := by
  unfold nf_Guests_comesRound
  simp only [ci_m1, ci_m10, ci_m1001, ci_m1002, ci_m1003, ci_m1004, ci_0, ci_1, ci_10, ci_100, ci_1000, ci_10000, ci_101, ci_103, ci_104, ci_105, ci_107, ci_108, ci_110, ci_111, ci_114, ci_115, ci_116, ci_118, ci_119, ci_12, ci_122, ci_1431655765, ci_15, ci_16, ci_2, ci_20, ci_23, ci_24, ci_240, ci_252645135, ci_255, ci_256, ci_3, ci_32, ci_4, ci_420, ci_48, ci_5, ci_5040, ci_57, ci_59, ci_6, ci_60, ci_63, ci_64, ci_7, ci_70, ci_8, ci_858993459, ci_9, ci_900, ci_97, ci_99, ci_999, ci_9999, cl_0, cl_1, cl_10, cl_1000000000000, cl_122, cl_2, cl_2000000000000, cl_23, cl_255, cl_27, cl_3, cl_4, cl_48, cl_57, cl_6, cl_8, cl_96, cl_97, cl_99, cl_999, cl_9999]
  refine st_chainLength (fun r1 _ _ => ?_)
  refine wO_i (by (try simp only [iR]); omega) ?_
  refine st_chainMember (by omega) (fun r2 => ?_)
  repeat' (first | with_reducible refine wO_i ?_ ?_ | with_reducible refine wL_i ?_ | with_reducible refine cB_f (by decide) ?_ | with_reducible refine cB_t (by decide) ?_ | with_reducible refine cB_i (fun _ => ?_) (fun _ => ?_) | with_reducible refine jn0_i ?_ | with_reducible refine jn1_i ?_ | with_reducible refine jn2_i ?_ | with_reducible refine jn3_i ?_ | with_reducible refine jn4_i ?_ | with_reducible refine jn5_i ?_ | with_reducible refine jn6_i ?_ | with_reducible refine sp_knows ?_)
  all_goals (try (simp only [iR, lR, inb, bZ, dOK, or_true, true_or, true_and, and_true] at *)); all_goals (try omega)
  all_goals exact h _ (by omega)
theorem st_isLeastOfRing {n : Int} {F : Int → Int} {a : Int} {Q : Int → Prop} (h : ∀ r, (r = 0 ∨ r = 1) → Q r) : nf_Guests_isLeastOfRing n F a Q := by
  unfold nf_Guests_isLeastOfRing
  simp only [ci_m1, ci_m10, ci_m1001, ci_m1002, ci_m1003, ci_m1004, ci_0, ci_1, ci_10, ci_100, ci_1000, ci_10000, ci_101, ci_103, ci_104, ci_105, ci_107, ci_108, ci_110, ci_111, ci_114, ci_115, ci_116, ci_118, ci_119, ci_12, ci_122, ci_1431655765, ci_15, ci_16, ci_2, ci_20, ci_23, ci_24, ci_240, ci_252645135, ci_255, ci_256, ci_3, ci_32, ci_4, ci_420, ci_48, ci_5, ci_5040, ci_57, ci_59, ci_6, ci_60, ci_63, ci_64, ci_7, ci_70, ci_8, ci_858993459, ci_9, ci_900, ci_97, ci_99, ci_999, ci_9999, cl_0, cl_1, cl_10, cl_1000000000000, cl_122, cl_2, cl_2000000000000, cl_23, cl_255, cl_27, cl_3, cl_4, cl_48, cl_57, cl_6, cl_8, cl_96, cl_97, cl_99, cl_999, cl_9999]
  repeat' (first | with_reducible refine wO_i ?_ ?_ | with_reducible refine wL_i ?_ | with_reducible refine cB_f (by decide) ?_ | with_reducible refine cB_t (by decide) ?_ | with_reducible refine cB_i (fun _ => ?_) (fun _ => ?_) | with_reducible refine jn0_i ?_ | with_reducible refine jn1_i ?_ | with_reducible refine jn2_i ?_ | with_reducible refine jn3_i ?_ | with_reducible refine jn4_i ?_ | with_reducible refine jn5_i ?_ | with_reducible refine jn6_i ?_ | with_reducible refine sp_isAstray ?_ | with_reducible refine st_comesRound (fun _ _ => ?_) | with_reducible refine nlp2_i (fun _ l => 0 ≤ l ∧ l ≤ 16) (fun _ l => (16 - l).toNat) ?_ ⟨by omega, by omega⟩)
  all_goals (try (simp only [iR, lR, inb, bZ, dOK, or_true, true_or, true_and, and_true] at *)); all_goals (try omega)
  all_goals first | exact h _ (by omega) | skip
  all_goals
    intro g l hi self hself
    obtain ⟨i1, i2⟩ := hi
    repeat' (first | with_reducible refine wO_i ?_ ?_ | with_reducible refine wL_i ?_ | with_reducible refine cB_f (by decide) ?_ | with_reducible refine cB_t (by decide) ?_ | with_reducible refine cB_i (fun _ => ?_) (fun _ => ?_) | with_reducible refine jn0_i ?_ | with_reducible refine jn1_i ?_ | with_reducible refine jn2_i ?_ | with_reducible refine jn3_i ?_ | with_reducible refine jn4_i ?_ | with_reducible refine jn5_i ?_ | with_reducible refine jn6_i ?_ | with_reducible refine sp_nextInChain ?_)
    all_goals (try (simp only [iR, lR, inb, bZ, dOK, or_true, true_or, true_and, and_true] at *)); all_goals (try omega)
    all_goals first | exact h _ (by omega) | exact hself _ _ ⟨by omega, by omega⟩ (by omega)
theorem st_thingsFor {n cn c : Int} {gk gm gp cg cy cz : Int → Int} {Q : Int → Prop} (hn : 0 ≤ n ∧ n ≤ 16) (hc : 0 ≤ cn ∧ cn ≤ 6) (h : ∀ r, Q r) : nf_Claims_thingsFor n gk gm gp cn cg cy cz c Q := by
  unfold nf_Claims_thingsFor
  simp only [ci_m1, ci_m10, ci_m1001, ci_m1002, ci_m1003, ci_m1004, ci_0, ci_1, ci_10, ci_100, ci_1000, ci_10000, ci_101, ci_103, ci_104, ci_105, ci_107, ci_108, ci_110, ci_111, ci_114, ci_115, ci_116, ci_118, ci_119, ci_12, ci_122, ci_1431655765, ci_15, ci_16, ci_2, ci_20, ci_23, ci_24, ci_240, ci_252645135, ci_255, ci_256, ci_3, ci_32, ci_4, ci_420, ci_48, ci_5, ci_5040, ci_57, ci_59, ci_6, ci_60, ci_63, ci_64, ci_7, ci_70, ci_8, ci_858993459, ci_9, ci_900, ci_97, ci_99, ci_999, ci_9999, cl_0, cl_1, cl_10, cl_1000000000000, cl_122, cl_2, cl_2000000000000, cl_23, cl_255, cl_27, cl_3, cl_4, cl_48, cl_57, cl_6, cl_8, cl_96, cl_97, cl_99, cl_999, cl_9999]
  repeat' (first | with_reducible refine wO_i ?_ ?_ | with_reducible refine wL_i ?_ | with_reducible refine cB_f (by decide) ?_ | with_reducible refine cB_t (by decide) ?_ | with_reducible refine cB_i (fun _ => ?_) (fun _ => ?_) | with_reducible refine jn0_i ?_ | with_reducible refine jn1_i ?_ | with_reducible refine jn2_i ?_ | with_reducible refine jn3_i ?_ | with_reducible refine jn4_i ?_ | with_reducible refine jn5_i ?_ | with_reducible refine jn6_i ?_ | with_reducible refine sp_cknows ?_ | with_reducible refine sp_kindOf ?_ | with_reducible refine nlp2_i (fun _ l => 0 ≤ l ∧ l ≤ n) (fun _ l => (n - l).toNat) ?_ ⟨by omega, by omega⟩)
  all_goals (try (simp only [iR, lR, inb, bZ, dOK, or_true, true_or, true_and, and_true] at *)); all_goals (try omega)
  all_goals first | exact h _ | skip
  all_goals
    intro g l hi self hself
    obtain ⟨i1, i2⟩ := hi
    repeat' (first | with_reducible refine wO_i ?_ ?_ | with_reducible refine wL_i ?_ | with_reducible refine cB_f (by decide) ?_ | with_reducible refine cB_t (by decide) ?_ | with_reducible refine cB_i (fun _ => ?_) (fun _ => ?_) | with_reducible refine jn0_i ?_ | with_reducible refine jn1_i ?_ | with_reducible refine jn2_i ?_ | with_reducible refine jn3_i ?_ | with_reducible refine jn4_i ?_ | with_reducible refine jn5_i ?_ | with_reducible refine jn6_i ?_ | with_reducible refine sp_marksOf ?_ | with_reducible refine sp_kindOf ?_ | with_reducible refine sp_hangs ?_)
    all_goals (try (simp only [iR, lR, inb, bZ, dOK, or_true, true_or, true_and, and_true] at *)); all_goals (try omega)
    all_goals first | exact h _ | exact hself _ _ ⟨by omega, by omega⟩ (by omega)
theorem st_howManyAgree {n a b c : Int} {gm : Int → Int} {Q : Int → Prop} (hn : 0 ≤ n ∧ n ≤ 16) (h : ∀ r, 0 ≤ r → r ≤ n → Q r) : nf_Claims_howManyAgree n gm a b c Q := by
  unfold nf_Claims_howManyAgree
  simp only [ci_m1, ci_m10, ci_m1001, ci_m1002, ci_m1003, ci_m1004, ci_0, ci_1, ci_10, ci_100, ci_1000, ci_10000, ci_101, ci_103, ci_104, ci_105, ci_107, ci_108, ci_110, ci_111, ci_114, ci_115, ci_116, ci_118, ci_119, ci_12, ci_122, ci_1431655765, ci_15, ci_16, ci_2, ci_20, ci_23, ci_24, ci_240, ci_252645135, ci_255, ci_256, ci_3, ci_32, ci_4, ci_420, ci_48, ci_5, ci_5040, ci_57, ci_59, ci_6, ci_60, ci_63, ci_64, ci_7, ci_70, ci_8, ci_858993459, ci_9, ci_900, ci_97, ci_99, ci_999, ci_9999, cl_0, cl_1, cl_10, cl_1000000000000, cl_122, cl_2, cl_2000000000000, cl_23, cl_255, cl_27, cl_3, cl_4, cl_48, cl_57, cl_6, cl_8, cl_96, cl_97, cl_99, cl_999, cl_9999]
  refine nlp2_i (fun r l => 0 ≤ l ∧ l ≤ n ∧ 0 ≤ r ∧ r ≤ l) (fun _ l => (n - l).toNat) ?_ ⟨by omega, by omega, by omega, by omega⟩
  intro g l hi self hself
  obtain ⟨i1, i2, i3, i4⟩ := hi
  repeat' (first | with_reducible refine wO_i ?_ ?_ | with_reducible refine wL_i ?_ | with_reducible refine cB_f (by decide) ?_ | with_reducible refine cB_t (by decide) ?_ | with_reducible refine cB_i (fun _ => ?_) (fun _ => ?_) | with_reducible refine jn0_i ?_ | with_reducible refine jn1_i ?_ | with_reducible refine jn2_i ?_ | with_reducible refine jn3_i ?_ | with_reducible refine jn4_i ?_ | with_reducible refine jn5_i ?_ | with_reducible refine jn6_i ?_ | with_reducible refine sp_marksOf ?_)
  all_goals (try (simp only [iR, lR, inb, bZ, dOK, or_true, true_or, true_and, and_true] at *)); all_goals (try omega)
  all_goals first | exact h _ (by omega) (by omega) | exact hself _ _ ⟨by omega, by omega, by omega, by omega⟩ (by omega)
theorem st_bitCount {x : Int} {Q : Int → Prop} (h : ∀ r, Q r) : nf_bitCount x Q := by
  unfold nf_bitCount
  repeat' (first | with_reducible refine wO_i ?_ ?_ | with_reducible refine wL_i ?_ | with_reducible refine cB_f (by decide) ?_ | with_reducible refine cB_t (by decide) ?_ | with_reducible refine cB_i (fun _ => ?_) (fun _ => ?_) | with_reducible refine jn0_i ?_ | with_reducible refine jn1_i ?_ | with_reducible refine jn2_i ?_ | with_reducible refine jn3_i ?_ | with_reducible refine jn4_i ?_ | with_reducible refine jn5_i ?_ | with_reducible refine jn6_i ?_)
  exact h _
theorem st_fewestAsked {n cn c : Int} {gk gm gp cg cy cz : Int → Int} {Q : Int → Prop} (hn : 0 ≤ n ∧ n ≤ 16) (hc : 0 ≤ cn ∧ cn ≤ 6) (h : ∀ r, Q r) : nf_Claims_fewestAsked n gk gm gp cn cg cy cz c Q := by
  unfold nf_Claims_fewestAsked
  simp only [ci_m1, ci_m10, ci_m1001, ci_m1002, ci_m1003, ci_m1004, ci_0, ci_1, ci_10, ci_100, ci_1000, ci_10000, ci_101, ci_103, ci_104, ci_105, ci_107, ci_108, ci_110, ci_111, ci_114, ci_115, ci_116, ci_118, ci_119, ci_12, ci_122, ci_1431655765, ci_15, ci_16, ci_2, ci_20, ci_23, ci_24, ci_240, ci_252645135, ci_255, ci_256, ci_3, ci_32, ci_4, ci_420, ci_48, ci_5, ci_5040, ci_57, ci_59, ci_6, ci_60, ci_63, ci_64, ci_7, ci_70, ci_8, ci_858993459, ci_9, ci_900, ci_97, ci_99, ci_999, ci_9999, cl_0, cl_1, cl_10, cl_1000000000000, cl_122, cl_2, cl_2000000000000, cl_23, cl_255, cl_27, cl_3, cl_4, cl_48, cl_57, cl_6, cl_8, cl_96, cl_97, cl_99, cl_999, cl_9999]
  refine st_thingsFor hn hc (fun r1 => ?_)
  repeat' (first | with_reducible refine wO_i ?_ ?_ | with_reducible refine wL_i ?_ | with_reducible refine cB_f (by decide) ?_ | with_reducible refine cB_t (by decide) ?_ | with_reducible refine cB_i (fun _ => ?_) (fun _ => ?_) | with_reducible refine jn0_i ?_ | with_reducible refine jn1_i ?_ | with_reducible refine jn2_i ?_ | with_reducible refine jn3_i ?_ | with_reducible refine jn4_i ?_ | with_reducible refine jn5_i ?_ | with_reducible refine jn6_i ?_ | with_reducible refine sp_guestOf ?_ | with_reducible refine sp_marksOf ?_ | with_reducible refine nlp2_i (fun _ l => 0 ≤ l ∧ l ≤ 256) (fun _ l => (256 - l).toNat) ?_ ⟨by omega, by omega⟩)
  all_goals (try (simp only [iR, lR, inb, bZ, dOK, or_true, true_or, true_and, and_true] at *)); all_goals (try omega)
  all_goals first | exact h _ | skip
  all_goals
    intro g l hi self hself
    obtain ⟨i1, i2⟩ := hi
    repeat' (first | with_reducible refine wO_i ?_ ?_ | with_reducible refine wL_i ?_ | with_reducible refine cB_f (by decide) ?_ | with_reducible refine cB_t (by decide) ?_ | with_reducible refine cB_i (fun _ => ?_) (fun _ => ?_) | with_reducible refine jn0_i ?_ | with_reducible refine jn1_i ?_ | with_reducible refine jn2_i ?_ | with_reducible refine jn3_i ?_ | with_reducible refine jn4_i ?_ | with_reducible refine jn5_i ?_ | with_reducible refine jn6_i ?_ | with_reducible refine st_bitCount (fun _ => ?_) | with_reducible refine st_howManyAgree hn (fun _ _ _ => ?_))
    all_goals (try (simp only [iR, lR, inb, bZ, dOK, or_true, true_or, true_and, and_true] at *)); all_goals (try omega)
    all_goals first | exact h _ | exact hself _ _ ⟨by omega, by omega⟩ (by omega)
