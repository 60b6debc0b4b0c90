/-! the class: the hall and its reader -/
theorem ups_s {F : Int → Int} {i v : Int} : ups F i v i = v := if_pos rfl
theorem ups_n {F : Int → Int} {i v j : Int} (h : j ≠ i) : ups F i v j = F j := if_neg h
theorem st_tellShares {S : Int → Int} {s a b c : Int} {Q : (Int → Int) → Prop} (h0 : ¬ (0 ≤ s ∧ s ≤ 3) → Q S) (h1 : 0 ≤ s → s ≤ 3 → ∀ S', (∀ k, k ≠ s * 3 → k ≠ s * 3 + 1 → k ≠ s * 3 + 2 → S' k = S k) → S' (s * 3) = a → S' (s * 3 + 1) = b → S' (s * 3 + 2) = c → Q S') : nf_Hall_tellShares S s a b c Q := by
  unfold nf_Hall_tellShares
  simp only [ci_m1, ci_m10, ci_m1001, ci_m1002, ci_m1003, ci_m1004, ci_0, ci_1, ci_10, ci_100, ci_1000, ci_10000, ci_101, ci_103, ci_104, ci_105, ci_107, ci_108, ci_110, ci_111, ci_114, ci_115, ci_116, ci_118, ci_119, ci_12, ci_122, ci_1431655765, ci_15, ci_16, ci_2, ci_20, ci_23, ci_24, ci_240, ci_252645135, ci_255, ci_256, ci_3, ci_32, ci_4, ci_420, ci_48, ci_5, ci_5040, ci_57, ci_59, ci_6, ci_60, ci_63, ci_64, ci_7, ci_70, ci_8, ci_858993459, ci_9, ci_900, ci_97, ci_99, ci_999, ci_9999, cl_0, cl_1, cl_10, cl_1000000000000, cl_122, cl_2, cl_2000000000000, cl_23, cl_255, cl_27, cl_3, cl_4, cl_48, cl_57, cl_6, cl_8, cl_96, cl_97, cl_99, cl_999, cl_9999]
  refine sp_within (cB_i (fun hs => ?_) (fun hs => cB_t rfl (h0 hs)))
  refine cB_f (by decide) ?_
  repeat' (first | with_reducible refine wO_i ?_ ?_ | with_reducible refine wL_i ?_ | with_reducible refine cB_f (by decide) ?_ | with_reducible refine cB_t (by decide) ?_ | with_reducible refine cB_i (fun _ => ?_) (fun _ => ?_) | with_reducible refine jn0_i ?_ | with_reducible refine jn1_i ?_ | with_reducible refine jn2_i ?_ | with_reducible refine jn3_i ?_ | with_reducible refine jn4_i ?_ | with_reducible refine jn5_i ?_ | with_reducible refine jn6_i ?_)
  all_goals (try (simp only [iR, lR, inb, bZ, dOK, or_true, true_or, true_and, and_true] at *)); all_goals (try omega)
  refine h1 hs.1 hs.2 _ (fun k k1 k2 k3 => ?_) ?_ ?_ ?_
  · rw [ups_n k3, ups_n k2, ups_n k1]
  · rw [ups_n (by omega), ups_n (by omega), ups_s]
  · rw [ups_n (by omega), ups_s]
  · rw [ups_s]
theorem st_addRow {p n k w : Int} {hk hw : Int → Int} {Q : Int → (Int → Int) → (Int → Int) → Prop} (hp : 0 ≤ p ∧ p ≤ 24) (hn : 0 ≤ n ∧ n ≤ 24) (hw0 : 0 ≤ w ∧ w ≤ 99) (hwk : ∀ q, 0 ≤ q → q < p → 0 ≤ hw q ∧ hw q ≤ 122) (h : ∀ p' hk' hw', 0 ≤ p' → p' ≤ 24 → (∀ q, 0 ≤ q → q < p' → 0 ≤ hw' q ∧ hw' q ≤ 122) → Q p' hk' hw') : nf_Hall_addRow p hk hw n k w Q := by
  unfold nf_Hall_addRow
  simp only [ci_m1, ci_m10, ci_m1001, ci_m1002, ci_m1003, ci_m1004, ci_0, ci_1, ci_10, ci_100, ci_1000, ci_10000, ci_101, ci_103, ci_104, ci_105, ci_107, ci_108, ci_110, ci_111, ci_114, ci_115, ci_116, ci_118, ci_119, ci_12, ci_122, ci_1431655765, ci_15, ci_16, ci_2, ci_20, ci_23, ci_24, ci_240, ci_252645135, ci_255, ci_256, ci_3, ci_32, ci_4, ci_420, ci_48, ci_5, ci_5040, ci_57, ci_59, ci_6, ci_60, ci_63, ci_64, ci_7, ci_70, ci_8, ci_858993459, ci_9, ci_900, ci_97, ci_99, ci_999, ci_9999, cl_0, cl_1, cl_10, cl_1000000000000, cl_122, cl_2, cl_2000000000000, cl_23, cl_255, cl_27, cl_3, cl_4, cl_48, cl_57, cl_6, cl_8, cl_96, cl_97, cl_99, cl_999, cl_9999]
  refine nlp4_i (fun i p' _ hw' => 0 ≤ i ∧ i ≤ n ∧ 0 ≤ p' ∧ p' ≤ 24 ∧ ∀ q, 0 ≤ q → q < p' → 0 ≤ hw' q ∧ hw' q ≤ 122) (fun i _ _ _ => (n - i).toNat) ?_ ⟨by omega, by omega, hp.1, hp.2, hwk⟩
  intro i p1 hk1 hw1 hi self hself
  obtain ⟨i1, i2, i3, i4, i5⟩ := hi
  repeat' (first | with_reducible refine wO_i ?_ ?_ | with_reducible refine wL_i ?_ | with_reducible refine cB_f (by decide) ?_ | with_reducible refine cB_t (by decide) ?_ | with_reducible refine cB_i (fun _ => ?_) (fun _ => ?_) | with_reducible refine jn0_i ?_ | with_reducible refine jn1_i ?_ | with_reducible refine jn2_i ?_ | with_reducible refine jn3_i ?_ | with_reducible refine jn4_i ?_ | with_reducible refine jn5_i ?_ | with_reducible refine jn6_i ?_)
  all_goals (try (simp only [iR, lR, inb, bZ, dOK, or_true, true_or, true_and, and_true] at *)); all_goals (try omega)
  all_goals first | exact h _ _ _ (by omega) (by omega) i5 | skip
  refine hself _ _ _ _ ⟨by omega, by omega, by omega, by omega, fun q q1 q2 => ?_⟩ (by omega)
  by_cases e : q = p1
  · subst e; rw [ups_s]; omega
  · rw [ups_n e]; exact i5 q q1 (by omega)
theorem st_clear {p t l : Int} {S X : Int → Int} {Q : Int → Int → Int → (Int → Int) → (Int → Int) → Prop} (h : ∀ S' X', (∀ k, 0 ≤ k → k < 12 → 0 ≤ S' k ∧ S' k ≤ 100) → (∀ k, 0 ≤ k → k < 3 → 0 ≤ X' k ∧ X' k ≤ 9) → Q 0 2 1 S' X') : nf_Hall_clear p t l S X Q := by
  unfold nf_Hall_clear
  unfold nf_Hall_tellWeights
  simp only [ci_m1, ci_m10, ci_m1001, ci_m1002, ci_m1003, ci_m1004, ci_0, ci_1, ci_10, ci_100, ci_1000, ci_10000, ci_101, ci_103, ci_104, ci_105, ci_107, ci_108, ci_110, ci_111, ci_114, ci_115, ci_116, ci_118, ci_119, ci_12, ci_122, ci_1431655765, ci_15, ci_16, ci_2, ci_20, ci_23, ci_24, ci_240, ci_252645135, ci_255, ci_256, ci_3, ci_32, ci_4, ci_420, ci_48, ci_5, ci_5040, ci_57, ci_59, ci_6, ci_60, ci_63, ci_64, ci_7, ci_70, ci_8, ci_858993459, ci_9, ci_900, ci_97, ci_99, ci_999, ci_9999, cl_0, cl_1, cl_10, cl_1000000000000, cl_122, cl_2, cl_2000000000000, cl_23, cl_255, cl_27, cl_3, cl_4, cl_48, cl_57, cl_6, cl_8, cl_96, cl_97, cl_99, cl_999, cl_9999]
  repeat' (first | with_reducible refine wO_i ?_ ?_ | with_reducible refine wL_i ?_ | with_reducible refine cB_f (by decide) ?_ | with_reducible refine cB_t (by decide) ?_ | with_reducible refine cB_i (fun _ => ?_) (fun _ => ?_) | with_reducible refine jn0_i ?_ | with_reducible refine jn1_i ?_ | with_reducible refine jn2_i ?_ | with_reducible refine jn3_i ?_ | with_reducible refine jn4_i ?_ | with_reducible refine jn5_i ?_ | with_reducible refine jn6_i ?_ | with_reducible refine nlp2_i (fun s S' => 0 ≤ s ∧ s ≤ 4 ∧ ∀ k, 0 ≤ k → k < s * 3 → 0 ≤ S' k ∧ S' k ≤ 100) (fun s _ => (4 - s).toNat) ?_ ⟨by omega, by omega, by omega⟩)
  all_goals (try (simp only [iR, lR, inb, bZ, dOK, or_true, true_or, true_and, and_true] at *)); all_goals (try omega)
  intro s S1 hi self hself
  obtain ⟨i1, i2, i3⟩ := hi
  refine cB_i (fun _ => ?_) (fun _ => ?_)
  · refine h _ _ (fun k k1 k2 => i3 k k1 (by omega)) (fun k k1 k2 => ?_)
    rcases (show k = 0 ∨ k = 1 ∨ k = 2 by omega) with rfl | rfl | rfl
    · rw [ups_n (by omega), ups_n (by omega), ups_s]; omega
    · rw [ups_n (by omega), ups_s]; omega
    · rw [ups_s]; omega
  · refine st_tellShares (fun a => by omega) (fun _ _ S2 a b c d => wO_i (by (try simp only [iR]); omega) (hself _ _ ⟨by omega, by omega, fun k k1 k2 => ?_⟩ (by omega)))
    by_cases e0 : k = s * 3
    · subst e0; omega
    · by_cases e1 : k = s * 3 + 1
      · subst e1; omega
      · by_cases e2 : k = s * 3 + 2
        · subst e2; omega
        · rw [a k e0 e1 e2]; exact i3 k k1 (by omega)
theorem st_append {n x : Int} {w : Int} {F : Int → Int} {Q : Int → Int → (Int → Int) → Prop} (hn : 0 ≤ n ∧ n ≤ 240) (hx : 1 ≤ x ∧ x ≤ 8) (h : ∀ n' F', n ≤ n' → n' ≤ 240 → Q n' n' F') : nf_Reader_append n F x w Q := by
  unfold nf_Reader_append
  simp only [ci_m1, ci_m10, ci_m1001, ci_m1002, ci_m1003, ci_m1004, ci_0, ci_1, ci_10, ci_100, ci_1000, ci_10000, ci_101, ci_103, ci_104, ci_105, ci_107, ci_108, ci_110, ci_111, ci_114, ci_115, ci_116, ci_118, ci_119, ci_12, ci_122, ci_1431655765, ci_15, ci_16, ci_2, ci_20, ci_23, ci_24, ci_240, ci_252645135, ci_255, ci_256, ci_3, ci_32, ci_4, ci_420, ci_48, ci_5, ci_5040, ci_57, ci_59, ci_6, ci_60, ci_63, ci_64, ci_7, ci_70, ci_8, ci_858993459, ci_9, ci_900, ci_97, ci_99, ci_999, ci_9999, cl_0, cl_1, cl_10, cl_1000000000000, cl_122, cl_2, cl_2000000000000, cl_23, cl_255, cl_27, cl_3, cl_4, cl_48, cl_57, cl_6, cl_8, cl_96, cl_97, cl_99, cl_999, cl_9999]
  refine wO_i (by (try simp only [iR]); omega) ?_
  refine nlp3_i (fun i n' _ => -1 ≤ i ∧ i ≤ 7 ∧ n ≤ n' ∧ n' ≤ 240) (fun i _ _ => (i + 1).toNat) ?_ ⟨by omega, by omega, by omega, by omega⟩
  intro i n1 F1 hi self hself
  obtain ⟨i1, i2, i3, i4⟩ := hi
  repeat' (first | with_reducible refine wO_i ?_ ?_ | with_reducible refine wL_i ?_ | with_reducible refine cB_f (by decide) ?_ | with_reducible refine cB_t (by decide) ?_ | with_reducible refine cB_i (fun _ => ?_) (fun _ => ?_) | with_reducible refine jn0_i ?_ | with_reducible refine jn1_i ?_ | with_reducible refine jn2_i ?_ | with_reducible refine jn3_i ?_ | with_reducible refine jn4_i ?_ | with_reducible refine jn5_i ?_ | with_reducible refine jn6_i ?_)
  all_goals (try (simp only [iR, lR, inb, bZ, dOK, or_true, true_or, true_and, and_true] at *)); all_goals (try omega)
  all_goals first | exact h _ _ (by omega) (by omega) | exact hself _ _ _ ⟨by omega, by omega, by omega, by omega⟩ (by omega)
theorem st_skipBlanks {n a : Int} {F : Int → Int} {Q : Int → Prop} (hn : 0 ≤ n ∧ n ≤ 240) (ha : 0 ≤ a ∧ a ≤ n) (h : ∀ a', a ≤ a' → a' ≤ n → Q a') : nf_Reader_skipBlanks n a F Q := by
  unfold nf_Reader_skipBlanks
  simp only [ci_m1, ci_m10, ci_m1001, ci_m1002, ci_m1003, ci_m1004, ci_0, ci_1, ci_10, ci_100, ci_1000, ci_10000, ci_101, ci_103, ci_104, ci_105, ci_107, ci_108, ci_110, ci_111, ci_114, ci_115, ci_116, ci_118, ci_119, ci_12, ci_122, ci_1431655765, ci_15, ci_16, ci_2, ci_20, ci_23, ci_24, ci_240, ci_252645135, ci_255, ci_256, ci_3, ci_32, ci_4, ci_420, ci_48, ci_5, ci_5040, ci_57, ci_59, ci_6, ci_60, ci_63, ci_64, ci_7, ci_70, ci_8, ci_858993459, ci_9, ci_900, ci_97, ci_99, ci_999, ci_9999, cl_0, cl_1, cl_10, cl_1000000000000, cl_122, cl_2, cl_2000000000000, cl_23, cl_255, cl_27, cl_3, cl_4, cl_48, cl_57, cl_6, cl_8, cl_96, cl_97, cl_99, cl_999, cl_9999]
  refine cB_i (fun _ => h _ (by omega) (by omega)) (fun _ => sp_byteAt (cB_i (fun _ => ?_) (fun hz => by omega)))
  refine cB_i (fun _ => wO_i (by (try simp only [iR]); omega) ?_) (fun _ => h _ (by omega) (by omega))
  refine nlp1_i (fun i => a ≤ i ∧ i ≤ n) (fun i => (n - i).toNat) ?_ ⟨by omega, by omega⟩
  intro i hi self hself
  refine cB_i (fun _ => h _ (by omega) (by omega)) (fun _ => sp_byteAt (cB_i (fun _ => ?_) (fun hz => by omega)))
  exact cB_i (fun _ => wO_i (by (try simp only [iR]); omega) (hself _ ⟨by omega, by omega⟩ (by omega))) (fun _ => h _ (by omega) (by omega))
theorem sp_fail {p f x w : Int} {Q : Int → Int → Prop} (h : cB (f = 0) (Q w x) (Q p f)) : nf_Reader_fail p f x w Q := h
theorem sp_isFigure {n i : Int} {F : Int → Int} {Q : Int → Prop} (h : cB (0 ≤ i ∧ i < n ∧ i < 240 ∧ 48 ≤ iand (F i) 255 ∧ iand (F i) 255 ≤ 57) (Q 1) (Q 0)) : nf_Reader_isFigure n F i Q := by
  unfold nf_Reader_isFigure
  simp only [ci_m1, ci_m10, ci_m1001, ci_m1002, ci_m1003, ci_m1004, ci_0, ci_1, ci_10, ci_100, ci_1000, ci_10000, ci_101, ci_103, ci_104, ci_105, ci_107, ci_108, ci_110, ci_111, ci_114, ci_115, ci_116, ci_118, ci_119, ci_12, ci_122, ci_1431655765, ci_15, ci_16, ci_2, ci_20, ci_23, ci_24, ci_240, ci_252645135, ci_255, ci_256, ci_3, ci_32, ci_4, ci_420, ci_48, ci_5, ci_5040, ci_57, ci_59, ci_6, ci_60, ci_63, ci_64, ci_7, ci_70, ci_8, ci_858993459, ci_9, ci_900, ci_97, ci_99, ci_999, ci_9999, cl_0, cl_1, cl_10, cl_1000000000000, cl_122, cl_2, cl_2000000000000, cl_23, cl_255, cl_27, cl_3, cl_4, cl_48, cl_57, cl_6, cl_8, cl_96, cl_97, cl_99, cl_999, cl_9999]
  obtain ⟨h1, h0⟩ := h
  refine sp_byteAt (cB_i (fun a => ?_) (fun a => ?_))
  · exact sp_within (cB_i (fun b => wO_i (Or.inr rfl) (h1 (by omega))) (fun b => wO_i (Or.inl rfl) (h0 (by omega))))
  · exact sp_within (cB_i (fun b => by omega) (fun b => wO_i (Or.inl rfl) (h0 (by omega))))
theorem sl_b : ∀ i, i < 7 → 3 ≤ slenN i ∧ slenN i ≤ 7 := by decide +kernel
theorem sc_b : ∀ i, i < 7 → ∀ k, k < slenN i → 97 ≤ schr i (k : Int) := by decide +kernel
theorem sc_bI {i : Nat} {k : Int} (hi : i < 7) (h0 : 0 ≤ k) (h1 : k < slenN i) : 97 ≤ schr i k := by
  have := sc_b i hi k.toNat (by omega)
  rwa [Int.toNat_of_nonneg h0] at this
theorem st_isHere {n a : Int} {F : Int → Int} {si : Nat} {Q : Int → Prop} (hsi : si < 7) (hn : 0 ≤ n ∧ n ≤ 240) (ha : 0 ≤ a ∧ a ≤ n) (h1 : a + slenN si ≤ n → Q 1) (h0 : Q 0) : nf_Reader_isHere n a F si Q := by
  unfold nf_Reader_isHere
  simp only [ci_m1, ci_m10, ci_m1001, ci_m1002, ci_m1003, ci_m1004, ci_0, ci_1, ci_10, ci_100, ci_1000, ci_10000, ci_101, ci_103, ci_104, ci_105, ci_107, ci_108, ci_110, ci_111, ci_114, ci_115, ci_116, ci_118, ci_119, ci_12, ci_122, ci_1431655765, ci_15, ci_16, ci_2, ci_20, ci_23, ci_24, ci_240, ci_252645135, ci_255, ci_256, ci_3, ci_32, ci_4, ci_420, ci_48, ci_5, ci_5040, ci_57, ci_59, ci_6, ci_60, ci_63, ci_64, ci_7, ci_70, ci_8, ci_858993459, ci_9, ci_900, ci_97, ci_99, ci_999, ci_9999, cl_0, cl_1, cl_10, cl_1000000000000, cl_122, cl_2, cl_2000000000000, cl_23, cl_255, cl_27, cl_3, cl_4, cl_48, cl_57, cl_6, cl_8, cl_96, cl_97, cl_99, cl_999, cl_9999]
  have hl := sl_b si hsi
  refine nlp1_i (fun (i : Int) => 0 ≤ i ∧ i ≤ slenN si ∧ a + i ≤ n) (fun i => ((slenN si : Int) - i).toNat) ?_ ⟨by omega, by omega, by omega⟩
  intro i hi self hself
  obtain ⟨i1, i2, i3⟩ := hi
  refine wL_i (cB_i (fun _ => wL_i (wO_i (by (try simp only [iR]); omega) ?_)) (fun _ => wO_i (by (try simp only [iR]); omega) ?_))
  · repeat' (first | with_reducible refine wO_i ?_ ?_ | with_reducible refine wL_i ?_ | with_reducible refine cB_f (by decide) ?_ | with_reducible refine cB_t (by decide) ?_ | with_reducible refine cB_i (fun _ => ?_) (fun _ => ?_) | with_reducible refine jn0_i ?_ | with_reducible refine jn1_i ?_ | with_reducible refine jn2_i ?_ | with_reducible refine jn3_i ?_ | with_reducible refine jn4_i ?_ | with_reducible refine jn5_i ?_ | with_reducible refine jn6_i ?_ | with_reducible refine sp_byteAt ?_)
    all_goals first | exact h0 | exact h1 (by omega)
  · have hc := sc_bI hsi i1 (show i < slenN si by omega)
    refine sp_byteAt (cB_i (fun hb => ?_) (fun _ => wO_i (by (try simp only [inb]); omega) (cB_i (fun e => by omega) (fun _ => h0))))
    exact wO_i (by (try simp only [inb]); omega) (cB_i (fun _ => wO_i (by (try simp only [iR]); omega) (hself _ ⟨by omega, by omega, by omega⟩ (by omega))) (fun _ => h0))
theorem st_needWord {n p f a : Int} {F : Int → Int} {si : Nat} {Q : Int → Int → Int → Prop} (hsi : si < 7) (hn : 0 ≤ n ∧ n ≤ 240) (ha : 0 ≤ a ∧ a ≤ n) (hf : 0 ≤ f ∧ f ≤ 5) (h : ∀ p' f' a', 0 ≤ f' → f' ≤ 5 → (f' = 0 → f = 0) → a ≤ a' → a' ≤ n → Q p' f' a') : nf_Reader_needWord n p f a F si Q := by
  unfold nf_Reader_needWord
  simp only [ci_m1, ci_m10, ci_m1001, ci_m1002, ci_m1003, ci_m1004, ci_0, ci_1, ci_10, ci_100, ci_1000, ci_10000, ci_101, ci_103, ci_104, ci_105, ci_107, ci_108, ci_110, ci_111, ci_114, ci_115, ci_116, ci_118, ci_119, ci_12, ci_122, ci_1431655765, ci_15, ci_16, ci_2, ci_20, ci_23, ci_24, ci_240, ci_252645135, ci_255, ci_256, ci_3, ci_32, ci_4, ci_420, ci_48, ci_5, ci_5040, ci_57, ci_59, ci_6, ci_60, ci_63, ci_64, ci_7, ci_70, ci_8, ci_858993459, ci_9, ci_900, ci_97, ci_99, ci_999, ci_9999, cl_0, cl_1, cl_10, cl_1000000000000, cl_122, cl_2, cl_2000000000000, cl_23, cl_255, cl_27, cl_3, cl_4, cl_48, cl_57, cl_6, cl_8, cl_96, cl_97, cl_99, cl_999, cl_9999]
  have hl := sl_b si hsi
  refine st_skipBlanks hn ha (fun a1 a2 a3 => st_isHere hsi hn ⟨by omega, a3⟩ (fun e => ?_) ?_)
  · exact cB_f (by decide) (wL_i (wO_i (by (try simp only [iR]); omega) (h _ _ _ (by omega) (by omega) (fun e => e) (by omega) (by omega))))
  · exact cB_t rfl (sp_fail (cB_i (fun _ => h _ _ _ (by omega) (by omega) (by omega) (by omega) (by omega)) (fun _ => h _ _ _ (by omega) (by omega) (fun e => e) (by omega) (by omega))))
theorem st_needEnd {n p f a : Int} {F : Int → Int} {Q : Int → Int → Int → Prop} (hn : 0 ≤ n ∧ n ≤ 240) (ha : 0 ≤ a ∧ a ≤ n) (hf : 0 ≤ f ∧ f ≤ 5) (h : ∀ p' f' a', 0 ≤ f' → f' ≤ 5 → (f' = 0 → f = 0) → a ≤ a' → a' ≤ n → Q p' f' a') : nf_Reader_needEnd n p f a F Q := by
  unfold nf_Reader_needEnd
  simp only [ci_m1, ci_m10, ci_m1001, ci_m1002, ci_m1003, ci_m1004, ci_0, ci_1, ci_10, ci_100, ci_1000, ci_10000, ci_101, ci_103, ci_104, ci_105, ci_107, ci_108, ci_110, ci_111, ci_114, ci_115, ci_116, ci_118, ci_119, ci_12, ci_122, ci_1431655765, ci_15, ci_16, ci_2, ci_20, ci_23, ci_24, ci_240, ci_252645135, ci_255, ci_256, ci_3, ci_32, ci_4, ci_420, ci_48, ci_5, ci_5040, ci_57, ci_59, ci_6, ci_60, ci_63, ci_64, ci_7, ci_70, ci_8, ci_858993459, ci_9, ci_900, ci_97, ci_99, ci_999, ci_9999, cl_0, cl_1, cl_10, cl_1000000000000, cl_122, cl_2, cl_2000000000000, cl_23, cl_255, cl_27, cl_3, cl_4, cl_48, cl_57, cl_6, cl_8, cl_96, cl_97, cl_99, cl_999, cl_9999]
  refine st_skipBlanks hn ha (fun a1 a2 a3 => sp_byteAt (cB_i (fun e => ?_) (fun e => cB_f (by decide) ?_)))
  · refine cB_i (fun _ => wO_i (by (try simp only [iR]); omega) (h _ _ _ (by omega) (by omega) (fun e => e) (by omega) (by omega))) (fun _ => ?_)
    exact sp_fail (cB_i (fun _ => h _ _ _ (by omega) (by omega) (by omega) (by omega) (by omega)) (fun _ => h _ _ _ (by omega) (by omega) (fun e => e) (by omega) (by omega)))
  · exact sp_fail (cB_i (fun _ => h _ _ _ (by omega) (by omega) (by omega) (by omega) (by omega)) (fun _ => h _ _ _ (by omega) (by omega) (fun e => e) (by omega) (by omega)))
theorem st_needNumber {n p f a ff x y : Int} {F : Int → Int} {Q : Int → Int → Int → Int → Int → Prop} (hn : 0 ≤ n ∧ n ≤ 240) (ha : 0 ≤ a ∧ a ≤ n) (hf : 0 ≤ f ∧ f ≤ 5) (h : ∀ r p' f' a' ff', 0 ≤ r → r ≤ 999 → 0 ≤ f' → f' ≤ 5 → (f' = 0 → f = 0 ∧ x ≤ r ∧ r ≤ y) → a ≤ a' → a' ≤ n → Q r p' f' a' ff') : nf_Reader_needNumber n p f a ff F x y Q := by
  unfold nf_Reader_needNumber
  simp only [ci_m1, ci_m10, ci_m1001, ci_m1002, ci_m1003, ci_m1004, ci_0, ci_1, ci_10, ci_100, ci_1000, ci_10000, ci_101, ci_103, ci_104, ci_105, ci_107, ci_108, ci_110, ci_111, ci_114, ci_115, ci_116, ci_118, ci_119, ci_12, ci_122, ci_1431655765, ci_15, ci_16, ci_2, ci_20, ci_23, ci_24, ci_240, ci_252645135, ci_255, ci_256, ci_3, ci_32, ci_4, ci_420, ci_48, ci_5, ci_5040, ci_57, ci_59, ci_6, ci_60, ci_63, ci_64, ci_7, ci_70, ci_8, ci_858993459, ci_9, ci_900, ci_97, ci_99, ci_999, ci_9999, cl_0, cl_1, cl_10, cl_1000000000000, cl_122, cl_2, cl_2000000000000, cl_23, cl_255, cl_27, cl_3, cl_4, cl_48, cl_57, cl_6, cl_8, cl_96, cl_97, cl_99, cl_999, cl_9999]
  refine st_skipBlanks hn ha (fun a1 a2 a3 => ?_)
  refine nlp2_i (fun v i => a1 ≤ i ∧ i ≤ n ∧ 0 ≤ v ∧ v ≤ 999 ∧ (i = a1 → v = 0) ∧ (i = a1 + 1 → v ≤ 9) ∧ (i = a1 + 2 → v ≤ 99)) (fun _ i => (n - i).toNat) ?_ ⟨by omega, by omega, by omega, by omega, by omega, by omega, by omega⟩
  intro v i hi self hself
  obtain ⟨i1, i2, i3, i4, i5, i6, i7⟩ := hi
  have fl : ∀ x9, 1 ≤ x9 → x9 ≤ 5 → nf_Reader_fail p f x9 a1 fun z11 z12 => Q v z11 z12 i a1 := fun x9 b1 b2 => sp_fail (cB_i (fun _ => h _ _ _ _ _ (by omega) (by omega) (by omega) (by omega) (by omega) (by omega) (by omega)) (fun _ => h _ _ _ _ _ (by omega) (by omega) (by omega) (by omega) (by omega) (by omega) (by omega)))
  refine jn0_s True (fun _ => ?_) ?_
  · refine cB_i (fun _ => fl 1 (by omega) (by omega)) (fun _ => wO_i (by (try simp only [iR]); omega) (jn0_i ?_))
    refine cB_i (fun _ => fl 2 (by omega) (by omega)) (fun _ => sp_within (cB_i (fun _ => cB_f (by decide) ?_) (fun _ => cB_t rfl (fl 2 (by omega) (by omega)))))
    exact h _ _ _ _ _ (by omega) (by omega) (by omega) (by omega) (by omega) (by omega) (by omega)
  · refine cB_i (fun _ => trivial) (fun _ => sp_isFigure (cB_i (fun hg => cB_f (by decide) ?_) (fun _ => cB_t rfl trivial)))
    refine wO_i (by (try simp only [iR]); omega) (jn1_s (fun v' => 0 ≤ v' ∧ v' ≤ 999 ∧ (i = a1 → v' ≤ 9) ∧ (i = a1 + 1 → v' ≤ 99)) (fun v' hv => wO_i (by (try simp only [iR]); omega) (hself _ _ ⟨by omega, by omega, by omega, by omega, by omega, by omega, by omega⟩ (by omega))) ?_)
    refine cB_i (fun _ => ⟨by omega, by omega, by omega, by omega⟩) (fun _ => wO_i (by (try simp only [iR]); omega) (sp_byteAt (cB_i (fun _ => ?_) (fun hz => by omega))))
    exact wO_i (by (try simp only [iR]); omega) (wO_i (by (try simp only [iR]); omega) ⟨by omega, by omega, by omega, by omega⟩)
theorem st_tellOnce {p f t b w : Int} {Q : Int → Int → Int → Prop} (hf : 0 ≤ f ∧ f ≤ 5) (h : ∀ p' f' t', 0 ≤ f' → f' ≤ 5 → (f' = 0 → f = 0) → Q p' f' t') : nf_Reader_tellOnce p f t b w Q := by
  unfold nf_Reader_tellOnce
  simp only [ci_m1, ci_m10, ci_m1001, ci_m1002, ci_m1003, ci_m1004, ci_0, ci_1, ci_10, ci_100, ci_1000, ci_10000, ci_101, ci_103, ci_104, ci_105, ci_107, ci_108, ci_110, ci_111, ci_114, ci_115, ci_116, ci_118, ci_119, ci_12, ci_122, ci_1431655765, ci_15, ci_16, ci_2, ci_20, ci_23, ci_24, ci_240, ci_252645135, ci_255, ci_256, ci_3, ci_32, ci_4, ci_420, ci_48, ci_5, ci_5040, ci_57, ci_59, ci_6, ci_60, ci_63, ci_64, ci_7, ci_70, ci_8, ci_858993459, ci_9, ci_900, ci_97, ci_99, ci_999, ci_9999, cl_0, cl_1, cl_10, cl_1000000000000, cl_122, cl_2, cl_2000000000000, cl_23, cl_255, cl_27, cl_3, cl_4, cl_48, cl_57, cl_6, cl_8, cl_96, cl_97, cl_99, cl_999, cl_9999]
  repeat' (first | with_reducible refine wO_i ?_ ?_ | with_reducible refine wL_i ?_ | with_reducible refine cB_f (by decide) ?_ | with_reducible refine cB_t (by decide) ?_ | with_reducible refine cB_i (fun _ => ?_) (fun _ => ?_) | with_reducible refine jn0_i ?_ | with_reducible refine jn1_i ?_ | with_reducible refine jn2_i ?_ | with_reducible refine jn3_i ?_ | with_reducible refine jn4_i ?_ | with_reducible refine jn5_i ?_ | with_reducible refine jn6_i ?_)
  all_goals first | exact h _ _ _ (by omega) (by omega) (fun e => e) | skip
  all_goals exact sp_fail (cB_i (fun _ => by repeat' (first | with_reducible refine wO_i ?_ ?_ | with_reducible refine wL_i ?_ | with_reducible refine cB_f (by decide) ?_ | with_reducible refine cB_t (by decide) ?_ | with_reducible refine cB_i (fun _ => ?_) (fun _ => ?_) | with_reducible refine jn0_i ?_ | with_reducible refine jn1_i ?_ | with_reducible refine jn2_i ?_ | with_reducible refine jn3_i ?_ | with_reducible refine jn4_i ?_ | with_reducible refine jn5_i ?_ | with_reducible refine jn6_i ?_); exact h _ _ _ (by omega) (by omega) (by omega)) (fun _ => by repeat' (first | with_reducible refine wO_i ?_ ?_ | with_reducible refine wL_i ?_ | with_reducible refine cB_f (by decide) ?_ | with_reducible refine cB_t (by decide) ?_ | with_reducible refine cB_i (fun _ => ?_) (fun _ => ?_) | with_reducible refine jn0_i ?_ | with_reducible refine jn1_i ?_ | with_reducible refine jn2_i ?_ | with_reducible refine jn3_i ?_ | with_reducible refine jn4_i ?_ | with_reducible refine jn5_i ?_ | with_reducible refine jn6_i ?_); exact h _ _ _ (by omega) (by omega) (fun e => e)))
