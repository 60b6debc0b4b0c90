/-! the class: reading a hall -/
def dI (f dp dt dl : Int) (dw ds dx : Int → Int) : Prop := 0 ≤ dp ∧ dp ≤ 24 ∧ (∀ q, 0 ≤ q → q < dp → 0 ≤ dw q ∧ dw q ≤ 122) ∧ (f = 0 → 0 ≤ dt ∧ dt ≤ 20 ∧ 0 ≤ dl ∧ dl ≤ 20 ∧ (∀ k, 0 ≤ k → k < 12 → 0 ≤ ds k ∧ ds k ≤ 100) ∧ ∀ k, 0 ≤ k → k < 3 → 0 ≤ dx k ∧ dx k ≤ 9)
theorem dI_f {f f' dp dt dl : Int} {dw ds dx : Int → Int} (h : dI f dp dt dl dw ds dx) (e : f' = 0 → f = 0) : dI f' dp dt dl dw ds dx := ⟨h.1, h.2.1, h.2.2.1, fun e2 => h.2.2.2 (e e2)⟩
theorem st_readRow {n p f a ff dp dt dl : Int} {F dk dw ds dx : Int → Int} {Q : Int → Int → Int → Int → Int → (Int → Int) → (Int → Int) → Prop} (hn : 0 ≤ n ∧ n ≤ 240) (ha : 0 ≤ a ∧ a ≤ n) (hf : 0 ≤ f ∧ f ≤ 5) (hd : dI f dp dt dl dw ds dx) (h : ∀ p' f' a' ff' dp' dk' dw', 0 ≤ f' → f' ≤ 5 → a ≤ a' → a' ≤ n → dI f' dp' dt dl dw' ds dx → Q p' f' a' ff' dp' dk' dw') : nf_Reader_readRow n p f a ff F dp dk dw Q := by
  unfold nf_Reader_readRow
  simp only [ci_m1, ci_m10, ci_m1001, ci_m1002, ci_m1003, ci_m1004, ci_0, ci_1, ci_10, ci_100, ci_1000, ci_10000, ci_101, ci_103, ci_104, ci_105, ci_107, ci_108, ci_110, ci_111, ci_114, ci_115, ci_116, ci_118, ci_119, ci_12, ci_122, ci_1431655765, ci_15, ci_16, ci_2, ci_20, ci_23, ci_24, ci_240, ci_252645135, ci_255, ci_256, ci_3, ci_32, ci_4, ci_420, ci_48, ci_5, ci_5040, ci_57, ci_59, ci_6, ci_60, ci_63, ci_64, ci_7, ci_70, ci_8, ci_858993459, ci_9, ci_900, ci_97, ci_99, ci_999, ci_9999, cl_0, cl_1, cl_10, cl_1000000000000, cl_122, cl_2, cl_2000000000000, cl_23, cl_255, cl_27, cl_3, cl_4, cl_48, cl_57, cl_6, cl_8, cl_96, cl_97, cl_99, cl_999, cl_9999]
  have hd0 := hd
  obtain ⟨d1, d2, d3, d4⟩ := hd0
  refine st_needWord (by decide) hn ha hf (fun p1 f1 a1 b1 b2 b3 b4 b5 => st_needNumber hn ⟨by omega, b5⟩ ⟨b1, b2⟩ (fun r2 p2 f2 a2 ff2 c1 c2 c3 c4 c5 c6 c7 => ?_))
  refine wO_i (by (try simp only [iR]); omega) (jn2_s (fun p' f' => 0 ≤ f' ∧ f' ≤ 5 ∧ (f' = 0 → f2 = 0)) (fun p3 f3 hf3 => ?_) ?_)
  · refine st_needWord (by decide) hn ⟨by omega, c7⟩ ⟨hf3.1, hf3.2.1⟩ (fun p4 f4 a4 g1 g2 g3 g4 g5 => st_needNumber hn ⟨by omega, g5⟩ ⟨g1, g2⟩ (fun r5 p5 f5 a5 ff5 k1 k2 k3 k4 k5 k6 k7 => ?_))
    refine st_needWord (by decide) hn ⟨by omega, k7⟩ ⟨k3, k4⟩ (fun p6 f6 a6 m1 m2 m3 m4 m5 => st_needNumber hn ⟨by omega, m5⟩ ⟨m1, m2⟩ (fun r7 p7 f7 a7 ff7 n1 n2 n3 n4 n5 n6 n7 => ?_))
    refine st_needEnd hn ⟨by omega, n7⟩ ⟨n3, n4⟩ (fun p8 f8 a8 q1 q2 q3 q4 q5 => cB_i (fun e => ?_) (fun _ => h _ _ _ _ _ _ _ q1 q2 (by omega) q5 (dI_f hd (by omega))))
    refine st_addRow ⟨d1, d2⟩ ⟨by omega, by omega⟩ ⟨by omega, by omega⟩ d3 (fun p9 k9 w9 s1 s2 s3 => h _ _ _ _ _ _ _ q1 q2 (by omega) q5 ⟨s1, s2, s3, fun e2 => d4 (by omega)⟩)
  · refine cB_i (fun _ => ⟨c3, c4, fun e => e⟩) (fun _ => sp_fail (cB_i (fun _ => ⟨by omega, by omega, by omega⟩) (fun _ => ⟨c3, c4, fun e => e⟩)))
theorem st_readOdds {n p f a ff tb dp dt dl : Int} {F dw ds dx : Int → Int} {Q : Int → Int → Int → Int → Int → (Int → Int) → Prop} (hn : 0 ≤ n ∧ n ≤ 240) (ha : 0 ≤ a ∧ a ≤ n) (hf : 0 ≤ f ∧ f ≤ 5) (hd : dI f dp dt dl dw ds dx) (h : ∀ p' f' a' ff' tb' ds', 0 ≤ f' → f' ≤ 5 → a ≤ a' → a' ≤ n → dI f' dp dt dl dw ds' dx → Q p' f' a' ff' tb' ds') : nf_Reader_readOdds n p f a ff tb F ds Q := by
  unfold nf_Reader_readOdds
  simp only [ci_m1, ci_m10, ci_m1001, ci_m1002, ci_m1003, ci_m1004, ci_0, ci_1, ci_10, ci_100, ci_1000, ci_10000, ci_101, ci_103, ci_104, ci_105, ci_107, ci_108, ci_110, ci_111, ci_114, ci_115, ci_116, ci_118, ci_119, ci_12, ci_122, ci_1431655765, ci_15, ci_16, ci_2, ci_20, ci_23, ci_24, ci_240, ci_252645135, ci_255, ci_256, ci_3, ci_32, ci_4, ci_420, ci_48, ci_5, ci_5040, ci_57, ci_59, ci_6, ci_60, ci_63, ci_64, ci_7, ci_70, ci_8, ci_858993459, ci_9, ci_900, ci_97, ci_99, ci_999, ci_9999, cl_0, cl_1, cl_10, cl_1000000000000, cl_122, cl_2, cl_2000000000000, cl_23, cl_255, cl_27, cl_3, cl_4, cl_48, cl_57, cl_6, cl_8, cl_96, cl_97, cl_99, cl_999, cl_9999]
  have hd0 := hd
  obtain ⟨d1, d2, d3, d4⟩ := hd0
  refine st_needWord (by decide) hn ha hf (fun p1 f1 a1 b1 b2 b3 b4 b5 => st_needNumber hn ⟨by omega, b5⟩ ⟨b1, b2⟩ (fun r2 p2 f2 a2 ff2 c1 c2 c3 c4 c5 c6 c7 => wL_i ?_))
  refine st_tellOnce ⟨c3, c4⟩ (fun p3 f3 t3 e1 e2 e3 => st_needNumber hn ⟨by omega, c7⟩ ⟨e1, e2⟩ (fun r4 p4 f4 a4 ff4 g1 g2 g3 g4 g5 g6 g7 => ?_))
  refine st_needNumber hn ⟨by omega, g7⟩ ⟨g3, g4⟩ (fun r5 p5 f5 a5 ff5 k1 k2 k3 k4 k5 k6 k7 => st_needNumber hn ⟨by omega, k7⟩ ⟨k3, k4⟩ (fun r6 p6 f6 a6 ff6 m1 m2 m3 m4 m5 m6 m7 => ?_))
  refine wO_i (by (try simp only [iR]); omega) (wO_i (by (try simp only [iR]); omega) (jn2_s (fun p' f' => 0 ≤ f' ∧ f' ≤ 5 ∧ (f' = 0 → f6 = 0)) (fun p7 f7 hf7 => ?_) ?_))
  · refine st_needEnd hn ⟨by omega, m7⟩ ⟨hf7.1, hf7.2.1⟩ (fun p8 f8 a8 q1 q2 q3 q4 q5 => ?_)
    refine st_tellShares (fun hs => h _ _ _ _ _ _ q1 q2 (by omega) q5 (dI_f hd (by omega))) (fun s1 s2 S' s3 s4 s5 s6 => h _ _ _ _ _ _ q1 q2 (by omega) q5 ⟨d1, d2, d3, fun e => ?_⟩)
    have d5 := d4 (by omega)
    refine ⟨d5.1, d5.2.1, d5.2.2.1, d5.2.2.2.1, fun k k1 k2 => ?_, d5.2.2.2.2.2⟩
    by_cases e0 : k = r2 * 3
    · subst e0; omega
    · by_cases e1 : k = r2 * 3 + 1
      · subst e1; omega
      · by_cases e2 : k = r2 * 3 + 2
        · subst e2; omega
        · rw [s3 k e0 e1 e2]; exact d5.2.2.2.2.1 k k1 k2
  · refine cB_i (fun _ => ⟨m3, m4, fun e => e⟩) (fun _ => sp_fail (cB_i (fun _ => ⟨by omega, by omega, by omega⟩) (fun _ => ⟨m3, m4, fun e => e⟩)))
theorem st_readWeights {n p f a ff dp dt dl : Int} {F dw ds dx : Int → Int} {Q : Int → Int → Int → Int → (Int → Int) → Prop} (hn : 0 ≤ n ∧ n ≤ 240) (ha : 0 ≤ a ∧ a ≤ n) (hf : 0 ≤ f ∧ f ≤ 5) (hd : dI f dp dt dl dw ds dx) (h : ∀ p' f' a' ff' dx', 0 ≤ f' → f' ≤ 5 → a ≤ a' → a' ≤ n → dI f' dp dt dl dw ds dx' → Q p' f' a' ff' dx') : nf_Reader_readWeights n p f a ff F dx Q := by
  unfold nf_Reader_readWeights
  unfold nf_Hall_tellWeights
  simp only [ci_m1, ci_m10, ci_m1001, ci_m1002, ci_m1003, ci_m1004, ci_0, ci_1, ci_10, ci_100, ci_1000, ci_10000, ci_101, ci_103, ci_104, ci_105, ci_107, ci_108, ci_110, ci_111, ci_114, ci_115, ci_116, ci_118, ci_119, ci_12, ci_122, ci_1431655765, ci_15, ci_16, ci_2, ci_20, ci_23, ci_24, ci_240, ci_252645135, ci_255, ci_256, ci_3, ci_32, ci_4, ci_420, ci_48, ci_5, ci_5040, ci_57, ci_59, ci_6, ci_60, ci_63, ci_64, ci_7, ci_70, ci_8, ci_858993459, ci_9, ci_900, ci_97, ci_99, ci_999, ci_9999, cl_0, cl_1, cl_10, cl_1000000000000, cl_122, cl_2, cl_2000000000000, cl_23, cl_255, cl_27, cl_3, cl_4, cl_48, cl_57, cl_6, cl_8, cl_96, cl_97, cl_99, cl_999, cl_9999]
  have hd0 := hd
  obtain ⟨d1, d2, d3, d4⟩ := hd0
  refine st_needWord (by decide) hn ha hf (fun p1 f1 a1 b1 b2 b3 b4 b5 => st_needNumber hn ⟨by omega, b5⟩ ⟨b1, b2⟩ (fun r2 p2 f2 a2 ff2 c1 c2 c3 c4 c5 c6 c7 => ?_))
  refine st_needNumber hn ⟨by omega, c7⟩ ⟨c3, c4⟩ (fun r5 p5 f5 a5 ff5 k1 k2 k3 k4 k5 k6 k7 => st_needNumber hn ⟨by omega, k7⟩ ⟨k3, k4⟩ (fun r6 p6 f6 a6 ff6 m1 m2 m3 m4 m5 m6 m7 => ?_))
  refine st_needEnd hn ⟨by omega, m7⟩ ⟨m3, m4⟩ (fun p8 f8 a8 q1 q2 q3 q4 q5 => ?_)
  repeat' (first | with_reducible refine wO_i ?_ ?_ | with_reducible refine wL_i ?_ | with_reducible refine cB_f (by decide) ?_ | with_reducible refine cB_t (by decide) ?_ | with_reducible refine cB_i (fun _ => ?_) (fun _ => ?_) | with_reducible refine jn0_i ?_ | with_reducible refine jn1_i ?_ | with_reducible refine jn2_i ?_ | with_reducible refine jn3_i ?_ | with_reducible refine jn4_i ?_ | with_reducible refine jn5_i ?_ | with_reducible refine jn6_i ?_)
  all_goals (try (simp only [iR, lR, inb, bZ, dOK, or_true, true_or, true_and, and_true] at *)); all_goals (try omega)
  refine h _ _ _ _ _ q1 q2 (by omega) q5 ⟨d1, d2, d3, fun e => ?_⟩
  have d5 := d4 (by omega)
  refine ⟨d5.1, d5.2.1, d5.2.2.1, d5.2.2.2.1, d5.2.2.2.2.1, fun k k1 k2 => ?_⟩
  rcases (show k = 0 ∨ k = 1 ∨ k = 2 by omega) with rfl | rfl | rfl
  · rw [ups_n (by omega), ups_n (by omega), ups_s]; omega
  · rw [ups_n (by omega), ups_s]; omega
  · rw [ups_s]; omega
theorem st_readClause {n p f a ff tb dp dt dl : Int} {F dk dw ds dx : Int → Int} {Q : Int → Int → Int → Int → Int → Int → Int → Int → (Int → Int) → (Int → Int) → (Int → Int) → (Int → Int) → Prop} (hn : 0 ≤ n ∧ n ≤ 240) (ha : 0 ≤ a ∧ a ≤ n) (hf : 0 ≤ f ∧ f ≤ 5) (hd : dI f dp dt dl dw ds dx) (h : ∀ p' f' a' ff' tb' dp' dt' dl' dk' dw' ds' dx', 0 ≤ f' → f' ≤ 5 → a ≤ a' → a' ≤ n → dI f' dp' dt' dl' dw' ds' dx' → Q p' f' a' ff' tb' dp' dt' dl' dk' dw' ds' dx') : nf_Reader_readClause n p f a ff tb F dp dt dl dk dw ds dx Q := by
  unfold nf_Reader_readClause
  simp only [ci_m1, ci_m10, ci_m1001, ci_m1002, ci_m1003, ci_m1004, ci_0, ci_1, ci_10, ci_100, ci_1000, ci_10000, ci_101, ci_103, ci_104, ci_105, ci_107, ci_108, ci_110, ci_111, ci_114, ci_115, ci_116, ci_118, ci_119, ci_12, ci_122, ci_1431655765, ci_15, ci_16, ci_2, ci_20, ci_23, ci_24, ci_240, ci_252645135, ci_255, ci_256, ci_3, ci_32, ci_4, ci_420, ci_48, ci_5, ci_5040, ci_57, ci_59, ci_6, ci_60, ci_63, ci_64, ci_7, ci_70, ci_8, ci_858993459, ci_9, ci_900, ci_97, ci_99, ci_999, ci_9999, cl_0, cl_1, cl_10, cl_1000000000000, cl_122, cl_2, cl_2000000000000, cl_23, cl_255, cl_27, cl_3, cl_4, cl_48, cl_57, cl_6, cl_8, cl_96, cl_97, cl_99, cl_999, cl_9999]
  have hd0 := hd
  obtain ⟨d1, d2, d3, d4⟩ := hd0
  refine st_isHere (by decide) hn ha (fun _ => cB_f (by decide) ?_) (cB_t rfl ?_)
  · exact st_readRow hn ha hf hd (fun p' f' a' ff' dp' dk' dw' e1 e2 e3 e4 e5 => h _ _ _ _ _ _ _ _ _ _ _ _ e1 e2 e3 e4 e5)
  refine st_isHere (by decide) hn ha (fun _ => cB_f (by decide) ?_) (cB_t rfl ?_)
  · exact st_readOdds hn ha hf hd (fun p' f' a' ff' tb' ds' e1 e2 e3 e4 e5 => h _ _ _ _ _ _ _ _ _ _ _ _ e1 e2 e3 e4 e5)
  refine st_isHere (by decide) hn ha (fun _ => cB_f (by decide) ?_) (cB_t rfl ?_)
  · exact st_tellOnce hf (fun p3 f3 t3 b1 b2 b3 => st_readWeights hn ha ⟨b1, b2⟩ (dI_f hd b3) (fun p' f' a' ff' dx' e1 e2 e3 e4 e5 => h _ _ _ _ _ _ _ _ _ _ _ _ e1 e2 e3 e4 e5))
  refine st_isHere (by decide) hn ha (fun _ => cB_f (by decide) ?_) (cB_t rfl ?_)
  · refine st_tellOnce hf (fun p3 f3 t3 b1 b2 b3 => st_needWord (by decide) hn ha ⟨b1, b2⟩ (fun p4 f4 a4 c1 c2 c3 c4 c5 => st_needNumber hn ⟨by omega, c5⟩ ⟨c1, c2⟩ (fun r5 p5 f5 a5 ff5 k1 k2 k3 k4 k5 k6 k7 => st_needEnd hn ⟨by omega, k7⟩ ⟨k3, k4⟩ (fun p8 f8 a8 q1 q2 q3 q4 q5 => h _ _ _ _ _ _ _ _ _ _ _ _ q1 q2 (by omega) q5 ⟨d1, d2, d3, fun e => ?_⟩))))
    have d5 := d4 (by omega)
    exact ⟨by omega, by omega, d5.2.2.1, d5.2.2.2.1, d5.2.2.2.2⟩
  refine st_isHere (by decide) hn ha (fun _ => cB_f (by decide) ?_) (cB_t rfl ?_)
  · refine st_tellOnce hf (fun p3 f3 t3 b1 b2 b3 => st_needWord (by decide) hn ha ⟨b1, b2⟩ (fun p4 f4 a4 c1 c2 c3 c4 c5 => st_needNumber hn ⟨by omega, c5⟩ ⟨c1, c2⟩ (fun r5 p5 f5 a5 ff5 k1 k2 k3 k4 k5 k6 k7 => st_needEnd hn ⟨by omega, k7⟩ ⟨k3, k4⟩ (fun p8 f8 a8 q1 q2 q3 q4 q5 => h _ _ _ _ _ _ _ _ _ _ _ _ q1 q2 (by omega) q5 ⟨d1, d2, d3, fun e => ?_⟩))))
    have d5 := d4 (by omega)
    exact ⟨d5.1, d5.2.1, by omega, by omega, d5.2.2.2.2⟩
  · exact sp_fail (cB_i (fun _ => h _ _ _ _ _ _ _ _ _ _ _ _ (by omega) (by omega) (by omega) (by omega) (dI_f hd (by omega))) (fun _ => h _ _ _ _ _ _ _ _ _ _ _ _ hf.1 hf.2 (by omega) (by omega) hd))
theorem st_read {n p f a ff tb dp dt dl : Int} {F dk dw ds dx : Int → Int} {Q : Int → Int → Int → Int → Int → Int → Int → Int → Int → Int → (Int → Int) → (Int → Int) → (Int → Int) → (Int → Int) → Prop} (hn : 0 ≤ n ∧ n ≤ 240) (h : ∀ p' f' a' ff' tb' dp' dt' dl' dk' dw' ds' dx', 0 ≤ f' → f' ≤ 5 → dI f' dp' dt' dl' dw' ds' dx' → Q f' 0 p' f' a' ff' tb' dp' dt' dl' dk' dw' ds' dx') : nf_Reader_read n p f a ff tb F dp dt dl dk dw ds dx Q := by
  unfold nf_Reader_read
  simp only [ci_m1, ci_m10, ci_m1001, ci_m1002, ci_m1003, ci_m1004, ci_0, ci_1, ci_10, ci_100, ci_1000, ci_10000, ci_101, ci_103, ci_104, ci_105, ci_107, ci_108, ci_110, ci_111, ci_114, ci_115, ci_116, ci_118, ci_119, ci_12, ci_122, ci_1431655765, ci_15, ci_16, ci_2, ci_20, ci_23, ci_24, ci_240, ci_252645135, ci_255, ci_256, ci_3, ci_32, ci_4, ci_420, ci_48, ci_5, ci_5040, ci_57, ci_59, ci_6, ci_60, ci_63, ci_64, ci_7, ci_70, ci_8, ci_858993459, ci_9, ci_900, ci_97, ci_99, ci_999, ci_9999, cl_0, cl_1, cl_10, cl_1000000000000, cl_122, cl_2, cl_2000000000000, cl_23, cl_255, cl_27, cl_3, cl_4, cl_48, cl_57, cl_6, cl_8, cl_96, cl_97, cl_99, cl_999, cl_9999]
  refine st_clear (fun S' X' s1 s2 => st_skipBlanks hn ⟨by omega, hn.1⟩ (fun a1 a2 a3 => ?_))
  refine nlp13_i (fun i _ f' a' _ _ dp' dt' dl' _ dw' ds' dx' => 0 ≤ i ∧ i ≤ 240 ∧ 0 ≤ f' ∧ f' ≤ 5 ∧ 0 ≤ a' ∧ a' ≤ n ∧ dI f' dp' dt' dl' dw' ds' dx') (fun i _ _ _ _ _ _ _ _ _ _ _ _ => (240 - i).toNat) ?_ ⟨by omega, by omega, by omega, by omega, by omega, by omega, ⟨by omega, by omega, by omega, fun _ => ⟨by omega, by omega, by omega, by omega, s1, s2⟩⟩⟩
  intro i p1 f1 a4 ff1 tb1 dp1 dt1 dl1 dk1 dw1 ds1 dx1 hi self hself
  obtain ⟨i1, i2, i3, i4, i5, i6, i7⟩ := hi
  refine jn0_i ?_
  refine cB_i (fun _ => h _ _ _ _ _ _ _ _ _ _ _ _ i3 i4 i7) (fun _ => cB_i (fun _ => cB_i (fun _ => h _ _ _ _ _ _ _ _ _ _ _ _ i3 i4 i7) (fun _ => ?_)) (fun _ => h _ _ _ _ _ _ _ _ _ _ _ _ i3 i4 i7))
  refine st_readClause hn ⟨i5, i6⟩ ⟨i3, i4⟩ i7 (fun p' f' a' ff' tb' dp' dt' dl' dk' dw' ds' dx' e1 e2 e3 e4 e5 => st_skipBlanks hn ⟨by omega, e4⟩ (fun a9 b1 b2 => wO_i (by (try simp only [iR]); omega) (hself _ _ _ _ _ _ _ _ _ _ _ _ _ ⟨by omega, by omega, e1, e2, by omega, b2, e5⟩ (by omega))))
theorem st_hall {en zk ok n p f a ff tb dp dt dl : Int} {F dk dw ds dx : Int → Int} {Q : Int → Int → Int → Int → Int → Int → Int → Int → Int → Int → Int → Int → (Int → Int) → (Int → Int) → (Int → Int) → (Int → Int) → Int → Prop} (hn : 0 ≤ n ∧ n ≤ 240) (hz : 0 ≤ dp ∧ dp ≤ 24) (h : ∀ r zk' ok' n' p' f' a' ff' tb' dp' dt' dl' dk' dw' ds' dx' sw, 0 ≤ n' → n' ≤ 240 → 0 ≤ dp' → dp' ≤ 24 → (sw = 0 ∨ (sw = 1 ∧ dI 0 dp' dt' dl' dw' ds' dx')) → Q r zk' ok' n' p' f' a' ff' tb' dp' dt' dl' dk' dw' ds' dx' sw) : nf_H_hall en zk ok n p f a ff tb F dp dt dl dk dw ds dx Q := by
  unfold nf_H_hall
  simp only [ci_m1, ci_m10, ci_m1001, ci_m1002, ci_m1003, ci_m1004, ci_0, ci_1, ci_10, ci_100, ci_1000, ci_10000, ci_101, ci_103, ci_104, ci_105, ci_107, ci_108, ci_110, ci_111, ci_114, ci_115, ci_116, ci_118, ci_119, ci_12, ci_122, ci_1431655765, ci_15, ci_16, ci_2, ci_20, ci_23, ci_24, ci_240, ci_252645135, ci_255, ci_256, ci_3, ci_32, ci_4, ci_420, ci_48, ci_5, ci_5040, ci_57, ci_59, ci_6, ci_60, ci_63, ci_64, ci_7, ci_70, ci_8, ci_858993459, ci_9, ci_900, ci_97, ci_99, ci_999, ci_9999, cl_0, cl_1, cl_10, cl_1000000000000, cl_122, cl_2, cl_2000000000000, cl_23, cl_255, cl_27, cl_3, cl_4, cl_48, cl_57, cl_6, cl_8, cl_96, cl_97, cl_99, cl_999, cl_9999]
  refine cB_i (fun _ => ?_) (fun _ => h _ _ _ _ _ _ _ _ _ _ _ _ _ _ _ _ _ hn.1 hn.2 hz.1 hz.2 (Or.inl rfl))
  refine st_read hn (fun p' f' a' ff' tb' dp' dt' dl' dk' dw' ds' dx' e1 e2 e3 => cB_i (fun e => ?_) (fun e => ?_))
  · show Q _ _ _ _ _ _ _ _ _ _ _ _ _ _ _ _ 1
    exact h _ _ _ _ _ _ _ _ _ _ _ _ _ _ _ _ _ (by omega) (by omega) e3.1 e3.2.1 (Or.inr ⟨rfl, dI_f e3 (fun _ => e)⟩)
  · exact wO_i (by (try simp only [iR]); omega) (h _ _ _ _ _ _ _ _ _ _ _ _ _ _ _ _ _ (by omega) (by omega) e3.1 e3.2.1 (Or.inl rfl))
