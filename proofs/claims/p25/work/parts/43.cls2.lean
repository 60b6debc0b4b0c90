/-! the class: nights, plans, matchings -/
theorem dv_le {a b c : Int} (hc : 0 < c) (ha : 0 ≤ a) (hb : 0 ≤ b) (h : a + b ≤ 1000 * c) : 0 ≤ a / c ∧ 0 ≤ b / c ∧ a / c + b / c ≤ 1000 := by
  have h1 := Int.ediv_mul_le a (Int.ne_of_gt hc)
  have h2 := Int.ediv_mul_le b (Int.ne_of_gt hc)
  refine ⟨Int.ediv_nonneg ha (Int.le_of_lt hc), Int.ediv_nonneg hb (Int.le_of_lt hc), ?_⟩
  have h3 : (a / c + b / c) * c ≤ 1000 * c := by rw [Int.add_mul]; omega
  exact Int.le_of_mul_le_mul_right h3 hc
theorem mulb {a b A B : Int} (h1 : 0 ≤ a) (h2 : a ≤ A) (h3 : 0 ≤ b) (h4 : b ≤ B) : 0 ≤ a * b ∧ a * b ≤ A * B := ⟨Int.mul_nonneg h1 h3, Int.mul_le_mul h2 h4 h3 (Int.le_trans h1 h2)⟩
theorem st_oddsOf {L : Int → Int} {a b c : Int} {Q : Int → Prop} (hL : ∀ k, 0 ≤ k → k < 24 → 0 ≤ L k ∧ L k ≤ 59940) (h : ∀ r, 0 ≤ r → r ≤ 1000 → Q r) : nf_Nights_oddsOf L a b c Q := by
  unfold nf_Nights_oddsOf
  simp only [ci_m1, ci_m10, ci_m1001, ci_m1002, ci_m1003, ci_m1004, ci_0, ci_1, ci_10, ci_100, ci_1000, ci_10000, ci_101, ci_103, ci_104, ci_105, ci_107, ci_108, ci_110, ci_111, ci_114, ci_115, ci_116, ci_118, ci_119, ci_12, ci_122, ci_1431655765, ci_15, ci_16, ci_2, ci_20, ci_23, ci_24, ci_240, ci_252645135, ci_255, ci_256, ci_3, ci_32, ci_4, ci_420, ci_48, ci_5, ci_5040, ci_57, ci_59, ci_6, ci_60, ci_63, ci_64, ci_7, ci_70, ci_8, ci_858993459, ci_9, ci_900, ci_97, ci_99, ci_999, ci_9999, cl_0, cl_1, cl_10, cl_1000000000000, cl_122, cl_2, cl_2000000000000, cl_23, cl_255, cl_27, cl_3, cl_4, cl_48, cl_57, cl_6, cl_8, cl_96, cl_97, cl_99, cl_999, cl_9999]
  refine sp_within (cB_i (fun h1 => ?_) (fun _ => cB_t rfl (h _ (by omega) (by omega))))
  refine cB_f (by decide) (sp_within (cB_i (fun h2 => ?_) (fun _ => cB_t rfl (h _ (by omega) (by omega)))))
  refine cB_f (by decide) ?_
  have k0 := hL (a * 2 * 3 + b * 3) (by omega) (by omega)
  have k1 := hL ((a * 2 + b) * 3) (by omega) (by omega)
  have k2 := hL ((a * 2 + b) * 3 + 1) (by omega) (by omega)
  have k3 := hL ((a * 2 + b) * 3 + 2) (by omega) (by omega)
  have kd := dv_le (a := 1000 * (L ((a * 2 + b) * 3) + 1)) (b := 1000 * (L ((a * 2 + b) * 3 + 1) + 1)) (c := L ((a * 2 + b) * 3) + L ((a * 2 + b) * 3 + 1) + L ((a * 2 + b) * 3 + 2) + 3) (by omega) (by omega) (by omega) (by omega)
  rw [← Int.tdiv_eq_ediv_of_nonneg (show (0 : Int) ≤ 1000 * (L ((a * 2 + b) * 3) + 1) by omega), ← Int.tdiv_eq_ediv_of_nonneg (show (0 : Int) ≤ 1000 * (L ((a * 2 + b) * 3 + 1) + 1) by omega)] at kd
  repeat' (first | with_reducible refine wO_i ?_ ?_ | with_reducible refine wL_i ?_ | with_reducible refine cB_f (by decide) ?_ | with_reducible refine cB_t (by decide) ?_ | with_reducible refine cB_i (fun _ => ?_) (fun _ => ?_) | with_reducible refine jn0_i ?_ | with_reducible refine jn1_i ?_ | with_reducible refine jn2_i ?_ | with_reducible refine jn3_i ?_ | with_reducible refine jn4_i ?_ | with_reducible refine jn5_i ?_ | with_reducible refine jn6_i ?_)
  all_goals (try (simp only [iR, lR, inb, bZ, dOK, or_true, true_or, true_and, and_true] at *)); all_goals (try omega)
  all_goals first | exact h _ (by omega) (by omega) | skip
theorem st_oddsInPlace {np nw s p : Int} {L S : Int → Int} {Q : Int → Prop} (hL : ∀ k, 0 ≤ k → k < 24 → 0 ≤ L k ∧ L k ≤ 59940) (hS : ∀ k, 0 ≤ k → k < 12 → 0 ≤ S k ∧ S k ≤ 100) (h : ∀ r, 0 ≤ r → r ≤ 1000 → Q r) : nf_H_oddsInPlace np nw L S s p Q := by
  unfold nf_H_oddsInPlace
  simp only [ci_m1, ci_m10, ci_m1001, ci_m1002, ci_m1003, ci_m1004, ci_0, ci_1, ci_10, ci_100, ci_1000, ci_10000, ci_101, ci_103, ci_104, ci_105, ci_107, ci_108, ci_110, ci_111, ci_114, ci_115, ci_116, ci_118, ci_119, ci_12, ci_122, ci_1431655765, ci_15, ci_16, ci_2, ci_20, ci_23, ci_24, ci_240, ci_252645135, ci_255, ci_256, ci_3, ci_32, ci_4, ci_420, ci_48, ci_5, ci_5040, ci_57, ci_59, ci_6, ci_60, ci_63, ci_64, ci_7, ci_70, ci_8, ci_858993459, ci_9, ci_900, ci_97, ci_99, ci_999, ci_9999, cl_0, cl_1, cl_10, cl_1000000000000, cl_122, cl_2, cl_2000000000000, cl_23, cl_255, cl_27, cl_3, cl_4, cl_48, cl_57, cl_6, cl_8, cl_96, cl_97, cl_99, cl_999, cl_9999]
  refine cB_i (fun _ => ?_) (fun _ => ?_)
  · refine sp_shareOf (cB_i (fun a => ?_) (fun _ => h _ (by omega) (by omega)))
    have := hS (s * 3 + p) (by omega) (by omega)
    exact h _ (by omega) (by omega)
  · exact st_oddsOf hL h
theorem st_expectedOf {np nw n g : Int} {gs L S X : Int → Int} {Q : Int → Prop} (hL : ∀ k, 0 ≤ k → k < 24 → 0 ≤ L k ∧ L k ≤ 59940) (hS : ∀ k, 0 ≤ k → k < 12 → 0 ≤ S k ∧ S k ≤ 100) (hX : ∀ k, 0 ≤ k → k < 3 → 0 ≤ X k ∧ X k ≤ 9) (h : ∀ r, 0 ≤ r → r ≤ 27000 → Q r) : nf_H_expectedOf np nw n gs L S X g Q := by
  unfold nf_H_expectedOf
  simp only [ci_m1, ci_m10, ci_m1001, ci_m1002, ci_m1003, ci_m1004, ci_0, ci_1, ci_10, ci_100, ci_1000, ci_10000, ci_101, ci_103, ci_104, ci_105, ci_107, ci_108, ci_110, ci_111, ci_114, ci_115, ci_116, ci_118, ci_119, ci_12, ci_122, ci_1431655765, ci_15, ci_16, ci_2, ci_20, ci_23, ci_24, ci_240, ci_252645135, ci_255, ci_256, ci_3, ci_32, ci_4, ci_420, ci_48, ci_5, ci_5040, ci_57, ci_59, ci_6, ci_60, ci_63, ci_64, ci_7, ci_70, ci_8, ci_858993459, ci_9, ci_900, ci_97, ci_99, ci_999, ci_9999, cl_0, cl_1, cl_10, cl_1000000000000, cl_122, cl_2, cl_2000000000000, cl_23, cl_255, cl_27, cl_3, cl_4, cl_48, cl_57, cl_6, cl_8, cl_96, cl_97, cl_99, cl_999, cl_9999]
  refine sp_knows (cB_i (fun h1 => ?_) (fun _ => cB_t rfl (h _ (by omega) (by omega))))
  refine cB_f (by decide) ?_
  refine nlp2_i (fun r k => 0 ≤ k ∧ k ≤ 3 ∧ 0 ≤ r ∧ r ≤ 9000 * k) (fun _ k => (3 - k).toNat) ?_ ⟨by omega, by omega, by omega, by omega⟩
  intro r k hi self hself
  obtain ⟨i1, i2, i3, i4⟩ := hi
  refine cB_i (fun _ => h _ (by omega) (by omega)) (fun _ => ?_)
  refine wO_i (by (try simp only [inb]); omega) ?_
  refine st_oddsInPlace hL hS (fun o o1 o2 => ?_)
  refine sp_weightOf (cB_i (fun a => ?_) (fun _ => by omega))
  have hx := hX k (by omega) (by omega)
  have hm := mulb o1 o2 hx.1 hx.2
  repeat' (first | with_reducible refine wO_i ?_ ?_ | with_reducible refine wL_i ?_ | with_reducible refine cB_f (by decide) ?_ | with_reducible refine cB_t (by decide) ?_ | with_reducible refine cB_i (fun _ => ?_) (fun _ => ?_) | with_reducible refine jn0_i ?_ | with_reducible refine jn1_i ?_ | with_reducible refine jn2_i ?_ | with_reducible refine jn3_i ?_ | with_reducible refine jn4_i ?_ | with_reducible refine jn5_i ?_ | with_reducible refine jn6_i ?_)
  all_goals (try (simp only [iR, lR, inb, bZ, dOK, or_true, true_or, true_and, and_true] at *)); all_goals (try omega)
  exact hself _ _ ⟨by omega, by omega, by omega, by omega⟩ (by omega)
theorem st_leastWalkLeft {n k : Int} {hk hw pt : Int → Int} {Q : Int → Prop} (hn : 0 ≤ n ∧ n ≤ 24) (h : ∀ r, -1 ≤ r → r < n → Q r) : nf_Plan_leastWalkLeft n hk hw pt k Q := by
  unfold nf_Plan_leastWalkLeft
  simp only [ci_m1, ci_m10, ci_m1001, ci_m1002, ci_m1003, ci_m1004, ci_0, ci_1, ci_10, ci_100, ci_1000, ci_10000, ci_101, ci_103, ci_104, ci_105, ci_107, ci_108, ci_110, ci_111, ci_114, ci_115, ci_116, ci_118, ci_119, ci_12, ci_122, ci_1431655765, ci_15, ci_16, ci_2, ci_20, ci_23, ci_24, ci_240, ci_252645135, ci_255, ci_256, ci_3, ci_32, ci_4, ci_420, ci_48, ci_5, ci_5040, ci_57, ci_59, ci_6, ci_60, ci_63, ci_64, ci_7, ci_70, ci_8, ci_858993459, ci_9, ci_900, ci_97, ci_99, ci_999, ci_9999, cl_0, cl_1, cl_10, cl_1000000000000, cl_122, cl_2, cl_2000000000000, cl_23, cl_255, cl_27, cl_3, cl_4, cl_48, cl_57, cl_6, cl_8, cl_96, cl_97, cl_99, cl_999, cl_9999]
  refine nlp2_i (fun r p => 0 ≤ p ∧ p ≤ n ∧ -1 ≤ r ∧ r < p) (fun _ p => (n - p).toNat) ?_ ⟨by omega, by omega, by omega, by omega⟩
  intro r p hi self hself
  obtain ⟨i1, i2, i3, i4⟩ := hi
  repeat' (first | with_reducible refine wO_i ?_ ?_ | with_reducible refine wL_i ?_ | with_reducible refine cB_f (by decide) ?_ | with_reducible refine cB_t (by decide) ?_ | with_reducible refine cB_i (fun _ => ?_) (fun _ => ?_) | with_reducible refine jn0_i ?_ | with_reducible refine jn1_i ?_ | with_reducible refine jn2_i ?_ | with_reducible refine jn3_i ?_ | with_reducible refine jn4_i ?_ | with_reducible refine jn5_i ?_ | with_reducible refine jn6_i ?_ | with_reducible refine sp_isOfKind ?_)
  all_goals (try (simp only [iR, lR, inb, bZ, dOK, or_true, true_or, true_and, and_true] at *)); all_goals (try omega)
  all_goals first | exact h _ (by omega) (by omega) | exact hself _ _ ⟨by omega, by omega, by omega, by omega⟩ (by omega)
theorem st_greatestLeft {n : Int} {pe pp : Int → Int} {Q : Int → Prop} (hn : 0 ≤ n ∧ n ≤ 16) (h : ∀ r, -1 ≤ r → r < n → Q r) : nf_Plan_greatestLeft n pe pp Q := by
  unfold nf_Plan_greatestLeft
  simp only [ci_m1, ci_m10, ci_m1001, ci_m1002, ci_m1003, ci_m1004, ci_0, ci_1, ci_10, ci_100, ci_1000, ci_10000, ci_101, ci_103, ci_104, ci_105, ci_107, ci_108, ci_110, ci_111, ci_114, ci_115, ci_116, ci_118, ci_119, ci_12, ci_122, ci_1431655765, ci_15, ci_16, ci_2, ci_20, ci_23, ci_24, ci_240, ci_252645135, ci_255, ci_256, ci_3, ci_32, ci_4, ci_420, ci_48, ci_5, ci_5040, ci_57, ci_59, ci_6, ci_60, ci_63, ci_64, ci_7, ci_70, ci_8, ci_858993459, ci_9, ci_900, ci_97, ci_99, ci_999, ci_9999, cl_0, cl_1, cl_10, cl_1000000000000, cl_122, cl_2, cl_2000000000000, cl_23, cl_255, cl_27, cl_3, cl_4, cl_48, cl_57, cl_6, cl_8, cl_96, cl_97, cl_99, cl_999, cl_9999]
  refine nlp2_i (fun r p => 0 ≤ p ∧ p ≤ n ∧ -1 ≤ r ∧ r < p) (fun _ p => (n - p).toNat) ?_ ⟨by omega, by omega, by omega, by omega⟩
  intro r p hi self hself
  obtain ⟨i1, i2, i3, i4⟩ := hi
  repeat' (first | with_reducible refine wO_i ?_ ?_ | with_reducible refine wL_i ?_ | with_reducible refine cB_f (by decide) ?_ | with_reducible refine cB_t (by decide) ?_ | with_reducible refine cB_i (fun _ => ?_) (fun _ => ?_) | with_reducible refine jn0_i ?_ | with_reducible refine jn1_i ?_ | with_reducible refine jn2_i ?_ | with_reducible refine jn3_i ?_ | with_reducible refine jn4_i ?_ | with_reducible refine jn5_i ?_ | with_reducible refine jn6_i ?_)
  all_goals (try (simp only [iR, lR, inb, bZ, dOK, or_true, true_or, true_and, and_true] at *)); all_goals (try omega)
  all_goals first | exact h _ (by omega) (by omega) | exact hself _ _ ⟨by omega, by omega, by omega, by omega⟩ (by omega)
theorem st_make {n hp sum x : Int} {gk hk hw pe pp pt : Int → Int} {Q : Int → Int → (Int → Int) → (Int → Int) → Prop} (hn : 0 ≤ n ∧ n ≤ 16) (hpn : 0 ≤ hp ∧ hp ≤ 24) (he : ∀ k, 0 ≤ k → k < 16 → 0 ≤ pe k ∧ pe k ≤ 27000) (hw1 : ∀ k, 0 ≤ k → k < hp → 0 ≤ hw k ∧ hw k ≤ 122) (h : ∀ r s f t, (r = 0 ∨ r = 1) → Q r s f t) : nf_Plan_make n gk hp hk hw sum pe pp pt x Q := by
  unfold nf_Plan_make
  simp only [ci_m1, ci_m10, ci_m1001, ci_m1002, ci_m1003, ci_m1004, ci_0, ci_1, ci_10, ci_100, ci_1000, ci_10000, ci_101, ci_103, ci_104, ci_105, ci_107, ci_108, ci_110, ci_111, ci_114, ci_115, ci_116, ci_118, ci_119, ci_12, ci_122, ci_1431655765, ci_15, ci_16, ci_2, ci_20, ci_23, ci_24, ci_240, ci_252645135, ci_255, ci_256, ci_3, ci_32, ci_4, ci_420, ci_48, ci_5, ci_5040, ci_57, ci_59, ci_6, ci_60, ci_63, ci_64, ci_7, ci_70, ci_8, ci_858993459, ci_9, ci_900, ci_97, ci_99, ci_999, ci_9999, cl_0, cl_1, cl_10, cl_1000000000000, cl_122, cl_2, cl_2000000000000, cl_23, cl_255, cl_27, cl_3, cl_4, cl_48, cl_57, cl_6, cl_8, cl_96, cl_97, cl_99, cl_999, cl_9999]
  refine nlp2_i (fun p _ => 0 ≤ p ∧ p ≤ 24) (fun p _ => (24 - p).toNat) ?_ ⟨by omega, by omega⟩
  intro p1 t1 hi1 self1 hself1
  refine cB_i (fun _ => ?_) (fun _ => ?_)
  · refine nlp2_i (fun p _ => 0 ≤ p ∧ p ≤ 16) (fun p _ => (16 - p).toNat) ?_ ⟨by omega, by omega⟩
    intro p2 t2 hi2 self2 hself2
    refine cB_i (fun _ => ?_) (fun _ => ?_)
    · refine nlp4_i (fun i s _ _ => 0 ≤ i ∧ i ≤ n ∧ 0 ≤ s ∧ s ≤ 3294000 * i) (fun i _ _ _ => (n - i).toNat) ?_ ⟨by omega, by omega, by omega, by omega⟩
      intro i s f t hi self hself
      obtain ⟨i1, i2, i3, i4⟩ := hi
      refine cB_i (fun _ => h _ _ _ _ (by omega)) (fun _ => ?_)
      refine jn1_s (fun g => -1 ≤ g ∧ g < 16) (fun g hg => ?_) ?_
      · refine sp_kindOf (cB_i (fun _ => ?_) (fun hz => ?_))
        · refine st_leastWalkLeft hpn (fun q q1 q2 => ?_)
          refine sp_knows (cB_i (fun _ => ?_) (fun _ => cB_t rfl (h _ _ _ _ (by omega))))
          refine cB_f (by decide) (sp_hasPeg (cB_i (fun _ => ?_) (fun _ => cB_t rfl (h _ _ _ _ (by omega)))))
          refine cB_f (by decide) ?_
          have e1 := he g (by omega) (by omega)
          have e2 := hw1 q (by omega) (by omega)
          have e3 := mulb e1.1 e1.2 e2.1 e2.2
          repeat' (first | with_reducible refine wO_i ?_ ?_ | with_reducible refine wL_i ?_ | with_reducible refine cB_f (by decide) ?_ | with_reducible refine cB_t (by decide) ?_ | with_reducible refine cB_i (fun _ => ?_) (fun _ => ?_) | with_reducible refine jn0_i ?_ | with_reducible refine jn1_i ?_ | with_reducible refine jn2_i ?_ | with_reducible refine jn3_i ?_ | with_reducible refine jn4_i ?_ | with_reducible refine jn5_i ?_ | with_reducible refine jn6_i ?_ | with_reducible refine sp_walkOf ?_)
          all_goals (try (simp only [iR, lR, inb, bZ, dOK, or_true, true_or, true_and, and_true] at *)); all_goals (try omega)
          all_goals first | exact hself _ _ _ _ ⟨by omega, by omega, by omega, by omega⟩ (by omega) | skip
        · refine st_leastWalkLeft hpn (fun q q1 q2 => ?_)
          refine sp_knows (cB_i (fun h9 => absurd h9 hz) (fun _ => cB_t rfl (h _ _ _ _ (by omega))))
      · refine cB_i (fun _ => st_greatestLeft hn (fun r r1 r2 => ⟨r1, by omega⟩)) (fun _ => ⟨by omega, by omega⟩)
    · repeat' (first | with_reducible refine wO_i ?_ ?_ | with_reducible refine wL_i ?_ | with_reducible refine cB_f (by decide) ?_ | with_reducible refine cB_t (by decide) ?_ | with_reducible refine cB_i (fun _ => ?_) (fun _ => ?_) | with_reducible refine jn0_i ?_ | with_reducible refine jn1_i ?_ | with_reducible refine jn2_i ?_ | with_reducible refine jn3_i ?_ | with_reducible refine jn4_i ?_ | with_reducible refine jn5_i ?_ | with_reducible refine jn6_i ?_)
      all_goals (try (simp only [iR, lR, inb, bZ, dOK, or_true, true_or, true_and, and_true] at *)); all_goals (try omega)
      exact hself2 _ _ ⟨by omega, by omega⟩ (by omega)
  · repeat' (first | with_reducible refine wO_i ?_ ?_ | with_reducible refine wL_i ?_ | with_reducible refine cB_f (by decide) ?_ | with_reducible refine cB_t (by decide) ?_ | with_reducible refine cB_i (fun _ => ?_) (fun _ => ?_) | with_reducible refine jn0_i ?_ | with_reducible refine jn1_i ?_ | with_reducible refine jn2_i ?_ | with_reducible refine jn3_i ?_ | with_reducible refine jn4_i ?_ | with_reducible refine jn5_i ?_ | with_reducible refine jn6_i ?_)
    all_goals (try (simp only [iR, lR, inb, bZ, dOK, or_true, true_or, true_and, and_true] at *)); all_goals (try omega)
    exact hself1 _ _ ⟨by omega, by omega⟩ (by omega)
def p7 : Nat → Int
  | 0 => 1
  | n + 1 => 7 * p7 n
theorem p7_b : ∀ n, n < 18 → 1 ≤ p7 n ∧ p7 n ≤ 232630513987207 := by decide +kernel
theorem p7_s (t : Int) (h : 0 ≤ t) : p7 (t + 1).toNat = 7 * p7 t.toNat := by
  have : (t + 1).toNat = t.toNat + 1 := by omega
  rw [this]
  rfl
theorem ishl_b : ∀ k : Nat, k < 7 → 1 ≤ ishl 1 (k : Int) ∧ ishl 1 (k : Int) ≤ 64 := by decide +kernel
theorem xor_c : (List.range 7).all (fun k => (List.range k).all (fun c => (List.range 64).all (fun a => decide ((a : Int) < ishl 1 (k : Int) → 0 ≤ ixor (a : Int) (ishl 1 (c : Int)) ∧ ixor (a : Int) (ishl 1 (c : Int)) < ishl 1 (k : Int) ∧ ixor (a : Int) (ishl 1 (c : Int)) ≠ (a : Int))))) = true := by decide +kernel
theorem xor_b (k : Nat) (hk : k < 7) (c : Nat) (hc : c < k) (a : Nat) (ha : a < 64) : (a : Int) < ishl 1 (k : Int) → 0 ≤ ixor (a : Int) (ishl 1 (c : Int)) ∧ ixor (a : Int) (ishl 1 (c : Int)) < ishl 1 (k : Int) ∧ ixor (a : Int) (ishl 1 (c : Int)) ≠ (a : Int) := by
  have h1 := List.all_eq_true.mp xor_c k (List.mem_range.mpr hk)
  have h2 := List.all_eq_true.mp h1 c (List.mem_range.mpr hc)
  have h3 := List.all_eq_true.mp h2 a (List.mem_range.mpr ha)
  exact of_decide_eq_true h3
theorem ishl_bI {k : Int} (h0 : 0 ≤ k) (h1 : k < 7) : 1 ≤ ishl 1 k ∧ ishl 1 k ≤ 64 := by
  have := ishl_b k.toNat (by omega)
  rwa [Int.toNat_of_nonneg h0] at this
theorem xor_bI {k c a : Int} (h1 : k < 7) (h2 : 0 ≤ c) (h3 : c < k) (h4 : 0 ≤ a) (h5 : a < ishl 1 k) : 0 ≤ ixor a (ishl 1 c) ∧ ixor a (ishl 1 c) < ishl 1 k ∧ ixor a (ishl 1 c) ≠ a := by
  have hb := ishl_bI (k := k) (by omega) h1
  have := xor_b k.toNat (by omega) c.toNat (by omega) a.toNat (by omega)
  rw [Int.toNat_of_nonneg h2, Int.toNat_of_nonneg h4, Int.toNat_of_nonneg (by omega)] at this
  exact this h5
theorem xor_lc : (List.range 6).all (fun c => (List.range 64).all (fun a => decide (iand (ishr (a : Int) (c : Int)) 1 = 1 → ixor (a : Int) (ishl 1 (c : Int)) < (a : Int)))) = true := by decide +kernel
theorem xor_l (c : Nat) (hc : c < 6) (a : Nat) (ha : a < 64) : iand (ishr (a : Int) (c : Int)) 1 = 1 → ixor (a : Int) (ishl 1 (c : Int)) < (a : Int) := by
  have h1 := List.all_eq_true.mp xor_lc c (List.mem_range.mpr hc)
  have h2 := List.all_eq_true.mp h1 a (List.mem_range.mpr ha)
  exact of_decide_eq_true h2
theorem xor_lI {c a : Int} (h2 : 0 ≤ c) (h3 : c < 6) (h4 : 0 ≤ a) (h5 : a < 64) (h : iand (ishr a c) 1 = 1) : ixor a (ishl 1 c) < a := by
  have := xor_l c.toNat (by omega) a.toNat (by omega)
  rw [Int.toNat_of_nonneg h2, Int.toNat_of_nonneg h4] at this
  exact this h
theorem st_addWays {k set t : Int} {F W : Int → Int} {M : Int} {Q : (Int → Int) → Prop} (hk : 0 ≤ k ∧ k ≤ 6) (hs : 0 ≤ set ∧ set < ishl 1 k) (hM : 0 ≤ M ∧ M ≤ 1000000000000000000) (hW : ∀ s, 0 ≤ s → s ≤ set → 0 ≤ W s ∧ W s ≤ M) (h : ∀ W', (∀ s, s ≠ set → W' s = W s) → 0 ≤ W' set → W' set ≤ 7 * M → Q W') : nf_Matching_addWays k F W set t Q := by
  unfold nf_Matching_addWays
  simp only [ci_m1, ci_m10, ci_m1001, ci_m1002, ci_m1003, ci_m1004, ci_0, ci_1, ci_10, ci_100, ci_1000, ci_10000, ci_101, ci_103, ci_104, ci_105, ci_107, ci_108, ci_110, ci_111, ci_114, ci_115, ci_116, ci_118, ci_119, ci_12, ci_122, ci_1431655765, ci_15, ci_16, ci_2, ci_20, ci_23, ci_24, ci_240, ci_252645135, ci_255, ci_256, ci_3, ci_32, ci_4, ci_420, ci_48, ci_5, ci_5040, ci_57, ci_59, ci_6, ci_60, ci_63, ci_64, ci_7, ci_70, ci_8, ci_858993459, ci_9, ci_900, ci_97, ci_99, ci_999, ci_9999, cl_0, cl_1, cl_10, cl_1000000000000, cl_122, cl_2, cl_2000000000000, cl_23, cl_255, cl_27, cl_3, cl_4, cl_48, cl_57, cl_6, cl_8, cl_96, cl_97, cl_99, cl_999, cl_9999]
  have hb := ishl_bI (k := k) hk.1 (by omega)
  have h00 := hW set hs.1 (by omega)
  refine nlp2_i (fun c W' => 0 ≤ c ∧ c ≤ k ∧ (∀ s, s ≠ set → W' s = W s) ∧ 0 ≤ W' set ∧ W' set ≤ M * (1 + c)) (fun c _ => (k - c).toNat) ?_ ⟨by omega, by omega, fun _ _ => rfl, by omega, by omega⟩
  intro c W' hi self hself
  obtain ⟨i1, i2, i3, i4, i5⟩ := hi
  have hmm : M * (1 + (c + 1)) = M * (1 + c) + M := by rw [← Int.add_assoc, Int.mul_add, Int.mul_one]
  have hle : M * (1 + c) ≤ M * 7 := Int.mul_le_mul_of_nonneg_left (by omega) hM.1
  refine cB_i (fun _ => h _ i3 i4 (by omega)) (fun hc => wL_i (wL_i ?_))
  have hle2 : M * (1 + c) ≤ M * 6 := Int.mul_le_mul_of_nonneg_left (by omega) hM.1
  have nx : ∀ W2 : Int → Int, (∀ s, s ≠ set → W2 s = W s) → 0 ≤ W2 set → W2 set ≤ M * (1 + (c + 1)) → self (c + 1) W2 := fun W2 a b d => hself _ _ ⟨by omega, by omega, a, b, d⟩ (by omega)
  refine jn1_s (fun t6 => t6 = 0 ∨ (t6 = 1 ∧ iand (ishr set c) 1 = 1)) (fun t6 ht => jn1_i (cB_i (fun _ => wO_i (by (try simp only [iR]); omega) (nx W' i3 i4 (by omega))) (fun h6 => ?_))) ?_
  · rcases ht with ht | ⟨_, ht⟩
    · exact absurd ht h6
    · have x1 := xor_bI (k := k) (c := c) (a := set) (by omega) i1 (by omega) hs.1 hs.2
      have x2 := xor_lI i1 (by omega) hs.1 (by omega) ht
      have w1 := hW (ixor set (ishl 1 c)) x1.1 (by omega)
      have w2 := i3 (ixor set (ishl 1 c)) x1.2.2
      refine wO_i (by (try simp only [inb]); omega) (wL_i (wL_i (wO_i (by (try simp only [inb]); omega) (wO_i (by (try simp only [lR]); omega) (wO_i (by (try simp only [inb]); omega) (wO_i (by (try simp only [iR]); omega) (nx _ ?_ ?_ ?_)))))))
      · intro s hs2
        show (if s = set then _ else W' s) = W s
        rw [if_neg hs2]
        exact i3 s hs2
      · show 0 ≤ (if set = set then _ else _)
        rw [if_pos rfl]; omega
      · show (if set = set then _ else _) ≤ _
        rw [if_pos rfl]; omega
  · refine jn0_i (cB_i (fun h1 => wO_i (by (try simp only [inb]); omega) (wL_i (wL_i (cB_i (fun _ => Or.inr ⟨rfl, h1⟩) (fun _ => Or.inl rfl))))) (fun _ => Or.inl rfl))
theorem st_number {k : Int} {F W : Int → Int} {Q : Int → (Int → Int) → Prop} (hk : 0 ≤ k ∧ k ≤ 6) (h : ∀ r W', 0 ≤ r → Q r W') : nf_Matching_number k F W Q := by
  unfold nf_Matching_number
  simp only [ci_m1, ci_m10, ci_m1001, ci_m1002, ci_m1003, ci_m1004, ci_0, ci_1, ci_10, ci_100, ci_1000, ci_10000, ci_101, ci_103, ci_104, ci_105, ci_107, ci_108, ci_110, ci_111, ci_114, ci_115, ci_116, ci_118, ci_119, ci_12, ci_122, ci_1431655765, ci_15, ci_16, ci_2, ci_20, ci_23, ci_24, ci_240, ci_252645135, ci_255, ci_256, ci_3, ci_32, ci_4, ci_420, ci_48, ci_5, ci_5040, ci_57, ci_59, ci_6, ci_60, ci_63, ci_64, ci_7, ci_70, ci_8, ci_858993459, ci_9, ci_900, ci_97, ci_99, ci_999, ci_9999, cl_0, cl_1, cl_10, cl_1000000000000, cl_122, cl_2, cl_2000000000000, cl_23, cl_255, cl_27, cl_3, cl_4, cl_48, cl_57, cl_6, cl_8, cl_96, cl_97, cl_99, cl_999, cl_9999]
  have hb := ishl_bI (k := k) hk.1 (by omega)
  refine wL_i (wO_i (by (try simp only [iR]); omega) ?_)
  refine nlp2_i (fun _ c => 0 ≤ c ∧ c ≤ k) (fun _ c => (k - c).toNat) ?_ ⟨by omega, by omega⟩
  intro th c hi self hself
  refine cB_i (fun _ => ?_) (fun _ => ?_)
  · refine nlp2_i (fun s W' => 0 ≤ s ∧ s ≤ ishl 1 k ∧ ∀ q, 0 ≤ q → q < s → W' q = 0) (fun s _ => (ishl 1 k - s).toNat) ?_ ⟨by omega, by omega, by omega⟩
    intro s W1 hi1 self1 hself1
    obtain ⟨a1, a2, a3⟩ := hi1
    refine cB_i (fun _ => ?_) (fun _ => ?_)
    · refine wO_i (by (try simp only [inb]); omega) ?_
      refine nlp2_i (fun t W' => 0 ≤ t ∧ t ≤ 16 ∧ ∀ q, 0 ≤ q → q < ishl 1 k → 0 ≤ W' q ∧ W' q ≤ p7 t.toNat) (fun t _ => (16 - t).toNat) ?_ ⟨by omega, by omega, fun q q1 q2 => ?_⟩
      · intro t W2 hi2 self2 hself2
        obtain ⟨b1, b2, b3⟩ := hi2
        have hp := p7_b t.toNat (by omega)
        have hp2 := p7_s t b1
        refine cB_i (fun _ => ?_) (fun _ => wL_i (wL_i ?_))
        · have := b3 (ishl 1 k - 1) (by omega) (by omega)
          exact wO_i (by (try simp only [inb]); omega) (h _ _ this.1)
        · refine jn1_s (fun W' => ∀ q, 0 ≤ q → q < ishl 1 k → 0 ≤ W' q ∧ W' q ≤ p7 (t + 1).toNat) (fun W' hW' => wO_i (by (try simp only [iR]); omega) (hself2 _ _ ⟨by omega, by omega, hW'⟩ (by omega))) ?_
          refine cB_i (fun _ q q1 q2 => ?_) (fun _ => ?_)
          · have := b3 q q1 q2
            omega
          · refine nlp2_i (fun s W' => 0 ≤ s ∧ s < ishl 1 k ∧ (∀ q, 0 ≤ q → q ≤ s → 0 ≤ W' q ∧ W' q ≤ p7 t.toNat) ∧ (∀ q, s < q → q < ishl 1 k → 0 ≤ W' q ∧ W' q ≤ p7 (t + 1).toNat)) (fun s _ => s.toNat) ?_ ⟨by omega, by omega, fun q q1 q2 => b3 q q1 (by omega), by omega⟩
            intro s3 W3 hi3 self3 hself3
            obtain ⟨c1, c2, c3, c4⟩ := hi3
            refine cB_i (fun hz q q1 q2 => ?_) (fun hz => ?_)
            · by_cases e : q ≤ s3
              · have := c3 q q1 e
                omega
              · exact c4 q (by omega) q2
            · refine st_addWays hk ⟨by omega, c2⟩ (M := p7 t.toNat) ⟨by omega, by omega⟩ (fun q q1 q2 => c3 q q1 q2) (fun W4 d1 d2 d3 => ?_)
              refine wO_i (by (try simp only [iR]); omega) (hself3 _ _ ⟨by omega, by omega, fun q q1 q2 => ?_, fun q q1 q2 => ?_⟩ (by omega))
              · rw [d1 q (by omega)]
                exact c3 q q1 (by omega)
              · by_cases e : q = s3
                · subst e; omega
                · rw [d1 q e]
                  exact c4 q (by omega) q2
      · show 0 ≤ (if q = 0 then (1 : Int) else W1 q) ∧ (if q = 0 then (1 : Int) else W1 q) ≤ 1
        by_cases e : q = 0
        · rw [if_pos e]; omega
        · rw [if_neg e, a3 q q1 (by omega)]; omega
    · refine wO_i (by (try simp only [inb]); omega) (wO_i (by (try simp only [iR]); omega) (hself1 _ _ ⟨by omega, by omega, fun q q1 q2 => ?_⟩ (by omega)))
      show (if q = s then (0 : Int) else W1 q) = 0
      by_cases e : q = s
      · rw [if_pos e]
      · rw [if_neg e]; exact a3 q q1 (by omega)
  · refine wO_i (by (try simp only [inb]); omega) (wL_i (wO_i (by (try simp only [iR]); omega) (hself _ _ ⟨by omega, by omega⟩ (by omega))))
theorem st_onlyThingOf {k c : Int} {F W : Int → Int} {Q : Int → (Int → Int) → (Int → Int) → Prop} (hk : 0 ≤ k ∧ k ≤ 6) (h : ∀ r F' W', -1 ≤ r → r < 16 → Q r F' W') : nf_Matching_onlyThingOf k F W c Q := by
  unfold nf_Matching_onlyThingOf
  simp only [ci_m1, ci_m10, ci_m1001, ci_m1002, ci_m1003, ci_m1004, ci_0, ci_1, ci_10, ci_100, ci_1000, ci_10000, ci_101, ci_103, ci_104, ci_105, ci_107, ci_108, ci_110, ci_111, ci_114, ci_115, ci_116, ci_118, ci_119, ci_12, ci_122, ci_1431655765, ci_15, ci_16, ci_2, ci_20, ci_23, ci_24, ci_240, ci_252645135, ci_255, ci_256, ci_3, ci_32, ci_4, ci_420, ci_48, ci_5, ci_5040, ci_57, ci_59, ci_6, ci_60, ci_63, ci_64, ci_7, ci_70, ci_8, ci_858993459, ci_9, ci_900, ci_97, ci_99, ci_999, ci_9999, cl_0, cl_1, cl_10, cl_1000000000000, cl_122, cl_2, cl_2000000000000, cl_23, cl_255, cl_27, cl_3, cl_4, cl_48, cl_57, cl_6, cl_8, cl_96, cl_97, cl_99, cl_999, cl_9999]
  refine wO_i (by (try simp only [iR]); omega) (sp_within (cB_i (fun hc => ?_) (fun _ => cB_t rfl (h _ _ _ (by omega) (by omega)))))
  refine cB_f (by decide) (st_number hk (fun r1 W1 _ => wL_i (cB_i (fun _ => h _ _ _ (by omega) (by omega)) (fun _ => wO_i (by (try simp only [inb]); omega) ?_))))
  refine nlp4_i (fun o t _ _ => 0 ≤ t ∧ t ≤ 16 ∧ -1 ≤ o ∧ o < 16) (fun _ t _ _ => (16 - t).toNat) ?_ ⟨by omega, by omega, by omega, by omega⟩
  intro o t F2 W2 hi self hself
  obtain ⟨i1, i2, i3, i4⟩ := hi
  refine cB_i (fun _ => h _ _ _ i3 i4) (fun _ => wL_i (wL_i ?_))
  refine jn3_s (fun o' _ _ => -1 ≤ o' ∧ o' < 16) (fun o' F' W' ho => wO_i (by (try simp only [iR]); omega) (hself _ _ _ _ ⟨by omega, by omega, ho.1, ho.2⟩ (by omega))) ?_
  refine cB_i (fun _ => ⟨i3, i4⟩) (fun _ => wL_i (wO_i (by (try simp only [inb]); omega) (st_number hk (fun r3 W3 _ => wL_i (cB_i (fun _ => ⟨i3, i4⟩) (fun _ => cB_i (fun _ => ⟨by omega, by omega⟩) (fun _ => h _ _ _ (by omega) (by omega))))))))
theorem st_load {n cn k : Int} {gk gm gp cg cy cz F : Int → Int} {Q : Int → (Int → Int) → Prop} (hn : 0 ≤ n ∧ n ≤ 16) (hc : 0 ≤ cn ∧ cn ≤ 6) (h : ∀ F', Q cn F') : nf_Matching_load n gk gm gp cn cg cy cz k F Q := by
  unfold nf_Matching_load
  simp only [ci_m1, ci_m10, ci_m1001, ci_m1002, ci_m1003, ci_m1004, ci_0, ci_1, ci_10, ci_100, ci_1000, ci_10000, ci_101, ci_103, ci_104, ci_105, ci_107, ci_108, ci_110, ci_111, ci_114, ci_115, ci_116, ci_118, ci_119, ci_12, ci_122, ci_1431655765, ci_15, ci_16, ci_2, ci_20, ci_23, ci_24, ci_240, ci_252645135, ci_255, ci_256, ci_3, ci_32, ci_4, ci_420, ci_48, ci_5, ci_5040, ci_57, ci_59, ci_6, ci_60, ci_63, ci_64, ci_7, ci_70, ci_8, ci_858993459, ci_9, ci_900, ci_97, ci_99, ci_999, ci_9999, cl_0, cl_1, cl_10, cl_1000000000000, cl_122, cl_2, cl_2000000000000, cl_23, cl_255, cl_27, cl_3, cl_4, cl_48, cl_57, cl_6, cl_8, cl_96, cl_97, cl_99, cl_999, cl_9999]
  refine wL_i ?_
  have e : imin cn 6 = cn := by unfold imin; split <;> omega
  rw [e]
  refine nlp2_i (fun c _ => 0 ≤ c ∧ c ≤ cn) (fun c _ => (cn - c).toNat) ?_ ⟨by omega, by omega⟩
  intro c F1 hi self hself
  refine cB_i (fun _ => h _) (fun _ => st_thingsFor hn hc (fun r => wO_i (by (try simp only [inb]); omega) (wO_i (by (try simp only [iR]); omega) (hself _ _ ⟨by omega, by omega⟩ (by omega)))))
