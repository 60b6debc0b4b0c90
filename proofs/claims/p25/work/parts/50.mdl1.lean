/-! the model: the text and its reading -/
theorem sp_code {a b c : Int} {Q : Int → Prop} (ha : 0 ≤ a ∧ a ≤ 255) (hb : 0 ≤ b ∧ b ≤ 255) (hc : 0 ≤ c ∧ c ≤ 255) (h : Q (27 * (27 * (a - 96) + b - 96) + c - 96)) : nf_M_code a b c Q := by
  unfold nf_M_code
  simp only [ci_m1, ci_m10, ci_m1001, ci_m1002, ci_m1003, ci_m1004, ci_0, ci_1, ci_10, ci_100, ci_1000, ci_10000, ci_101, ci_103, ci_104, ci_105, ci_107, ci_108, ci_110, ci_111, ci_114, ci_115, ci_116, ci_118, ci_119, ci_12, ci_122, ci_1431655765, ci_15, ci_16, ci_2, ci_20, ci_23, ci_24, ci_240, ci_252645135, ci_255, ci_256, ci_3, ci_32, ci_4, ci_420, ci_48, ci_5, ci_5040, ci_57, ci_59, ci_6, ci_60, ci_63, ci_64, ci_7, ci_70, ci_8, ci_858993459, ci_9, ci_900, ci_97, ci_99, ci_999, ci_9999, cl_0, cl_1, cl_10, cl_1000000000000, cl_122, cl_2, cl_2000000000000, cl_23, cl_255, cl_27, cl_3, cl_4, cl_48, cl_57, cl_6, cl_8, cl_96, cl_97, cl_99, cl_999, cl_9999]
  repeat' (first | with_reducible refine wO_i ?_ ?_ | with_reducible refine wL_i ?_ | with_reducible refine cB_f (by decide) ?_ | with_reducible refine cB_t (by decide) ?_ | with_reducible refine cB_i (fun _ => ?_) (fun _ => ?_) | with_reducible refine jn0_i ?_ | with_reducible refine jn1_i ?_ | with_reducible refine jn2_i ?_ | with_reducible refine jn3_i ?_ | with_reducible refine jn4_i ?_ | with_reducible refine jn5_i ?_ | with_reducible refine jn6_i ?_)
  all_goals first | exact h | (simp only [lR]; omega)
theorem sp_longer {v d : Int} {Q : Int → Prop} (hv : -100000000000000 ≤ v ∧ v ≤ 100000000000000) (hd : 0 ≤ d ∧ d ≤ 255) (h : Q (27 * v + d - 96)) : nf_M_longer v d Q := by
  unfold nf_M_longer
  simp only [ci_m1, ci_m10, ci_m1001, ci_m1002, ci_m1003, ci_m1004, ci_0, ci_1, ci_10, ci_100, ci_1000, ci_10000, ci_101, ci_103, ci_104, ci_105, ci_107, ci_108, ci_110, ci_111, ci_114, ci_115, ci_116, ci_118, ci_119, ci_12, ci_122, ci_1431655765, ci_15, ci_16, ci_2, ci_20, ci_23, ci_24, ci_240, ci_252645135, ci_255, ci_256, ci_3, ci_32, ci_4, ci_420, ci_48, ci_5, ci_5040, ci_57, ci_59, ci_6, ci_60, ci_63, ci_64, ci_7, ci_70, ci_8, ci_858993459, ci_9, ci_900, ci_97, ci_99, ci_999, ci_9999, cl_0, cl_1, cl_10, cl_1000000000000, cl_122, cl_2, cl_2000000000000, cl_23, cl_255, cl_27, cl_3, cl_4, cl_48, cl_57, cl_6, cl_8, cl_96, cl_97, cl_99, cl_999, cl_9999]
  repeat' (first | with_reducible refine wO_i ?_ ?_ | with_reducible refine wL_i ?_ | with_reducible refine cB_f (by decide) ?_ | with_reducible refine cB_t (by decide) ?_ | with_reducible refine cB_i (fun _ => ?_) (fun _ => ?_) | with_reducible refine jn0_i ?_ | with_reducible refine jn1_i ?_ | with_reducible refine jn2_i ?_ | with_reducible refine jn3_i ?_ | with_reducible refine jn4_i ?_ | with_reducible refine jn5_i ?_ | with_reducible refine jn6_i ?_)
  all_goals first | exact h | (simp only [lR]; omega)
theorem sp_here {n a : Int} {F : Int → Int} {Q : Int → Int → Prop} (hn : 0 ≤ n ∧ n ≤ 240) (ha : 0 ≤ a ∧ a ≤ n) (h : ∀ a', a ≤ a' → a' ≤ n → (∀ k, a ≤ k → k < a' → F k = 32) → (a' < n → F a' ≠ 32 → Q (F a') a') ∧ (a' = n → Q (-1) a')) : nf_M_here n a F Q := by
  unfold nf_M_here
  simp only [ci_m1, ci_m10, ci_m1001, ci_m1002, ci_m1003, ci_m1004, ci_0, ci_1, ci_10, ci_100, ci_1000, ci_10000, ci_101, ci_103, ci_104, ci_105, ci_107, ci_108, ci_110, ci_111, ci_114, ci_115, ci_116, ci_118, ci_119, ci_12, ci_122, ci_1431655765, ci_15, ci_16, ci_2, ci_20, ci_23, ci_24, ci_240, ci_252645135, ci_255, ci_256, ci_3, ci_32, ci_4, ci_420, ci_48, ci_5, ci_5040, ci_57, ci_59, ci_6, ci_60, ci_63, ci_64, ci_7, ci_70, ci_8, ci_858993459, ci_9, ci_900, ci_97, ci_99, ci_999, ci_9999, cl_0, cl_1, cl_10, cl_1000000000000, cl_122, cl_2, cl_2000000000000, cl_23, cl_255, cl_27, cl_3, cl_4, cl_48, cl_57, cl_6, cl_8, cl_96, cl_97, cl_99, cl_999, cl_9999]
  have key : ∀ i, a ≤ i → i ≤ n → (∀ k, a ≤ k → k < i → F k = 32) → ¬ (i < n ∧ F i = 32) → (n ≤ i → Q (-1) i) ∧ (i < n → Q (F i) i) := by
    intro i b1 b2 b3 b4
    exact ⟨fun e => (h i b1 b2 b3).2 (by omega), fun e => (h i b1 b2 b3).1 e (fun e2 => b4 ⟨e, e2⟩)⟩
  refine jn0_s (¬ (a < n ∧ F a = 32)) (fun e => ?_) ?_
  · have k1 := key a (by omega) (by omega) (fun k c1 c2 => by omega) e
    exact cB_i (fun e2 => k1.1 e2) (fun e2 => wO_i (by (try simp only [inb]); omega) (k1.2 (by omega)))
  · refine cB_i (fun e => fun e2 => by omega) (fun _ => wO_i (by (try simp only [inb]); omega) (cB_i (fun e => wO_i (by (try simp only [iR]); omega) ?_) (fun e => fun e2 => e e2.2)))
    refine nlp1_i (fun i => a + 1 ≤ i ∧ i ≤ n ∧ ∀ k, a ≤ k → k < i → F k = 32) (fun i => (n - i).toNat) ?_ ⟨by omega, by omega, fun k c1 c2 => ?_⟩
    · intro i hi self hself
      obtain ⟨i1, i2, i3⟩ := hi
      refine jn0_s (¬ (i < n ∧ F i = 32)) (fun e => ?_) ?_
      · have k1 := key i (by omega) i2 i3 e
        exact cB_i (fun e2 => k1.1 e2) (fun e2 => wO_i (by (try simp only [inb]); omega) (k1.2 (by omega)))
      · refine cB_i (fun e => fun e2 => by omega) (fun _ => wO_i (by (try simp only [inb]); omega) (cB_i (fun e => wO_i (by (try simp only [iR]); omega) (hself _ ⟨by omega, by omega, fun k c1 c2 => ?_⟩ (by omega))) (fun e => fun e2 => e e2.2)))
        by_cases ek : k = i
        · subst ek; exact e
        · exact i3 k c1 (by omega)
    · have : k = a := by omega
      subst this; exact e
theorem sp_fails {p n w : Int} {Q : Int → Int → Prop} (h : Q n w) : nf_M_fails p n w Q := h
theorem st_readWord {n a w we : Int} {F : Int → Int} {Q : Int → Int → Int → Prop} (hn : 0 ≤ n ∧ n ≤ 240) (ha : 0 ≤ a ∧ a ≤ n) (h : ∀ a' w' we', a ≤ a' → a' ≤ we' → we' ≤ n → Q a' w' we') : nf_M_readWord n a w we F Q := by
  unfold nf_M_readWord
  simp only [ci_m1, ci_m10, ci_m1001, ci_m1002, ci_m1003, ci_m1004, ci_0, ci_1, ci_10, ci_100, ci_1000, ci_10000, ci_101, ci_103, ci_104, ci_105, ci_107, ci_108, ci_110, ci_111, ci_114, ci_115, ci_116, ci_118, ci_119, ci_12, ci_122, ci_1431655765, ci_15, ci_16, ci_2, ci_20, ci_23, ci_24, ci_240, ci_252645135, ci_255, ci_256, ci_3, ci_32, ci_4, ci_420, ci_48, ci_5, ci_5040, ci_57, ci_59, ci_6, ci_60, ci_63, ci_64, ci_7, ci_70, ci_8, ci_858993459, ci_9, ci_900, ci_97, ci_99, ci_999, ci_9999, cl_0, cl_1, cl_10, cl_1000000000000, cl_122, cl_2, cl_2000000000000, cl_23, cl_255, cl_27, cl_3, cl_4, cl_48, cl_57, cl_6, cl_8, cl_96, cl_97, cl_99, cl_999, cl_9999]
  have key : ∀ a', a ≤ a' → a' ≤ n → nlp2 (fun self5 (z3 : Int) (z4 : Int) =>
      cB (n ≤ z4)
        (Q a' z3 z4)
        (wO (inb z4 240) (F z4) fun v6 =>
        wL v6 fun v7 =>
        nf_M_in  v7 97 122 fun r8 =>
        cB (r8 = 0)
          (Q a' z3 z4)
          (wL (lcm3 z3 1000000000000) fun v9 =>
          jn1 (fun (t10 : Int) =>
              wO (iR (z4 + 1)) (z4 + 1) fun v12 =>
              self5 t10 v12) fun j11 =>
          cB (v9 ≤ 0)
            (wO (lR (27 * z3)) (27 * z3) fun v13 =>
            wO (inb z4 240) (F z4) fun v14 =>
            wL v14 fun v15 =>
            wO (lR (v13 + v15)) (v13 + v15) fun v16 =>
            wO (lR (v16 - 96)) (v16 - 96) fun v17 =>
            j11 v17)
            (j11 2000000000000)))) 0 a' := by
    intro a' b1 b2
    refine nlp2_i (fun z i => a' ≤ i ∧ i ≤ n ∧ 0 ≤ z ∧ z ≤ 27000000000100) (fun _ i => (n - i).toNat) ?_ ⟨by omega, by omega, by omega, by omega⟩
    intro z i hi self hself
    obtain ⟨i1, i2, i3, i4⟩ := hi
    refine cB_i (fun _ => h _ _ _ b1 i1 i2) (fun _ => wO_i (by (try simp only [inb]); omega) (wL_i (sp_in (cB_i (fun hr => cB_f (by decide) (wL_i ?_)) (fun _ => cB_t rfl (h _ _ _ b1 i1 i2))))))
    refine jn1_s (fun t => 0 ≤ t ∧ t ≤ 27000000000100) (fun t ht => wO_i (by (try simp only [iR]); omega) (hself _ _ ⟨by omega, by omega, ht.1, ht.2⟩ (by omega))) ?_
    refine cB_i (fun hz => ?_) (fun _ => ⟨by omega, by omega⟩)
    have hz2 : z ≤ 1000000000000 := by
      unfold lcm3 at hz
      split at hz
      · omega
      · omega
    exact wO_i (by (try simp only [lR]); omega) (wO_i (by (try simp only [inb]); omega) (wL_i (wO_i (by (try simp only [lR]); omega) (wO_i (by (try simp only [lR]); omega) ⟨by omega, by omega⟩))))
  refine sp_here hn ha (fun a' b1 b2 _ => ⟨fun _ _ => key a' b1 b2, fun _ => key a' b1 b2⟩)
theorem st_clauseOf {w : Int} {Q : Int → Prop} (h : ∀ r, -1 ≤ r → r ≤ 4 → Q r) : nf_M_clauseOf w Q := by
  unfold nf_M_clauseOf
  simp only [ci_m1, ci_m10, ci_m1001, ci_m1002, ci_m1003, ci_m1004, ci_0, ci_1, ci_10, ci_100, ci_1000, ci_10000, ci_101, ci_103, ci_104, ci_105, ci_107, ci_108, ci_110, ci_111, ci_114, ci_115, ci_116, ci_118, ci_119, ci_12, ci_122, ci_1431655765, ci_15, ci_16, ci_2, ci_20, ci_23, ci_24, ci_240, ci_252645135, ci_255, ci_256, ci_3, ci_32, ci_4, ci_420, ci_48, ci_5, ci_5040, ci_57, ci_59, ci_6, ci_60, ci_63, ci_64, ci_7, ci_70, ci_8, ci_858993459, ci_9, ci_900, ci_97, ci_99, ci_999, ci_9999, cl_0, cl_1, cl_10, cl_1000000000000, cl_122, cl_2, cl_2000000000000, cl_23, cl_255, cl_27, cl_3, cl_4, cl_48, cl_57, cl_6, cl_8, cl_96, cl_97, cl_99, cl_999, cl_9999]
  repeat' (first | with_reducible refine wO_i ?_ ?_ | with_reducible refine wL_i ?_ | with_reducible refine cB_f (by decide) ?_ | with_reducible refine cB_t (by decide) ?_ | with_reducible refine cB_i (fun _ => ?_) (fun _ => ?_) | with_reducible refine jn0_i ?_ | with_reducible refine jn1_i ?_ | with_reducible refine jn2_i ?_ | with_reducible refine jn3_i ?_ | with_reducible refine jn4_i ?_ | with_reducible refine jn5_i ?_ | with_reducible refine jn6_i ?_ | with_reducible refine sp_code ⟨by omega, by omega⟩ ⟨by omega, by omega⟩ ⟨by omega, by omega⟩ ?_ | with_reducible refine sp_longer ⟨by omega, by omega⟩ ⟨by omega, by omega⟩ ?_)
  all_goals exact h _ (by omega) (by omega)
theorem st_needs {n p a w we d : Int} {F : Int → Int} {Q : Int → Int → Int → Int → Int → Prop} (hn : 0 ≤ n ∧ n ≤ 240) (ha : 0 ≤ a ∧ a ≤ n) (h : ∀ f' p' a' w' we', 0 ≤ f' → f' ≤ 1 → a ≤ a' → a' ≤ n → Q f' p' a' w' we') : nf_M_needs n p a w we F d Q := by
  unfold nf_M_needs
  simp only [ci_m1, ci_m10, ci_m1001, ci_m1002, ci_m1003, ci_m1004, ci_0, ci_1, ci_10, ci_100, ci_1000, ci_10000, ci_101, ci_103, ci_104, ci_105, ci_107, ci_108, ci_110, ci_111, ci_114, ci_115, ci_116, ci_118, ci_119, ci_12, ci_122, ci_1431655765, ci_15, ci_16, ci_2, ci_20, ci_23, ci_24, ci_240, ci_252645135, ci_255, ci_256, ci_3, ci_32, ci_4, ci_420, ci_48, ci_5, ci_5040, ci_57, ci_59, ci_6, ci_60, ci_63, ci_64, ci_7, ci_70, ci_8, ci_858993459, ci_9, ci_900, ci_97, ci_99, ci_999, ci_9999, cl_0, cl_1, cl_10, cl_1000000000000, cl_122, cl_2, cl_2000000000000, cl_23, cl_255, cl_27, cl_3, cl_4, cl_48, cl_57, cl_6, cl_8, cl_96, cl_97, cl_99, cl_999, cl_9999]
  refine st_readWord hn ha (fun a' w' we' b1 b2 b3 => wL_i (cB_i (fun _ => h _ _ _ _ _ (by omega) (by omega) (by omega) (by omega)) (fun _ => sp_fails (h _ _ _ _ _ (by omega) (by omega) (by omega) (by omega)))))
theorem st_takeNumber {n p a nb na x y : Int} {F : Int → Int} {Q : Int → Int → Int → Int → Int → Prop} (hn : 0 ≤ n ∧ n ≤ 240) (hF : ∀ k, 0 ≤ k → k < 240 → 0 ≤ F k ∧ F k ≤ 255) (ha : 0 ≤ a ∧ a ≤ n) (hb : 0 ≤ nb ∧ nb ≤ 100009) (h : ∀ f' p' a' nb' na', 0 ≤ f' → f' ≤ 2 → a ≤ a' → a' ≤ n → 0 ≤ nb' → nb' ≤ 100009 → (f' = 0 → x ≤ nb' ∧ nb' ≤ y) → Q f' p' a' nb' na') : nf_M_takeNumber n p a nb na F x y Q := by
  unfold nf_M_takeNumber
  simp only [ci_m1, ci_m10, ci_m1001, ci_m1002, ci_m1003, ci_m1004, ci_0, ci_1, ci_10, ci_100, ci_1000, ci_10000, ci_101, ci_103, ci_104, ci_105, ci_107, ci_108, ci_110, ci_111, ci_114, ci_115, ci_116, ci_118, ci_119, ci_12, ci_122, ci_1431655765, ci_15, ci_16, ci_2, ci_20, ci_23, ci_24, ci_240, ci_252645135, ci_255, ci_256, ci_3, ci_32, ci_4, ci_420, ci_48, ci_5, ci_5040, ci_57, ci_59, ci_6, ci_60, ci_63, ci_64, ci_7, ci_70, ci_8, ci_858993459, ci_9, ci_900, ci_97, ci_99, ci_999, ci_9999, cl_0, cl_1, cl_10, cl_1000000000000, cl_122, cl_2, cl_2000000000000, cl_23, cl_255, cl_27, cl_3, cl_4, cl_48, cl_57, cl_6, cl_8, cl_96, cl_97, cl_99, cl_999, cl_9999]
  refine sp_here hn ha (fun a1 b1 b2 _ => ⟨fun hlt _ => ?_, fun _ => ?_⟩)
  · refine wL_i (sp_in (cB_i (fun hd => cB_f (by decide) ?_) (fun _ => cB_t rfl (sp_fails (h _ _ _ _ _ (by omega) (by omega) b1 b2 hb.1 hb.2 (by omega))))))
    refine nlp2_i (fun i v => a1 ≤ i ∧ i ≤ n ∧ 0 ≤ v ∧ v ≤ 100009) (fun i _ => (n - i).toNat) ?_ ⟨by omega, by omega, by omega, by omega⟩
    intro i v hi self hself
    obtain ⟨i1, i2, i3, i4⟩ := hi
    refine jn0_s True (fun _ => ?_) ?_
    · refine wO_i (by (try simp only [iR]); omega) (jn0_s True (fun _ => sp_fails (h _ _ _ _ _ (by omega) (by omega) (by omega) (by omega) i3 i4 (by omega))) ?_)
      refine cB_i (fun _ => trivial) (fun _ => wL_i (wL_i (wL_i (sp_in (cB_i (fun hr => cB_f (by decide) (h _ _ _ _ _ (by omega) (by omega) (by omega) (by omega) i3 i4 (fun _ => hr))) (fun _ => cB_t rfl trivial))))))
    · refine cB_i (fun _ => trivial) (fun _ => wO_i (by (try simp only [inb]); omega) (wL_i (sp_in (cB_i (fun hd2 => cB_f (by decide) ?_) (fun _ => cB_t rfl trivial)))))
      refine jn1_s (fun t => 0 ≤ t ∧ t ≤ 100009) (fun t ht => wO_i (by (try simp only [iR]); omega) (hself _ _ ⟨by omega, by omega, ht.1, ht.2⟩ (by omega))) ?_
      refine cB_i (fun hs => ?_) (fun _ => ⟨by omega, by omega⟩)
      exact wO_i (by (try simp only [iR]); omega) (wO_i (by (try simp only [inb]); omega) (wO_i (by (try simp only [iR]); omega) (wO_i (by (try simp only [iR]); omega) ⟨by omega, by omega⟩)))
  · exact wL_i (sp_in (cB_i (fun hd => by omega) (fun _ => cB_t rfl (sp_fails (h _ _ _ _ _ (by omega) (by omega) b1 b2 hb.1 hb.2 (by omega))))))
def rI (f rp : Int) (rw ro rs : Int → Int) : Prop := 0 ≤ rp ∧ rp ≤ 24 ∧ (∀ q, 0 ≤ q → q < rp → 0 ≤ rw q ∧ rw q ≤ 122) ∧ (f = 0 → (∀ k, 0 ≤ k → k < 12 → 0 ≤ ro k ∧ ro k ≤ 100) ∧ (∀ k, 0 ≤ k → k < 3 → 0 ≤ rs k ∧ rs k ≤ 9) ∧ 0 ≤ rs 3 ∧ rs 3 ≤ 20 ∧ 0 ≤ rs 4 ∧ rs 4 ≤ 20)
theorem rI_f {f f' rp : Int} {rw ro rs : Int → Int} (h : rI f rp rw ro rs) (e : f' = 0 → f = 0) : rI f' rp rw ro rs := ⟨h.1, h.2.1, h.2.2.1, fun e2 => h.2.2.2 (e e2)⟩
theorem st_bare {a b c : Int} {ro rs : Int → Int} {Q : Int → Int → Int → (Int → Int) → (Int → Int) → Prop} (h : ∀ ro' rs', (∀ rw, rI 0 0 rw ro' rs') → Q 0 0 0 ro' rs') : nf_M_bare a b c ro rs Q := by
  unfold nf_M_bare
  simp only [ci_m1, ci_m10, ci_m1001, ci_m1002, ci_m1003, ci_m1004, ci_0, ci_1, ci_10, ci_100, ci_1000, ci_10000, ci_101, ci_103, ci_104, ci_105, ci_107, ci_108, ci_110, ci_111, ci_114, ci_115, ci_116, ci_118, ci_119, ci_12, ci_122, ci_1431655765, ci_15, ci_16, ci_2, ci_20, ci_23, ci_24, ci_240, ci_252645135, ci_255, ci_256, ci_3, ci_32, ci_4, ci_420, ci_48, ci_5, ci_5040, ci_57, ci_59, ci_6, ci_60, ci_63, ci_64, ci_7, ci_70, ci_8, ci_858993459, ci_9, ci_900, ci_97, ci_99, ci_999, ci_9999, cl_0, cl_1, cl_10, cl_1000000000000, cl_122, cl_2, cl_2000000000000, cl_23, cl_255, cl_27, cl_3, cl_4, cl_48, cl_57, cl_6, cl_8, cl_96, cl_97, cl_99, cl_999, cl_9999]
  refine nlp2_i (fun s S' => 0 ≤ s ∧ s ≤ 4 ∧ ∀ k, 0 ≤ k → k < 3 * s → 0 ≤ S' k ∧ S' k ≤ 100) (fun s _ => (4 - s).toNat) ?_ ⟨by omega, by omega, by omega⟩
  intro s S1 hi self hself
  obtain ⟨i1, i2, i3⟩ := hi
  refine cB_i (fun _ => ?_) (fun _ => ?_)
  · repeat' (first | with_reducible refine wO_i ?_ ?_ | with_reducible refine wL_i ?_ | with_reducible refine cB_f (by decide) ?_ | with_reducible refine cB_t (by decide) ?_ | with_reducible refine cB_i (fun _ => ?_) (fun _ => ?_) | with_reducible refine jn0_i ?_ | with_reducible refine jn1_i ?_ | with_reducible refine jn2_i ?_ | with_reducible refine jn3_i ?_ | with_reducible refine jn4_i ?_ | with_reducible refine jn5_i ?_ | with_reducible refine jn6_i ?_)
    all_goals (try (simp only [iR, lR, inb, bZ, dOK, or_true, true_or, true_and, and_true] at *)); all_goals (try omega)
    refine h _ _ (fun rw => ⟨by omega, by omega, by omega, fun _ => ⟨fun k k1 k2 => i3 k k1 (by omega), fun k k1 k2 => ?_, ?_⟩⟩)
    · rcases (show k = 0 ∨ k = 1 ∨ k = 2 by omega) with rfl | rfl | rfl
      · rw [ups_n (by omega), ups_n (by omega), ups_n (by omega), ups_n (by omega), ups_s]; omega
      · rw [ups_n (by omega), ups_n (by omega), ups_n (by omega), ups_s]; omega
      · rw [ups_n (by omega), ups_n (by omega), ups_s]; omega
    · rw [ups_n (by omega), ups_s, ups_s]; omega
  · repeat' (first | with_reducible refine wO_i ?_ ?_ | with_reducible refine wL_i ?_ | with_reducible refine cB_f (by decide) ?_ | with_reducible refine cB_t (by decide) ?_ | with_reducible refine cB_i (fun _ => ?_) (fun _ => ?_) | with_reducible refine jn0_i ?_ | with_reducible refine jn1_i ?_ | with_reducible refine jn2_i ?_ | with_reducible refine jn3_i ?_ | with_reducible refine jn4_i ?_ | with_reducible refine jn5_i ?_ | with_reducible refine jn6_i ?_)
    all_goals (try (simp only [iR, lR, inb, bZ, dOK, or_true, true_or, true_and, and_true] at *)); all_goals (try omega)
    refine hself _ _ ⟨by omega, by omega, fun k k1 k2 => ?_⟩ (by omega)
    by_cases e2 : k = 3 * s + 2
    · subst e2; rw [ups_s]; omega
    · rw [ups_n e2]
      by_cases e1 : k = 3 * s + 1
      · subst e1; rw [ups_s]; omega
      · rw [ups_n e1]
        by_cases e0 : k = 3 * s
        · subst e0; rw [ups_s]; omega
        · rw [ups_n e0]; exact i3 k k1 (by omega)
theorem st_takeRow {n p a w we nb na rp : Int} {F rk rw ro rs : Int → Int} {Q : Int → Int → Int → Int → Int → Int → Int → Int → (Int → Int) → (Int → Int) → Prop} (hn : 0 ≤ n ∧ n ≤ 240) (hF : ∀ k, 0 ≤ k → k < 240 → 0 ≤ F k ∧ F k ≤ 255) (ha : 0 ≤ a ∧ a ≤ n) (hb : 0 ≤ nb ∧ nb ≤ 100009) (hr : rI 0 rp rw ro rs) (h : ∀ f' p' a' w' we' nb' na' rp' rk' rw', 0 ≤ f' → f' ≤ 5 → a ≤ a' → a' ≤ n → 0 ≤ nb' → nb' ≤ 100009 → rI f' rp' rw' ro rs → Q f' p' a' w' we' nb' na' rp' rk' rw') : nf_M_takeRow n p a w we nb na rp F rk rw Q := by
  unfold nf_M_takeRow
  simp only [ci_m1, ci_m10, ci_m1001, ci_m1002, ci_m1003, ci_m1004, ci_0, ci_1, ci_10, ci_100, ci_1000, ci_10000, ci_101, ci_103, ci_104, ci_105, ci_107, ci_108, ci_110, ci_111, ci_114, ci_115, ci_116, ci_118, ci_119, ci_12, ci_122, ci_1431655765, ci_15, ci_16, ci_2, ci_20, ci_23, ci_24, ci_240, ci_252645135, ci_255, ci_256, ci_3, ci_32, ci_4, ci_420, ci_48, ci_5, ci_5040, ci_57, ci_59, ci_6, ci_60, ci_63, ci_64, ci_7, ci_70, ci_8, ci_858993459, ci_9, ci_900, ci_97, ci_99, ci_999, ci_9999, cl_0, cl_1, cl_10, cl_1000000000000, cl_122, cl_2, cl_2000000000000, cl_23, cl_255, cl_27, cl_3, cl_4, cl_48, cl_57, cl_6, cl_8, cl_96, cl_97, cl_99, cl_999, cl_9999]
  have hr0 := hr
  obtain ⟨r1, r2, r3, r4⟩ := hr0
  refine st_takeNumber hn hF ha hb (fun f1 p1 a1 nb1 na1 b1 b2 b3 b4 b5 b6 b7 => ?_)
  refine jn2_s (fun f _ => 0 ≤ f ∧ f ≤ 5 ∧ (f = 0 → f1 = 0 ∧ rp + nb1 ≤ 24)) (fun f2 p2 hf2 => ?_) ?_
  · refine jn5_s (fun _ a' _ _ f => a ≤ a' ∧ a' ≤ n ∧ 0 ≤ f ∧ f ≤ 5 ∧ (f = 0 → f2 = 0)) (fun p3 a3 w3 we3 f3 h3 => ?_) ?_
    · refine jn5_s (fun _ a' nb' _ f => a ≤ a' ∧ a' ≤ n ∧ 0 ≤ nb' ∧ nb' ≤ 100009 ∧ 0 ≤ f ∧ f ≤ 5 ∧ (f = 0 → f3 = 0)) (fun p4 a4 nb4 na4 f4 h4 => ?_) ?_
      · refine jn5_s (fun _ a' _ _ f => a ≤ a' ∧ a' ≤ n ∧ 0 ≤ f ∧ f ≤ 5 ∧ (f = 0 → f4 = 0)) (fun p5 a5 w5 we5 f5 h5 => ?_) ?_
        · refine jn5_s (fun _ a' nb' _ f => a ≤ a' ∧ a' ≤ n ∧ 0 ≤ nb' ∧ nb' ≤ 100009 ∧ 0 ≤ f ∧ f ≤ 5 ∧ (f = 0 → f5 = 0 ∧ nb' ≤ 99)) (fun p6 a6 nb6 na6 f6 h6 => ?_) ?_
          · have fin : ∀ rp' rk' rw', 0 ≤ rp' → rp' ≤ 24 → (∀ q, 0 ≤ q → q < rp' → 0 ≤ rw' q ∧ rw' q ≤ 122) → Q f6 p6 a6 w5 we5 nb6 na6 rp' rk' rw' := fun rp' rk' rw' s1 s2 s3 => h _ _ _ _ _ _ _ _ _ _ h6.2.2.2.2.1 h6.2.2.2.2.2.1 h6.1 h6.2.1 h6.2.2.1 h6.2.2.2.1 ⟨s1, s2, s3, fun _ => r4 rfl⟩
            refine nlp4_i (fun i rp' _ rw' => 0 ≤ i ∧ (f6 = 0 → i ≤ nb1 ∧ rp' = rp + i) ∧ 0 ≤ rp' ∧ rp' ≤ 24 ∧ ∀ q, 0 ≤ q → q < rp' → 0 ≤ rw' q ∧ rw' q ≤ 122) (fun i _ _ _ => (nb1 - i).toNat) ?_ ⟨by omega, by omega, by omega, by omega, r3⟩
            intro i rp7 rk7 rw7 hi self hself
            obtain ⟨i1, i2, i3, i4, i5⟩ := hi
            refine cB_i (fun _ => fin _ _ _ i3 i4 i5) (fun _ => cB_i (fun _ => ?_) (fun _ => fin _ _ _ i3 i4 i5))
            repeat' (first | with_reducible refine wO_i ?_ ?_ | with_reducible refine wL_i ?_ | with_reducible refine cB_f (by decide) ?_ | with_reducible refine cB_t (by decide) ?_ | with_reducible refine cB_i (fun _ => ?_) (fun _ => ?_) | with_reducible refine jn0_i ?_ | with_reducible refine jn1_i ?_ | with_reducible refine jn2_i ?_ | with_reducible refine jn3_i ?_ | with_reducible refine jn4_i ?_ | with_reducible refine jn5_i ?_ | with_reducible refine jn6_i ?_)
            all_goals (try (simp only [iR, lR, inb, bZ, dOK, or_true, true_or, true_and, and_true] at *)); all_goals (try omega)
            refine hself _ _ _ _ ⟨by omega, by omega, by omega, by omega, fun q q1 q2 => ?_⟩ (by omega)
            by_cases e : q = rp7
            · subst e; rw [ups_s]; omega
            · rw [ups_n e]; exact i5 q q1 (by omega)
          · exact cB_i (fun _ => st_takeNumber hn hF ⟨by omega, by omega⟩ ⟨by omega, by omega⟩ (fun f' p' a' nb' na' c1 c2 c3 c4 c5 c6 c7 => ⟨by omega, c4, c5, c6, c1, by omega, by omega⟩)) (fun _ => ⟨by omega, by omega, by omega, by omega, by omega, by omega, by omega⟩)
        · exact cB_i (fun _ => sp_code ⟨by omega, by omega⟩ ⟨by omega, by omega⟩ ⟨by omega, by omega⟩ (sp_longer ⟨by omega, by omega⟩ ⟨by omega, by omega⟩ (st_needs hn ⟨by omega, by omega⟩ (fun f' p' a' w' we' c1 c2 c3 c4 => ⟨by omega, c4, c1, by omega, by omega⟩)))) (fun _ => ⟨by omega, by omega, by omega, by omega, by omega⟩)
      · exact cB_i (fun _ => st_takeNumber hn hF ⟨by omega, by omega⟩ ⟨b5, b6⟩ (fun f' p' a' nb' na' c1 c2 c3 c4 c5 c6 c7 => ⟨by omega, c4, c5, c6, c1, by omega, by omega⟩)) (fun _ => ⟨by omega, by omega, by omega, by omega, by omega, by omega, by omega⟩)
    · exact cB_i (fun _ => sp_code ⟨by omega, by omega⟩ ⟨by omega, by omega⟩ ⟨by omega, by omega⟩ (sp_longer ⟨by omega, by omega⟩ ⟨by omega, by omega⟩ (st_needs hn ⟨by omega, by omega⟩ (fun f' p' a' w' we' c1 c2 c3 c4 => ⟨by omega, c4, c1, by omega, by omega⟩)))) (fun _ => ⟨by omega, by omega, by omega, by omega, by omega⟩)
  · exact cB_i (fun _ => wO_i (by (try simp only [iR]); omega) (cB_i (fun _ => ⟨by omega, by omega, by omega⟩) (fun _ => sp_fails ⟨by omega, by omega, by omega⟩))) (fun _ => ⟨by omega, by omega, by omega⟩)
theorem st_takeOdds {n p a nb na ss rp : Int} {F rw ro rs : Int → Int} {Q : Int → Int → Int → Int → Int → Int → (Int → Int) → Prop} (hn : 0 ≤ n ∧ n ≤ 240) (hF : ∀ k, 0 ≤ k → k < 240 → 0 ≤ F k ∧ F k ≤ 255) (ha : 0 ≤ a ∧ a ≤ n) (hb : 0 ≤ nb ∧ nb ≤ 100009) (hr : rI 0 rp rw ro rs) (h : ∀ f' p' a' nb' na' ss' ro', 0 ≤ f' → f' ≤ 5 → a ≤ a' → a' ≤ n → 0 ≤ nb' → nb' ≤ 100009 → rI f' rp rw ro' rs → Q f' p' a' nb' na' ss' ro') : nf_M_takeOdds n p a nb na ss F ro Q := by
  unfold nf_M_takeOdds
  simp only [ci_m1, ci_m10, ci_m1001, ci_m1002, ci_m1003, ci_m1004, ci_0, ci_1, ci_10, ci_100, ci_1000, ci_10000, ci_101, ci_103, ci_104, ci_105, ci_107, ci_108, ci_110, ci_111, ci_114, ci_115, ci_116, ci_118, ci_119, ci_12, ci_122, ci_1431655765, ci_15, ci_16, ci_2, ci_20, ci_23, ci_24, ci_240, ci_252645135, ci_255, ci_256, ci_3, ci_32, ci_4, ci_420, ci_48, ci_5, ci_5040, ci_57, ci_59, ci_6, ci_60, ci_63, ci_64, ci_7, ci_70, ci_8, ci_858993459, ci_9, ci_900, ci_97, ci_99, ci_999, ci_9999, cl_0, cl_1, cl_10, cl_1000000000000, cl_122, cl_2, cl_2000000000000, cl_23, cl_255, cl_27, cl_3, cl_4, cl_48, cl_57, cl_6, cl_8, cl_96, cl_97, cl_99, cl_999, cl_9999]
  obtain ⟨r1, r2, r3, r4⟩ := hr
  have r5 := r4 rfl
  refine st_takeNumber hn hF ha hb (fun f1 p1 a1 nb1 na1 b1 b2 b3 b4 b5 b6 b7 => ?_)
  refine jn2_s (fun f _ => 0 ≤ f ∧ f ≤ 5 ∧ (f = 0 → 0 ≤ nb1 ∧ nb1 ≤ 3)) (fun f2 p2 hf2 => ?_) ?_
  · refine nlp8_i (fun f all k _ a' nb' _ ro' => 0 ≤ f ∧ f ≤ 5 ∧ (f = 0 → 0 ≤ nb1 ∧ nb1 ≤ 3) ∧ 0 ≤ k ∧ k ≤ 3 ∧ 0 ≤ all ∧ all ≤ 100009 * k ∧ a ≤ a' ∧ a' ≤ n ∧ 0 ≤ nb' ∧ nb' ≤ 100009 ∧ (f = 0 → ∀ q, 0 ≤ q → q < 12 → 0 ≤ ro' q ∧ ro' q ≤ 100)) (fun _ _ k _ _ _ _ _ => (3 - k).toNat) ?_ ⟨by omega, by omega, by omega, by omega, by omega, by omega, by omega, by omega, by omega, by omega, by omega, fun _ => r5.1⟩
    intro f all k p3 a3 nb3 na3 ro3 hi self hself
    obtain ⟨i1, i2, i3, i4, i5, i6, i7, i8, i9, i10, i11, i12⟩ := hi
    refine jn0_s True (fun _ => ?_) ?_
    · refine cB_i (fun _ => wL_i (wL_i (cB_i (fun _ => ?_) (fun _ => sp_fails ?_)))) (fun _ => ?_)
      · exact h _ _ _ _ _ _ _ (by omega) (by omega) i8 i9 i10 i11 ⟨r1, r2, r3, fun _ => ⟨i12 (by omega), r5.2⟩⟩
      · exact h _ _ _ _ _ _ _ (by omega) (by omega) i8 i9 i10 i11 ⟨r1, r2, r3, fun e => by omega⟩
      · exact h _ _ _ _ _ _ _ i1 i2 i8 i9 i10 i11 ⟨r1, r2, r3, fun e => by omega⟩
    · refine cB_i (fun _ => trivial) (fun _ => cB_i (fun e => ?_) (fun _ => trivial))
      refine st_takeNumber hn hF ⟨by omega, i9⟩ ⟨i10, i11⟩ (fun f4 p4 a4 nb4 na4 c1 c2 c3 c4 c5 c6 c7 => ?_)
      have e3 := i3 e
      refine wO_i (by (try simp only [iR]); omega) (wO_i (by (try simp only [iR]); omega) (wO_i (by (try simp only [inb]); omega) (wO_i (by (try simp only [iR]); omega) (wO_i (by (try simp only [iR]); omega) (hself _ _ _ _ _ _ _ _ ⟨c1, by omega, fun _ => e3, by omega, by omega, by omega, by omega, by omega, c4, c5, c6, fun e4 q q1 q2 => ?_⟩ (by omega))))))
      by_cases eq : q = 3 * nb1 + k
      · subst eq; rw [ups_s]; exact c7 e4
      · rw [ups_n eq]; exact i12 e q q1 q2
  · exact cB_i (fun _ => wL_i (wL_i (cB_i (fun _ => sp_fails ⟨by omega, by omega, by omega⟩) (fun _ => ⟨by omega, by omega, by omega⟩)))) (fun _ => ⟨by omega, by omega, by omega⟩)
theorem st_takeSingles {n p a nb na rp c : Int} {F rw ro rs : Int → Int} {Q : Int → Int → Int → Int → Int → (Int → Int) → Prop} (hc : 2 ≤ c ∧ c ≤ 4) (hn : 0 ≤ n ∧ n ≤ 240) (hF : ∀ k, 0 ≤ k → k < 240 → 0 ≤ F k ∧ F k ≤ 255) (ha : 0 ≤ a ∧ a ≤ n) (hb : 0 ≤ nb ∧ nb ≤ 100009) (hr : rI 0 rp rw ro rs) (h : ∀ f' p' a' nb' na' rs', 0 ≤ f' → f' ≤ 5 → a ≤ a' → a' ≤ n → 0 ≤ nb' → nb' ≤ 100009 → rI f' rp rw ro rs' → Q f' p' a' nb' na' rs') : nf_M_takeSingles n p a nb na F rs c Q := by
  unfold nf_M_takeSingles
  simp only [ci_m1, ci_m10, ci_m1001, ci_m1002, ci_m1003, ci_m1004, ci_0, ci_1, ci_10, ci_100, ci_1000, ci_10000, ci_101, ci_103, ci_104, ci_105, ci_107, ci_108, ci_110, ci_111, ci_114, ci_115, ci_116, ci_118, ci_119, ci_12, ci_122, ci_1431655765, ci_15, ci_16, ci_2, ci_20, ci_23, ci_24, ci_240, ci_252645135, ci_255, ci_256, ci_3, ci_32, ci_4, ci_420, ci_48, ci_5, ci_5040, ci_57, ci_59, ci_6, ci_60, ci_63, ci_64, ci_7, ci_70, ci_8, ci_858993459, ci_9, ci_900, ci_97, ci_99, ci_999, ci_9999, cl_0, cl_1, cl_10, cl_1000000000000, cl_122, cl_2, cl_2000000000000, cl_23, cl_255, cl_27, cl_3, cl_4, cl_48, cl_57, cl_6, cl_8, cl_96, cl_97, cl_99, cl_999, cl_9999]
  obtain ⟨r1, r2, r3, r4⟩ := hr
  have r5 := r4 rfl
  refine jn1_s (fun t => (c = 2 → t = 0) ∧ (c ≠ 2 → t = c)) (fun t1 ht1 => ?_) (cB_i (fun _ => ⟨by omega, by omega⟩) (fun _ => ⟨by omega, by omega⟩))
  refine jn1_s (fun t => (c = 2 → t = 2) ∧ (c ≠ 2 → t = c)) (fun t3 ht3 => ?_) (cB_i (fun _ => ⟨by omega, by omega⟩) (fun _ => ⟨by omega, by omega⟩))
  have fin : ∀ f p' a' nb' na' (rs' : Int → Int), 0 ≤ f → f ≤ 5 → a ≤ a' → a' ≤ n → 0 ≤ nb' → nb' ≤ 100009 → (f = 0 → (∀ q, 0 ≤ q → q < 3 → 0 ≤ rs' q ∧ rs' q ≤ 9) ∧ 0 ≤ rs' 3 ∧ rs' 3 ≤ 20 ∧ 0 ≤ rs' 4 ∧ rs' 4 ≤ 20) → Q f p' a' nb' na' rs' := fun f p' a' nb' na' rs' s1 s2 s3 s4 s5 s6 s7 => h _ _ _ _ _ _ s1 s2 s3 s4 s5 s6 ⟨r1, r2, r3, fun e => ⟨r5.1, s7 e⟩⟩
  refine nlp7_i (fun f k _ a' nb' _ rs' => 0 ≤ f ∧ f ≤ 5 ∧ t1 ≤ k ∧ k ≤ t3 + 1 ∧ a ≤ a' ∧ a' ≤ n ∧ 0 ≤ nb' ∧ nb' ≤ 100009 ∧ (f = 0 → (∀ q, 0 ≤ q → q < 3 → 0 ≤ rs' q ∧ rs' q ≤ 9) ∧ 0 ≤ rs' 3 ∧ rs' 3 ≤ 20 ∧ 0 ≤ rs' 4 ∧ rs' 4 ≤ 20)) (fun _ k _ _ _ _ _ => (t3 + 1 - k).toNat) ?_ ⟨by omega, by omega, by omega, by omega, by omega, by omega, by omega, by omega, fun _ => r5.2⟩
  intro f k p3 a3 nb3 na3 rs3 hi self hself
  obtain ⟨i1, i2, i3, i4, i5, i6, i7, i8, i9⟩ := hi
  refine cB_i (fun _ => fin _ _ _ _ _ _ i1 i2 i5 i6 i7 i8 i9) (fun _ => cB_i (fun e => ?_) (fun _ => fin _ _ _ _ _ _ i1 i2 i5 i6 i7 i8 i9))
  have e9 := i9 e
  refine jn1_s (fun t => (c = 2 → t = 9) ∧ (c ≠ 2 → t = 20)) (fun t13 ht => ?_) (cB_i (fun _ => ⟨by omega, by omega⟩) (fun _ => ⟨by omega, by omega⟩))
  refine st_takeNumber hn hF ⟨by omega, i6⟩ ⟨i7, i8⟩ (fun f4 p4 a4 nb4 na4 c1 c2 c3 c4 c5 c6 c7 => ?_)
  refine wO_i (by (try simp only [inb]); omega) (wO_i (by (try simp only [iR]); omega) (hself _ _ _ _ _ _ _ ⟨c1, by omega, by omega, by omega, by omega, c4, c5, c6, fun e4 => ?_⟩ (by omega)))
  have c8 := c7 e4
  refine ⟨fun q q1 q2 => ?_, ?_⟩
  · by_cases eq : q = k
    · subst eq; rw [ups_s]; omega
    · rw [ups_n eq]; exact e9.1 q q1 q2
  · by_cases e3 : k = 3
    · subst e3; rw [ups_s, ups_n (by omega)]; omega
    · by_cases e4 : k = 4
      · subst e4; rw [ups_s, ups_n (by omega)]; omega
      · rw [ups_n (by omega), ups_n (by omega)]; exact e9.2
theorem st_takeClause {n p a w we nb na rp ts ss : Int} {F rk rw ro rs : Int → Int} {Q : Int → Int → Int → Int → Int → Int → Int → Int → Int → Int → (Int → Int) → (Int → Int) → (Int → Int) → (Int → Int) → Prop} (hn : 0 ≤ n ∧ n ≤ 240) (hF : ∀ k, 0 ≤ k → k < 240 → 0 ≤ F k ∧ F k ≤ 255) (ha : 0 ≤ a ∧ a ≤ n) (hb : 0 ≤ nb ∧ nb ≤ 100009) (hr : rI 0 rp rw ro rs) (h : ∀ f' p' a' w' we' nb' na' rp' ts' ss' rk' rw' ro' rs', 0 ≤ f' → f' ≤ 5 → a ≤ a' → a' ≤ n → (f' = 0 → a < a') → 0 ≤ nb' → nb' ≤ 100009 → rI f' rp' rw' ro' rs' → Q f' p' a' w' we' nb' na' rp' ts' ss' rk' rw' ro' rs') : nf_M_takeClause n p a w we nb na rp ts ss F rk rw ro rs Q := by
  unfold nf_M_takeClause
  simp only [ci_m1, ci_m10, ci_m1001, ci_m1002, ci_m1003, ci_m1004, ci_0, ci_1, ci_10, ci_100, ci_1000, ci_10000, ci_101, ci_103, ci_104, ci_105, ci_107, ci_108, ci_110, ci_111, ci_114, ci_115, ci_116, ci_118, ci_119, ci_12, ci_122, ci_1431655765, ci_15, ci_16, ci_2, ci_20, ci_23, ci_24, ci_240, ci_252645135, ci_255, ci_256, ci_3, ci_32, ci_4, ci_420, ci_48, ci_5, ci_5040, ci_57, ci_59, ci_6, ci_60, ci_63, ci_64, ci_7, ci_70, ci_8, ci_858993459, ci_9, ci_900, ci_97, ci_99, ci_999, ci_9999, cl_0, cl_1, cl_10, cl_1000000000000, cl_122, cl_2, cl_2000000000000, cl_23, cl_255, cl_27, cl_3, cl_4, cl_48, cl_57, cl_6, cl_8, cl_96, cl_97, cl_99, cl_999, cl_9999]
  refine st_readWord hn ha (fun a1 w1 we1 b1 b2 b3 => st_clauseOf (fun r4 c1 c2 => ?_))
  refine jn1_s (fun _ => True) (fun t5 _ => ?_) ?_
  · refine jn0_s True (fun _ => ?_) ?_
    · refine jn1_s (fun t => 1 ≤ t ∧ t ≤ 3) (fun t8 ht => sp_fails (h _ _ _ _ _ _ _ _ _ _ _ _ _ _ (by omega) (by omega) b1 (by omega) (by omega) hb.1 hb.2 (rI_f hr (by omega)))) (cB_i (fun _ => ⟨by omega, by omega⟩) (fun _ => ⟨by omega, by omega⟩))
    · refine cB_i (fun _ => trivial) (fun _ => cB_i (fun _ => wL_i (wL_i ?_)) (fun _ => trivial))
      refine jn13_s (fun _ a' _ _ nb' _ rp' _ _ rw' ro' rs' f => a ≤ a' ∧ a' ≤ n ∧ 0 ≤ nb' ∧ nb' ≤ 100009 ∧ 0 ≤ f ∧ f ≤ 5 ∧ rI f rp' rw' ro' rs') (fun z14 z15 z16 z17 z18 z19 z20 z21 z22 z23 z24 z25 t26 hz => ?_) ?_
      · obtain ⟨d1, d2, d3, d4, d5, d6, d7⟩ := hz
        refine cB_i (fun _ => sp_here hn ⟨by omega, d2⟩ (fun a' e1 e2 _ => ⟨fun e3 _ => ?_, fun _ => ?_⟩)) (fun _ => h _ _ _ _ _ _ _ _ _ _ _ _ _ _ d5 d6 d1 d2 (by omega) d3 d4 d7)
        · exact cB_i (fun _ => wO_i (by (try simp only [iR]); omega) (h _ _ _ _ _ _ _ _ _ _ _ _ _ _ (by omega) (by omega) (by omega) (by omega) (by omega) d3 d4 (rI_f d7 (by omega)))) (fun _ => sp_fails (h _ _ _ _ _ _ _ _ _ _ _ _ _ _ (by omega) (by omega) (by omega) (by omega) (by omega) d3 d4 (rI_f d7 (by omega))))
        · exact cB_f (by decide) (sp_fails (h _ _ _ _ _ _ _ _ _ _ _ _ _ _ (by omega) (by omega) (by omega) (by omega) (by omega) d3 d4 (rI_f d7 (by omega))))
      · refine cB_i (fun _ => st_takeRow hn hF ⟨by omega, b3⟩ hb hr (fun f' p' a' w' we' nb' na' rp' rk' rw' e1 e2 e3 e4 e5 e6 e7 => ⟨by omega, e4, e5, e6, e1, e2, e7⟩)) (fun _ => cB_i (fun _ => st_takeOdds hn hF ⟨by omega, b3⟩ hb hr (fun f' p' a' nb' na' ss' ro' e1 e2 e3 e4 e5 e6 e7 => ⟨by omega, e4, e5, e6, e1, e2, e7⟩)) (fun _ => st_takeSingles ⟨by omega, by omega⟩ hn hF ⟨by omega, b3⟩ hb hr (fun f' p' a' nb' na' rs' e1 e2 e3 e4 e5 e6 e7 => ⟨by omega, e4, e5, e6, e1, e2, e7⟩)))
  · exact jn0_i (cB_i (fun _ => trivial) (fun _ => wL_i (wL_i (cB_i (fun _ => trivial) (fun _ => trivial)))))
theorem st_keepHall {pg hs rp : Int} {pk pw oo sg rk rw ro rs : Int → Int} {Q : Int → Int → (Int → Int) → (Int → Int) → (Int → Int) → (Int → Int) → Prop} (hh : 0 ≤ hs ∧ hs ≤ 100000) (hr : rI 0 rp rw ro rs) (h : ∀ pk' pw' oo' sg', rI 0 rp pw' oo' sg' → Q rp (hs + 1) pk' pw' oo' sg') : nf_M_keepHall pg hs rp pk pw oo sg rk rw ro rs Q := by
  unfold nf_M_keepHall
  simp only [ci_m1, ci_m10, ci_m1001, ci_m1002, ci_m1003, ci_m1004, ci_0, ci_1, ci_10, ci_100, ci_1000, ci_10000, ci_101, ci_103, ci_104, ci_105, ci_107, ci_108, ci_110, ci_111, ci_114, ci_115, ci_116, ci_118, ci_119, ci_12, ci_122, ci_1431655765, ci_15, ci_16, ci_2, ci_20, ci_23, ci_24, ci_240, ci_252645135, ci_255, ci_256, ci_3, ci_32, ci_4, ci_420, ci_48, ci_5, ci_5040, ci_57, ci_59, ci_6, ci_60, ci_63, ci_64, ci_7, ci_70, ci_8, ci_858993459, ci_9, ci_900, ci_97, ci_99, ci_999, ci_9999, cl_0, cl_1, cl_10, cl_1000000000000, cl_122, cl_2, cl_2000000000000, cl_23, cl_255, cl_27, cl_3, cl_4, cl_48, cl_57, cl_6, cl_8, cl_96, cl_97, cl_99, cl_999, cl_9999]
  obtain ⟨r1, r2, r3, r4⟩ := hr
  have r5 := r4 rfl
  refine nlp3_i (fun i _ pw' => 0 ≤ i ∧ i ≤ 24 ∧ ∀ q, 0 ≤ q → q < i → pw' q = rw q) (fun i _ _ => (24 - i).toNat) ?_ ⟨by omega, by omega, by omega⟩
  intro i pk1 pw1 hi self hself
  obtain ⟨i1, i2, i3⟩ := hi
  refine cB_i (fun _ => ?_) (fun _ => ?_)
  · refine nlp2_i (fun j oo' => 0 ≤ j ∧ j ≤ 12 ∧ ∀ q, 0 ≤ q → q < j → oo' q = ro q) (fun j _ => (12 - j).toNat) ?_ ⟨by omega, by omega, by omega⟩
    intro j oo1 hj self2 hself2
    obtain ⟨j1, j2, j3⟩ := hj
    refine cB_i (fun _ => ?_) (fun _ => ?_)
    · refine nlp2_i (fun k sg' => 0 ≤ k ∧ k ≤ 5 ∧ ∀ q, 0 ≤ q → q < k → sg' q = rs q) (fun k _ => (5 - k).toNat) ?_ ⟨by omega, by omega, by omega⟩
      intro k sg1 hk self3 hself3
      obtain ⟨k1, k2, k3⟩ := hk
      refine cB_i (fun _ => wO_i (by (try simp only [iR]); omega) (h _ _ _ _ ⟨r1, r2, fun q q1 q2 => ?_, fun _ => ⟨fun q q1 q2 => ?_, fun q q1 q2 => ?_, ?_⟩⟩)) (fun _ => ?_)
      · rw [i3 q q1 (by omega)]; exact r3 q q1 q2
      · rw [j3 q q1 (by omega)]; exact r5.1 q q1 q2
      · rw [k3 q q1 (by omega)]; exact r5.2.1 q q1 q2
      · rw [k3 3 (by omega) (by omega), k3 4 (by omega) (by omega)]; exact r5.2.2
      · refine wO_i (by (try simp only [inb]); omega) (wO_i (by (try simp only [inb]); omega) (wO_i (by (try simp only [iR]); omega) (hself3 _ _ ⟨by omega, by omega, fun q q1 q2 => ?_⟩ (by omega))))
        by_cases e : q = k
        · subst e; rw [ups_s]
        · rw [ups_n e]; exact k3 q q1 (by omega)
    · refine wO_i (by (try simp only [inb]); omega) (wO_i (by (try simp only [inb]); omega) (wO_i (by (try simp only [iR]); omega) (hself2 _ _ ⟨by omega, by omega, fun q q1 q2 => ?_⟩ (by omega))))
      by_cases e : q = j
      · subst e; rw [ups_s]
      · rw [ups_n e]; exact j3 q q1 (by omega)
  · refine wO_i (by (try simp only [inb]); omega) (wO_i (by (try simp only [inb]); omega) (wO_i (by (try simp only [inb]); omega) (wO_i (by (try simp only [inb]); omega) (wO_i (by (try simp only [iR]); omega) (hself _ _ _ ⟨by omega, by omega, fun q q1 q2 => ?_⟩ (by omega))))))
    by_cases e : q = i
    · subst e; rw [ups_s]
    · rw [ups_n e]; exact i3 q q1 (by omega)
theorem st_mhall {pg hs n fp a w we nb na rp ts ss ev : Int} {pk pw oo sg F rk rw ro rs : Int → Int} {Q : Int → Int → Int → Int → Int → Int → Int → Int → Int → Int → Int → Int → Int → (Int → Int) → (Int → Int) → (Int → Int) → (Int → Int) → (Int → Int) → (Int → Int) → (Int → Int) → (Int → Int) → Prop} (hh : 0 ≤ hs ∧ hs ≤ 100000) (hn : 0 ≤ n ∧ n ≤ 240) (hF : ∀ k, 0 ≤ k → k < 240 → 0 ≤ F k ∧ F k ≤ 255) (hb : 0 ≤ nb ∧ nb ≤ 100009) (hp : rI 0 pg pw oo sg) (h : ∀ r pg' hs' n' fp' a' w' we' nb' na' rp' ts' ss' pk' pw' oo' sg' rk' rw' ro' rs', rI 0 pg' pw' oo' sg' → (hs' = hs ∨ hs' = hs + 1) → (n' = 0 ∨ n' = n) → 0 ≤ nb' → nb' ≤ 100009 → Q r pg' hs' n' fp' a' w' we' nb' na' rp' ts' ss' pk' pw' oo' sg' rk' rw' ro' rs') : nf_M_hall pg hs n fp a w we nb na rp ts ss ev pk pw oo sg F rk rw ro rs Q := by
  unfold nf_M_hall
  simp only [ci_m1, ci_m10, ci_m1001, ci_m1002, ci_m1003, ci_m1004, ci_0, ci_1, ci_10, ci_100, ci_1000, ci_10000, ci_101, ci_103, ci_104, ci_105, ci_107, ci_108, ci_110, ci_111, ci_114, ci_115, ci_116, ci_118, ci_119, ci_12, ci_122, ci_1431655765, ci_15, ci_16, ci_2, ci_20, ci_23, ci_24, ci_240, ci_252645135, ci_255, ci_256, ci_3, ci_32, ci_4, ci_420, ci_48, ci_5, ci_5040, ci_57, ci_59, ci_6, ci_60, ci_63, ci_64, ci_7, ci_70, ci_8, ci_858993459, ci_9, ci_900, ci_97, ci_99, ci_999, ci_9999, cl_0, cl_1, cl_10, cl_1000000000000, cl_122, cl_2, cl_2000000000000, cl_23, cl_255, cl_27, cl_3, cl_4, cl_48, cl_57, cl_6, cl_8, cl_96, cl_97, cl_99, cl_999, cl_9999]
  refine cB_i (fun _ => st_bare (fun ro1 rs1 hr1 => ?_)) (fun _ => h _ _ _ _ _ _ _ _ _ _ _ _ _ _ _ _ _ _ _ _ _ hp (Or.inl rfl) (Or.inr rfl) hb.1 hb.2)
  refine nlp14_i (fun f _ a' _ _ nb' _ rp' _ _ _ rw' ro' rs' => 0 ≤ f ∧ f ≤ 5 ∧ 0 ≤ a' ∧ a' ≤ n ∧ 0 ≤ nb' ∧ nb' ≤ 100009 ∧ rI f rp' rw' ro' rs') (fun f _ a' _ _ _ _ _ _ _ _ _ _ _ => if f = 0 then (n - a').toNat + 1 else 0) ?_ ⟨by omega, by omega, by omega, by omega, hb.1, hb.2, hr1 _⟩
  intro f1 p1 a1 w1 we1 nb1 na1 rp1 ts1 ss1 rk1 rw1 ro1 rs1 hi self hself
  obtain ⟨i1, i2, i3, i4, i5, i6, i7⟩ := hi
  refine jn1_s (fun _ => True) (fun z _ => ?_) ?_
  · refine cB_i (fun _ => ?_) (fun _ => wO_i (by (try simp only [iR]); omega) (h _ _ _ _ _ _ _ _ _ _ _ _ _ _ _ _ _ _ _ _ _ hp (Or.inl rfl) (Or.inl rfl) i5 i6))
    exact st_keepHall hh (rI_f i7 (by omega)) (fun pk' pw' oo' sg' hk => h _ _ _ _ _ _ _ _ _ _ _ _ _ _ _ _ _ _ _ _ _ hk (Or.inr rfl) (Or.inl rfl) i5 i6)
  · refine cB_i (fun e => sp_here hn ⟨i3, i4⟩ (fun a2 b1 b2 _ => ?_)) (fun _ => trivial)
    have go : nf_M_takeClause n p1 a2 w1 we1 nb1 na1 rp1 ts1 ss1 F rk1 rw1 ro1 rs1 (fun r45 z32 z33 z34 z35 z36 z37 z38 z39 z40 f41 f42 f43 f44 => self r45 z32 z33 z34 z35 z36 z37 z38 z39 z40 f41 f42 f43 f44) := by
      refine st_takeClause hn hF ⟨by omega, b2⟩ ⟨i5, i6⟩ (rI_f i7 (fun _ => e)) (fun f' p' a' w' we' nb' na' rp' ts' ss' rk' rw' ro' rs' c1 c2 c3 c4 c5 c6 c7 c8 => hself _ _ _ _ _ _ _ _ _ _ _ _ _ _ ⟨c1, c2, by omega, c4, c6, c7, c8⟩ ?_)
      rw [if_pos e]
      split
      · have := c5 (by assumption)
        omega
      · omega
    exact ⟨fun _ _ => cB_i (fun _ => trivial) (fun _ => go), fun _ => cB_t (by decide) trivial⟩
