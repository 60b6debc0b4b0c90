/-! the class: the rush -/
def uI (ls : Int) (tk tp : Int → Int) : Prop := 0 ≤ ls ∧ ls ≤ 20 ∧ ∀ i, 0 ≤ i → i < 16 → 0 ≤ tk i ∧ tk i ≤ 264 ∧ 0 ≤ tp i ∧ tp i ≤ 99
def uA (fa : Int → Int) : Prop := ∀ i h, 0 ≤ i → i ≤ 16 → 0 ≤ h → h < 4 → 0 ≤ fa (i * 4 + h) ∧ fa (i * 4 + h) ≤ 264 * i
def uW (wa gr ts : Int → Int) : Prop := ∀ i, 0 ≤ i → i ≤ 16 → 0 ≤ wa i ∧ wa i ≤ 4224 * i ∧ 0 ≤ gr i ∧ gr i ≤ 264 * i ∧ 0 ≤ ts i ∧ ts i ≤ 99 * i
theorem uA_up {fa : Int → Int} {i h v : Int} (hA : uA fa) (h1 : 0 ≤ i) (h2 : i < 16) (h3 : 0 ≤ h) (h4 : h < 4) (h5 : 0 ≤ v) (h6 : v ≤ 264 * (i + 1)) : uA (ups fa (i * 4 + 4 + h) v) := by
  intro j k j1 j2 k1 k2
  by_cases e : j * 4 + k = i * 4 + 4 + h
  · have ej : j = i + 1 := by omega
    rw [e, ups_s, ej]
    exact ⟨h5, h6⟩
  · rw [ups_n e]
    exact hA j k j1 j2 k1 k2
theorem uA_u2 {fa : Int → Int} {i h v q : Int} (hA : uA fa) (h1 : 0 ≤ i) (h2 : i < 16) (h3 : 0 ≤ h) (h4 : h < 4) (h5 : 0 ≤ v) (h6 : v ≤ 264 * (i + 1)) (e : q = i * 4 + 4 + h) : uA (ups fa q v) := by
  rw [e]
  exact uA_up hA h1 h2 h3 h4 h5 h6
theorem st_serve {ls i hn : Int} {tk tp rw fa wa gr ts : Int → Int} {Q : (Int → Int) → (Int → Int) → (Int → Int) → (Int → Int) → Prop} (hI : uI ls tk tp) (hi : 0 ≤ i ∧ i < 16) (hh : 1 ≤ hn ∧ hn ≤ 4) (hA : uA fa) (hW : uW wa gr ts) (h : ∀ fa' wa' gr' ts', uA fa' → uW wa' gr' ts' → Q fa' wa' gr' ts') : nf_Rush_serve ls tk tp rw fa wa gr ts i hn Q := by
  unfold nf_Rush_serve
  simp only [ci_m1, ci_m10, ci_m1001, ci_m1002, ci_m1003, ci_m1004, ci_0, ci_1, ci_10, ci_100, ci_1000, ci_10000, ci_101, ci_103, ci_104, ci_105, ci_107, ci_108, ci_110, ci_111, ci_114, ci_115, ci_116, ci_118, ci_119, ci_12, ci_122, ci_1431655765, ci_15, ci_16, ci_2, ci_20, ci_23, ci_24, ci_240, ci_252645135, ci_255, ci_256, ci_3, ci_32, ci_4, ci_420, ci_48, ci_5, ci_5040, ci_57, ci_59, ci_6, ci_60, ci_63, ci_64, ci_7, ci_70, ci_8, ci_858993459, ci_9, ci_900, ci_97, ci_99, ci_999, ci_9999, cl_0, cl_1, cl_10, cl_1000000000000, cl_122, cl_2, cl_2000000000000, cl_23, cl_255, cl_27, cl_3, cl_4, cl_48, cl_57, cl_6, cl_8, cl_96, cl_97, cl_99, cl_999, cl_9999]
  obtain ⟨l1, l2, l3⟩ := hI
  refine wO_i (by (try simp only [iR]); omega) ?_
  refine nlp3_i (fun hd hx fa' => 0 ≤ hd ∧ hd < 4 ∧ 0 ≤ hx ∧ hx ≤ hn ∧ uA fa') (fun _ hx _ => (hn - hx).toNat) ?_ ⟨by omega, by omega, by omega, by omega, hA⟩
  intro hd hx f1 hv self hself
  obtain ⟨i1, i2, i3, i4, i5⟩ := hv
  have a1 := i5 i hd hi.1 (by omega) i1 i2
  refine cB_i (fun _ => wO_i (by (try simp only [inb]); omega) (sp_within (cB_i (fun hg => cB_f (by decide) ?_) (fun _ => cB_t rfl (h _ _ _ _ i5 hW))))) (fun _ => ?_)
  · have t1 := l3 (rw i) hg.1 (by omega)
    have w0 := hW i hi.1 (by omega)
    have m1 := mulb l1 l2 (show 0 ≤ f1 (i * 4 + hd) + tk (rw i) by omega) (show f1 (i * 4 + hd) + tk (rw i) ≤ 4224 by omega)
    have td : Int.tdiv (ls * (f1 (i * 4 + hd) + tk (rw i))) 10 = ls * (f1 (i * 4 + hd) + tk (rw i)) / 10 := Int.tdiv_eq_ediv_of_nonneg m1.1
    have mx1 : 0 ≤ imax (gr i) (f1 (i * 4 + hd) + tk (rw i)) ∧ imax (gr i) (f1 (i * 4 + hd) + tk (rw i)) ≤ 264 * (i + 1) := by unfold imax; split <;> omega
    have mx2 : 0 ≤ imax 0 (tp (rw i) - ls * (f1 (i * 4 + hd) + tk (rw i)) / 10) ∧ imax 0 (tp (rw i) - ls * (f1 (i * 4 + hd) + tk (rw i)) / 10) ≤ 99 := by unfold imax; split <;> omega
    repeat' (first | with_reducible refine wO_i ?_ ?_ | with_reducible refine wL_i ?_ | with_reducible refine cB_f (by decide) ?_ | with_reducible refine cB_t (by decide) ?_ | with_reducible refine cB_i (fun _ => ?_) (fun _ => ?_) | with_reducible refine jn0_i ?_ | with_reducible refine jn1_i ?_ | with_reducible refine jn2_i ?_ | with_reducible refine jn3_i ?_ | with_reducible refine jn4_i ?_ | with_reducible refine jn5_i ?_ | with_reducible refine jn6_i ?_)
    all_goals (try simp only [td])
    all_goals (try (simp only [iR, lR, inb, bZ, dOK, or_true, true_or, true_and, and_true] at *)); all_goals (try omega)
    refine h _ _ _ _ (uA_u2 i5 hi.1 hi.2 i1 i2 (by omega) (by omega) rfl) (fun j j1 j2 => ?_)
    by_cases e : j = i + 1
    · subst e
      rw [ups_s, ups_s, ups_s]
      omega
    · rw [ups_n e, ups_n e, ups_n e]
      exact hW j j1 j2
  · have a2 := i5 i hx hi.1 (by omega) i3 (by omega)
    repeat' (first | with_reducible refine wO_i ?_ ?_ | with_reducible refine wL_i ?_ | with_reducible refine cB_f (by decide) ?_ | with_reducible refine cB_t (by decide) ?_ | with_reducible refine cB_i (fun _ => ?_) (fun _ => ?_) | with_reducible refine jn0_i ?_ | with_reducible refine jn1_i ?_ | with_reducible refine jn2_i ?_ | with_reducible refine jn3_i ?_ | with_reducible refine jn4_i ?_ | with_reducible refine jn5_i ?_ | with_reducible refine jn6_i ?_)
    all_goals (try (simp only [iR, lR, inb, bZ, dOK, or_true, true_or, true_and, and_true] at *)); all_goals (try omega)
    all_goals exact hself _ _ _ ⟨by omega, by omega, by omega, by omega, uA_u2 i5 hi.1 hi.2 i3 (by omega) a2.1 (by omega) rfl⟩ (by omega)
theorem st_serveFrom {sz ls fr hn : Int} {tk tp rw fa wa gr ts : Int → Int} {Q : (Int → Int) → (Int → Int) → (Int → Int) → (Int → Int) → Prop} (hI : uI ls tk tp) (hs : 0 ≤ sz ∧ sz ≤ 16) (hA : uA fa) (hW : uW wa gr ts) (h : ∀ fa' wa' gr' ts', uA fa' → uW wa' gr' ts' → Q fa' wa' gr' ts') : nf_Rush_serveFrom sz ls tk tp rw fa wa gr ts fr hn Q := by
  unfold nf_Rush_serveFrom
  simp only [ci_m1, ci_m10, ci_m1001, ci_m1002, ci_m1003, ci_m1004, ci_0, ci_1, ci_10, ci_100, ci_1000, ci_10000, ci_101, ci_103, ci_104, ci_105, ci_107, ci_108, ci_110, ci_111, ci_114, ci_115, ci_116, ci_118, ci_119, ci_12, ci_122, ci_1431655765, ci_15, ci_16, ci_2, ci_20, ci_23, ci_24, ci_240, ci_252645135, ci_255, ci_256, ci_3, ci_32, ci_4, ci_420, ci_48, ci_5, ci_5040, ci_57, ci_59, ci_6, ci_60, ci_63, ci_64, ci_7, ci_70, ci_8, ci_858993459, ci_9, ci_900, ci_97, ci_99, ci_999, ci_9999, cl_0, cl_1, cl_10, cl_1000000000000, cl_122, cl_2, cl_2000000000000, cl_23, cl_255, cl_27, cl_3, cl_4, cl_48, cl_57, cl_6, cl_8, cl_96, cl_97, cl_99, cl_999, cl_9999]
  refine cB_i (fun _ => h _ _ _ _ hA hW) (fun _ => cB_i (fun _ => h _ _ _ _ hA hW) (fun _ => cB_i (fun _ => ?_) (fun _ => h _ _ _ _ hA hW)))
  refine nlp5_i (fun i fa' wa' gr' ts' => 0 ≤ i ∧ uA fa' ∧ uW wa' gr' ts') (fun i _ _ _ _ => (sz - i).toNat) ?_ ⟨by omega, hA, hW⟩
  intro i f1 w1 g1 t1 hi self hself
  obtain ⟨i1, i2, i3⟩ := hi
  refine cB_i (fun _ => h _ _ _ _ i2 i3) (fun _ => st_serve hI ⟨i1, by omega⟩ ⟨by omega, by omega⟩ i2 i3 (fun fa' wa' gr' ts' a b => wO_i (by (try simp only [iR]); omega) (hself _ _ _ _ _ ⟨by omega, a, b⟩ (by omega))))
theorem sp_sumOfWaits {n : Int} {F : Int → Int} {Q : Int → Prop} (hn : 0 ≤ n ∧ n ≤ 16) (h : Q (F n)) : nf_Rush_sumOfWaits n F Q := by
  unfold nf_Rush_sumOfWaits
  exact wO_i ⟨hn.1, by omega⟩ h
theorem sp_greatestWait {n : Int} {F : Int → Int} {Q : Int → Prop} (hn : 0 ≤ n ∧ n ≤ 16) (h : Q (F n)) : nf_Rush_greatestWait n F Q := by
  unfold nf_Rush_greatestWait
  exact wO_i ⟨hn.1, by omega⟩ h
theorem sp_sumOfTips {n : Int} {F : Int → Int} {Q : Int → Prop} (hn : 0 ≤ n ∧ n ≤ 16) (h : Q (F n)) : nf_Rush_sumOfTips n F Q := by
  unfold nf_Rush_sumOfTips
  exact wO_i ⟨hn.1, by omega⟩ h
theorem st_keepAsBest {n bt bw : Int} {rw wa ts be : Int → Int} {Q : Int → Int → (Int → Int) → Prop} (hn : 0 ≤ n ∧ n ≤ 16) (h : ∀ be', Q (ts n) (wa n) be') : nf_Rush_keepAsBest n bt bw rw wa ts be Q := by
  unfold nf_Rush_keepAsBest
  simp only [ci_m1, ci_m10, ci_m1001, ci_m1002, ci_m1003, ci_m1004, ci_0, ci_1, ci_10, ci_100, ci_1000, ci_10000, ci_101, ci_103, ci_104, ci_105, ci_107, ci_108, ci_110, ci_111, ci_114, ci_115, ci_116, ci_118, ci_119, ci_12, ci_122, ci_1431655765, ci_15, ci_16, ci_2, ci_20, ci_23, ci_24, ci_240, ci_252645135, ci_255, ci_256, ci_3, ci_32, ci_4, ci_420, ci_48, ci_5, ci_5040, ci_57, ci_59, ci_6, ci_60, ci_63, ci_64, ci_7, ci_70, ci_8, ci_858993459, ci_9, ci_900, ci_97, ci_99, ci_999, ci_9999, cl_0, cl_1, cl_10, cl_1000000000000, cl_122, cl_2, cl_2000000000000, cl_23, cl_255, cl_27, cl_3, cl_4, cl_48, cl_57, cl_6, cl_8, cl_96, cl_97, cl_99, cl_999, cl_9999]
  refine sp_sumOfTips hn (sp_sumOfWaits hn ?_)
  refine nlp2_i (fun i _ => 0 ≤ i ∧ i ≤ 7) (fun i _ => (7 - i).toNat) ?_ ⟨by omega, by omega⟩
  intro i b1 hi self hself
  repeat' (first | with_reducible refine wO_i ?_ ?_ | with_reducible refine wL_i ?_ | with_reducible refine cB_f (by decide) ?_ | with_reducible refine cB_t (by decide) ?_ | with_reducible refine cB_i (fun _ => ?_) (fun _ => ?_) | with_reducible refine jn0_i ?_ | with_reducible refine jn1_i ?_ | with_reducible refine jn2_i ?_ | with_reducible refine jn3_i ?_ | with_reducible refine jn4_i ?_ | with_reducible refine jn5_i ?_ | with_reducible refine jn6_i ?_)
  all_goals (try (simp only [iR, lR, inb, bZ, dOK, or_true, true_or, true_and, and_true] at *)); all_goals (try omega)
  all_goals first | exact h _ | exact hself _ _ ⟨by omega, by omega⟩ (by omega)
theorem st_swap {a b : Int} {rw : Int → Int} {Q : (Int → Int) → Prop} (h : ∀ rw', Q rw') : nf_Rush_swap rw a b Q := by
  unfold nf_Rush_swap
  simp only [ci_m1, ci_m10, ci_m1001, ci_m1002, ci_m1003, ci_m1004, ci_0, ci_1, ci_10, ci_100, ci_1000, ci_10000, ci_101, ci_103, ci_104, ci_105, ci_107, ci_108, ci_110, ci_111, ci_114, ci_115, ci_116, ci_118, ci_119, ci_12, ci_122, ci_1431655765, ci_15, ci_16, ci_2, ci_20, ci_23, ci_24, ci_240, ci_252645135, ci_255, ci_256, ci_3, ci_32, ci_4, ci_420, ci_48, ci_5, ci_5040, ci_57, ci_59, ci_6, ci_60, ci_63, ci_64, ci_7, ci_70, ci_8, ci_858993459, ci_9, ci_900, ci_97, ci_99, ci_999, ci_9999, cl_0, cl_1, cl_10, cl_1000000000000, cl_122, cl_2, cl_2000000000000, cl_23, cl_255, cl_27, cl_3, cl_4, cl_48, cl_57, cl_6, cl_8, cl_96, cl_97, cl_99, cl_999, cl_9999]
  repeat' (first | with_reducible refine wO_i ?_ ?_ | with_reducible refine wL_i ?_ | with_reducible refine cB_f (by decide) ?_ | with_reducible refine cB_t (by decide) ?_ | with_reducible refine cB_i (fun _ => ?_) (fun _ => ?_) | with_reducible refine jn0_i ?_ | with_reducible refine jn1_i ?_ | with_reducible refine jn2_i ?_ | with_reducible refine jn3_i ?_ | with_reducible refine jn4_i ?_ | with_reducible refine jn5_i ?_ | with_reducible refine jn6_i ?_ | with_reducible refine sp_within ?_)
  all_goals (try (simp only [iR, lR, inb, bZ, dOK, or_true, true_or, true_and, and_true] at *)); all_goals (try omega)
  all_goals exact h _
theorem st_toNextRow {n : Int} {rw : Int → Int} {Q : Int → (Int → Int) → Prop} (hn : 0 ≤ n ∧ n ≤ 16) (h : ∀ r rw', -1 ≤ r → Q r rw') : nf_Rush_toNextRow n rw Q := by
  unfold nf_Rush_toNextRow
  simp only [ci_m1, ci_m10, ci_m1001, ci_m1002, ci_m1003, ci_m1004, ci_0, ci_1, ci_10, ci_100, ci_1000, ci_10000, ci_101, ci_103, ci_104, ci_105, ci_107, ci_108, ci_110, ci_111, ci_114, ci_115, ci_116, ci_118, ci_119, ci_12, ci_122, ci_1431655765, ci_15, ci_16, ci_2, ci_20, ci_23, ci_24, ci_240, ci_252645135, ci_255, ci_256, ci_3, ci_32, ci_4, ci_420, ci_48, ci_5, ci_5040, ci_57, ci_59, ci_6, ci_60, ci_63, ci_64, ci_7, ci_70, ci_8, ci_858993459, ci_9, ci_900, ci_97, ci_99, ci_999, ci_9999, cl_0, cl_1, cl_10, cl_1000000000000, cl_122, cl_2, cl_2000000000000, cl_23, cl_255, cl_27, cl_3, cl_4, cl_48, cl_57, cl_6, cl_8, cl_96, cl_97, cl_99, cl_999, cl_9999]
  refine wO_i (by (try simp only [iR]); omega) ?_
  refine nlp1_i (fun i => -2 ≤ i ∧ i ≤ n - 2) (fun i => (i + 2).toNat) ?_ ⟨by omega, by omega⟩
  intro i hi self hself
  refine jn0_s True (fun _ => ?_) ?_
  · refine cB_i (fun _ => wO_i (by (try simp only [iR]); omega) ?_) (fun _ => h _ _ (by omega))
    refine nlp1_i (fun j => i ≤ j ∧ j ≤ n - 1) (fun j => (j - i).toNat) ?_ ⟨by omega, by omega⟩
    intro j hj self2 hself2
    refine jn0_s True (fun _ => st_swap (fun r1 => wO_i (by (try simp only [iR]); omega) (wO_i (by (try simp only [iR]); omega) ?_))) ?_
    · refine nlp3_i (fun a b _ => i + 1 ≤ a ∧ b ≤ n - 1 ∧ -1 ≤ b ∧ a ≤ n) (fun a b _ => (b - a).toNat) ?_ ⟨by omega, by omega, by omega, by omega⟩
      intro a b r2 hab self3 hself3
      refine cB_i (fun _ => h _ _ (by omega)) (fun _ => st_swap (fun r3 => wO_i (by (try simp only [iR]); omega) (wO_i (by (try simp only [iR]); omega) (hself3 _ _ _ ⟨by omega, by omega, by omega, by omega⟩ (by omega)))))
    · refine cB_i (fun _ => trivial) (fun _ => ?_)
      repeat' (first | with_reducible refine wO_i ?_ ?_ | with_reducible refine wL_i ?_ | with_reducible refine cB_f (by decide) ?_ | with_reducible refine cB_t (by decide) ?_ | with_reducible refine cB_i (fun _ => ?_) (fun _ => ?_) | with_reducible refine jn0_i ?_ | with_reducible refine jn1_i ?_ | with_reducible refine jn2_i ?_ | with_reducible refine jn3_i ?_ | with_reducible refine jn4_i ?_ | with_reducible refine jn5_i ?_ | with_reducible refine jn6_i ?_)
      all_goals (try (simp only [iR, lR, inb, bZ, dOK, or_true, true_or, true_and, and_true] at *)); all_goals (try omega)
      all_goals first | trivial | exact hself2 _ ⟨by omega, by omega⟩ (by omega)
  · refine cB_i (fun _ => trivial) (fun _ => ?_)
    repeat' (first | with_reducible refine wO_i ?_ ?_ | with_reducible refine wL_i ?_ | with_reducible refine cB_f (by decide) ?_ | with_reducible refine cB_t (by decide) ?_ | with_reducible refine cB_i (fun _ => ?_) (fun _ => ?_) | with_reducible refine jn0_i ?_ | with_reducible refine jn1_i ?_ | with_reducible refine jn2_i ?_ | with_reducible refine jn3_i ?_ | with_reducible refine jn4_i ?_ | with_reducible refine jn5_i ?_ | with_reducible refine jn6_i ?_)
    all_goals (try (simp only [iR, lR, inb, bZ, dOK, or_true, true_or, true_and, and_true] at *)); all_goals (try omega)
    all_goals first | trivial | exact hself _ ⟨by omega, by omega⟩ (by omega)
theorem st_findBest {n ls bt bw hd : Int} {tk tp rw fa wa gr ts be : Int → Int} {Q : Int → Int → (Int → Int) → (Int → Int) → (Int → Int) → (Int → Int) → (Int → Int) → (Int → Int) → Prop} (hI : uI ls tk tp) (hn : 0 ≤ n ∧ n ≤ 16) (hA : uA fa) (hW : uW wa gr ts) (h : ∀ b1 b2 rw' fa' wa' gr' ts' be', uA fa' → uW wa' gr' ts' → Q b1 b2 rw' fa' wa' gr' ts' be') : nf_Rush_findBest n ls bt bw tk tp rw fa wa gr ts be hd Q := by
  unfold nf_Rush_findBest
  simp only [ci_m1, ci_m10, ci_m1001, ci_m1002, ci_m1003, ci_m1004, ci_0, ci_1, ci_10, ci_100, ci_1000, ci_10000, ci_101, ci_103, ci_104, ci_105, ci_107, ci_108, ci_110, ci_111, ci_114, ci_115, ci_116, ci_118, ci_119, ci_12, ci_122, ci_1431655765, ci_15, ci_16, ci_2, ci_20, ci_23, ci_24, ci_240, ci_252645135, ci_255, ci_256, ci_3, ci_32, ci_4, ci_420, ci_48, ci_5, ci_5040, ci_57, ci_59, ci_6, ci_60, ci_63, ci_64, ci_7, ci_70, ci_8, ci_858993459, ci_9, ci_900, ci_97, ci_99, ci_999, ci_9999, cl_0, cl_1, cl_10, cl_1000000000000, cl_122, cl_2, cl_2000000000000, cl_23, cl_255, cl_27, cl_3, cl_4, cl_48, cl_57, cl_6, cl_8, cl_96, cl_97, cl_99, cl_999, cl_9999]
  refine st_serveFrom hI hn hA hW (fun f1 w1 g1 t1 a1 a2 => st_keepAsBest hn (fun be1 => ?_))
  refine nlp9_i (fun k _ _ _ fa' wa' gr' ts' _ => 1 ≤ k ∧ k ≤ 5040 ∧ uA fa' ∧ uW wa' gr' ts') (fun k _ _ _ _ _ _ _ _ => (5040 - k).toNat) ?_ ⟨by omega, by omega, a1, a2⟩
  intro k c1 c2 rw1 f2 w2 g2 t2 be2 hi self hself
  obtain ⟨i1, i2, i3, i4⟩ := hi
  refine cB_i (fun _ => h _ _ _ _ _ _ _ _ i3 i4) (fun _ => st_toNextRow hn (fun r rw2 _ => cB_i (fun _ => h _ _ _ _ _ _ _ _ i3 i4) (fun _ => ?_)))
  refine st_serveFrom hI hn i3 i4 (fun f3 w3 g3 t3 b1 b2 => sp_sumOfTips hn (jn1_s (fun _ => True) (fun t25 _ => sp_sumOfTips hn ?_) (cB_i (fun _ => trivial) (fun _ => trivial))))
  refine jn3_s (fun _ _ _ => True) (fun x1 x2 x3 _ => wO_i (by (try simp only [iR]); omega) (hself _ _ _ _ _ _ _ _ _ ⟨by omega, by omega, b1, b2⟩ (by omega))) ?_
  refine jn0_s True (fun _ => st_keepAsBest hn (fun _ => trivial)) ?_
  exact cB_i (fun _ => trivial) (fun _ => cB_i (fun _ => trivial) (fun _ => sp_sumOfWaits hn (cB_i (fun _ => trivial) (fun _ => trivial))))
theorem st_loadU {n hp ht hl sz ls set : Int} {gt gp hw tk tp rw : Int → Int} {Q : Int → Int → (Int → Int) → (Int → Int) → (Int → Int) → Prop} (hn : 0 ≤ n ∧ n ≤ 16) (hg : ∀ i, 0 ≤ i → i < 16 → 0 ≤ gt i ∧ gt i ≤ 99) (hh : 0 ≤ ht ∧ ht ≤ 20 ∧ 0 ≤ hl ∧ hl ≤ 20) (hwk : ∀ q, 0 ≤ q → q < hp → 0 ≤ hw q ∧ hw q ≤ 122) (hI : uI ls tk tp) (h : ∀ sz' tk' tp' rw', 0 ≤ sz' → sz' ≤ 16 → uI hl tk' tp' → Q sz' hl tk' tp' rw') : nf_Rush_load n gt gp hp ht hl hw sz ls tk tp rw set Q := by
  unfold nf_Rush_load
  simp only [ci_m1, ci_m10, ci_m1001, ci_m1002, ci_m1003, ci_m1004, ci_0, ci_1, ci_10, ci_100, ci_1000, ci_10000, ci_101, ci_103, ci_104, ci_105, ci_107, ci_108, ci_110, ci_111, ci_114, ci_115, ci_116, ci_118, ci_119, ci_12, ci_122, ci_1431655765, ci_15, ci_16, ci_2, ci_20, ci_23, ci_24, ci_240, ci_252645135, ci_255, ci_256, ci_3, ci_32, ci_4, ci_420, ci_48, ci_5, ci_5040, ci_57, ci_59, ci_6, ci_60, ci_63, ci_64, ci_7, ci_70, ci_8, ci_858993459, ci_9, ci_900, ci_97, ci_99, ci_999, ci_9999, cl_0, cl_1, cl_10, cl_1000000000000, cl_122, cl_2, cl_2000000000000, cl_23, cl_255, cl_27, cl_3, cl_4, cl_48, cl_57, cl_6, cl_8, cl_96, cl_97, cl_99, cl_999, cl_9999]
  refine nlp5_i (fun g s tk' tp' _ => 0 ≤ g ∧ g ≤ n ∧ 0 ≤ s ∧ s ≤ g ∧ uI hl tk' tp') (fun g _ _ _ _ => (n - g).toNat) ?_ ⟨by omega, by omega, by omega, by omega, ⟨hh.2.2.1, hh.2.2.2, hI.2.2⟩⟩
  intro g s k1 p1 r1 hi self hself
  obtain ⟨i1, i2, i3, i4, i5⟩ := hi
  refine cB_i (fun _ => h _ _ _ _ i3 (by omega) i5) (fun _ => wL_i (wL_i ?_))
  refine jn4_s (fun s' tk' tp' _ => 0 ≤ s' ∧ s' ≤ g + 1 ∧ uI hl tk' tp') (fun s' tk' tp' rw' hs => wO_i (by (try simp only [iR]); omega) (hself _ _ _ _ _ ⟨by omega, by omega, hs.1, hs.2.1, hs.2.2⟩ (by omega))) ?_
  refine cB_i (fun _ => wO_i (by (try simp only [inb]); omega) ?_) (fun _ => ⟨i3, by omega, i5⟩)
  have key : ∀ w9, 0 ≤ w9 → w9 ≤ 122 → ∀ k, 0 ≤ k → k < 16 → 0 ≤ ups k1 g (2 * w9 + ht) k ∧ ups k1 g (2 * w9 + ht) k ≤ 264 ∧ 0 ≤ ups p1 g (gt g) k ∧ ups p1 g (gt g) k ≤ 99 := by
    intro w9 w1 w2 k k1' k2'
    have gg := hg g i1 (by omega)
    by_cases e : k = g
    · subst e; rw [ups_s, ups_s]; omega
    · rw [ups_n e, ups_n e]; exact i5.2.2 k k1' k2'
  refine sp_walkOf (cB_i (fun hq => ?_) (fun _ => ?_))
  · have w1 := hwk _ hq.1 hq.2.1
    repeat' (first | with_reducible refine wO_i ?_ ?_ | with_reducible refine wL_i ?_ | with_reducible refine cB_f (by decide) ?_ | with_reducible refine cB_t (by decide) ?_ | with_reducible refine cB_i (fun _ => ?_) (fun _ => ?_) | with_reducible refine jn0_i ?_ | with_reducible refine jn1_i ?_ | with_reducible refine jn2_i ?_ | with_reducible refine jn3_i ?_ | with_reducible refine jn4_i ?_ | with_reducible refine jn5_i ?_ | with_reducible refine jn6_i ?_)
    all_goals (try (simp only [iR, lR, inb, bZ, dOK, or_true, true_or, true_and, and_true] at *)); all_goals (try omega)
    exact ⟨by omega, by omega, hh.2.2.1, hh.2.2.2, key _ w1.1 w1.2⟩
  · repeat' (first | with_reducible refine wO_i ?_ ?_ | with_reducible refine wL_i ?_ | with_reducible refine cB_f (by decide) ?_ | with_reducible refine cB_t (by decide) ?_ | with_reducible refine cB_i (fun _ => ?_) (fun _ => ?_) | with_reducible refine jn0_i ?_ | with_reducible refine jn1_i ?_ | with_reducible refine jn2_i ?_ | with_reducible refine jn3_i ?_ | with_reducible refine jn4_i ?_ | with_reducible refine jn5_i ?_ | with_reducible refine jn6_i ?_)
    all_goals (try (simp only [iR, lR, inb, bZ, dOK, or_true, true_or, true_and, and_true] at *)); all_goals (try omega)
    exact ⟨by omega, by omega, hh.2.2.1, hh.2.2.2, key 0 (by omega) (by omega)⟩
