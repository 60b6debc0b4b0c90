/-! the class: its face -/
def cG (gn : Int) (gt : Int → Int) : Prop := (0 ≤ gn ∧ gn ≤ 16) ∧ ∀ i, 0 ≤ i → i < 16 → 0 ≤ gt i ∧ gt i ≤ 99
def cN (nn : Int) (L : Int → Int) : Prop := 0 ≤ nn ∧ nn ≤ 60 ∧ ∀ k, 0 ≤ k → k < 24 → 0 ≤ L k ∧ L k ≤ 999 * nn
def cP (pe : Int → Int) : Prop := ∀ k, 0 ≤ k → k < 16 → 0 ≤ pe k ∧ pe k ≤ 27000
abbrev cT (L : Int → Int) : Prop := ∀ k, 0 ≤ k → k < 24 → 0 ≤ L k ∧ L k ≤ 59940
theorem cN_T {nn : Int} {L : Int → Int} (h : cN nn L) : cT L := fun k a b => by
  have := h.2.2 k a b
  have := h.2.1
  omega
theorem st_Hfeed {n x w : Int} {F : Int → Int} {Q : Int → Int → (Int → Int) → Prop} (hn : 0 ≤ n ∧ n ≤ 240) (h : ∀ r n' F', 0 ≤ n' → n' ≤ 240 → Q r n' F') : nf_H_feed n F x w Q := by
  unfold nf_H_feed
  simp only [ci_m1, ci_m10, ci_m1001, ci_m1002, ci_m1003, ci_m1004, ci_0, ci_1, ci_10, ci_100, ci_1000, ci_10000, ci_101, ci_103, ci_104, ci_105, ci_107, ci_108, ci_110, ci_111, ci_114, ci_115, ci_116, ci_118, ci_119, ci_12, ci_122, ci_1431655765, ci_15, ci_16, ci_2, ci_20, ci_23, ci_24, ci_240, ci_252645135, ci_255, ci_256, ci_3, ci_32, ci_4, ci_420, ci_48, ci_5, ci_5040, ci_57, ci_59, ci_6, ci_60, ci_63, ci_64, ci_7, ci_70, ci_8, ci_858993459, ci_9, ci_900, ci_97, ci_99, ci_999, ci_9999, cl_0, cl_1, cl_10, cl_1000000000000, cl_122, cl_2, cl_2000000000000, cl_23, cl_255, cl_27, cl_3, cl_4, cl_48, cl_57, cl_6, cl_8, cl_96, cl_97, cl_99, cl_999, cl_9999]
  refine sp_within (cB_i (fun a1 => cB_f (by decide) ?_) (fun _ => cB_t rfl (h _ _ _ hn.1 hn.2)))
  exact wO_i (by simp only [iR]; omega) (cB_i (fun _ => st_append hn a1 (fun n' F' b1 b2 => h _ _ _ (by omega) b2)) (fun _ => h _ _ _ hn.1 hn.2))
theorem st_Hpeg {gn hp x y : Int} {gp hk hw : Int → Int} {Q : Int → Prop} (hg : 0 ≤ gn ∧ gn ≤ 16) (h : ∀ r, Q r) : nf_H_peg gn gp hp hk hw x y Q := by
  unfold nf_H_peg
  simp only [ci_m1, ci_m10, ci_m1001, ci_m1002, ci_m1003, ci_m1004, ci_0, ci_1, ci_10, ci_100, ci_1000, ci_10000, ci_101, ci_103, ci_104, ci_105, ci_107, ci_108, ci_110, ci_111, ci_114, ci_115, ci_116, ci_118, ci_119, ci_12, ci_122, ci_1431655765, ci_15, ci_16, ci_2, ci_20, ci_23, ci_24, ci_240, ci_252645135, ci_255, ci_256, ci_3, ci_32, ci_4, ci_420, ci_48, ci_5, ci_5040, ci_57, ci_59, ci_6, ci_60, ci_63, ci_64, ci_7, ci_70, ci_8, ci_858993459, ci_9, ci_900, ci_97, ci_99, ci_999, ci_9999, cl_0, cl_1, cl_10, cl_1000000000000, cl_122, cl_2, cl_2000000000000, cl_23, cl_255, cl_27, cl_3, cl_4, cl_48, cl_57, cl_6, cl_8, cl_96, cl_97, cl_99, cl_999, cl_9999]
  repeat' (first | with_reducible refine wO_i ?_ ?_ | with_reducible refine wL_i ?_ | with_reducible refine cB_f (by decide) ?_ | with_reducible refine cB_t (by decide) ?_ | with_reducible refine cB_i (fun _ => ?_) (fun _ => ?_) | with_reducible refine jn0_i ?_ | with_reducible refine jn1_i ?_ | with_reducible refine jn2_i ?_ | with_reducible refine jn3_i ?_ | with_reducible refine jn4_i ?_ | with_reducible refine jn5_i ?_ | with_reducible refine jn6_i ?_ | with_reducible refine sp_hasPeg ?_ | with_reducible refine sp_ownerOn hg (fun r _ _ _ _ => ?_))
  all_goals (try (simp only [iR, lR, inb, bZ, dOK, or_true, true_or, true_and, and_true] at *)); all_goals (try omega)
  all_goals exact h _
theorem st_Hodds {x y : Int} {hs : Int → Int} {Q : Int → Prop} (h : ∀ r, Q r) : nf_H_odds hs x y Q := by
  unfold nf_H_odds
  simp only [ci_m1, ci_m10, ci_m1001, ci_m1002, ci_m1003, ci_m1004, ci_0, ci_1, ci_10, ci_100, ci_1000, ci_10000, ci_101, ci_103, ci_104, ci_105, ci_107, ci_108, ci_110, ci_111, ci_114, ci_115, ci_116, ci_118, ci_119, ci_12, ci_122, ci_1431655765, ci_15, ci_16, ci_2, ci_20, ci_23, ci_24, ci_240, ci_252645135, ci_255, ci_256, ci_3, ci_32, ci_4, ci_420, ci_48, ci_5, ci_5040, ci_57, ci_59, ci_6, ci_60, ci_63, ci_64, ci_7, ci_70, ci_8, ci_858993459, ci_9, ci_900, ci_97, ci_99, ci_999, ci_9999, cl_0, cl_1, cl_10, cl_1000000000000, cl_122, cl_2, cl_2000000000000, cl_23, cl_255, cl_27, cl_3, cl_4, cl_48, cl_57, cl_6, cl_8, cl_96, cl_97, cl_99, cl_999, cl_9999]
  repeat' (first | with_reducible refine wO_i ?_ ?_ | with_reducible refine wL_i ?_ | with_reducible refine cB_f (by decide) ?_ | with_reducible refine cB_t (by decide) ?_ | with_reducible refine cB_i (fun _ => ?_) (fun _ => ?_) | with_reducible refine jn0_i ?_ | with_reducible refine jn1_i ?_ | with_reducible refine jn2_i ?_ | with_reducible refine jn3_i ?_ | with_reducible refine jn4_i ?_ | with_reducible refine jn5_i ?_ | with_reducible refine jn6_i ?_ | with_reducible refine sp_within ?_ | with_reducible refine sp_shareOf ?_)
  all_goals exact h _
theorem st_Hcount {a b c d e f g k x : Int} {hx : Int → Int} {Q : Int → Prop} (h : ∀ r, Q r) : nf_H_count a b c d e f g hx k x Q := by
  unfold nf_H_count
  simp only [ci_m1, ci_m10, ci_m1001, ci_m1002, ci_m1003, ci_m1004, ci_0, ci_1, ci_10, ci_100, ci_1000, ci_10000, ci_101, ci_103, ci_104, ci_105, ci_107, ci_108, ci_110, ci_111, ci_114, ci_115, ci_116, ci_118, ci_119, ci_12, ci_122, ci_1431655765, ci_15, ci_16, ci_2, ci_20, ci_23, ci_24, ci_240, ci_252645135, ci_255, ci_256, ci_3, ci_32, ci_4, ci_420, ci_48, ci_5, ci_5040, ci_57, ci_59, ci_6, ci_60, ci_63, ci_64, ci_7, ci_70, ci_8, ci_858993459, ci_9, ci_900, ci_97, ci_99, ci_999, ci_9999, cl_0, cl_1, cl_10, cl_1000000000000, cl_122, cl_2, cl_2000000000000, cl_23, cl_255, cl_27, cl_3, cl_4, cl_48, cl_57, cl_6, cl_8, cl_96, cl_97, cl_99, cl_999, cl_9999]
  repeat' (first | with_reducible refine wO_i ?_ ?_ | with_reducible refine wL_i ?_ | with_reducible refine cB_f (by decide) ?_ | with_reducible refine cB_t (by decide) ?_ | with_reducible refine cB_i (fun _ => ?_) (fun _ => ?_) | with_reducible refine jn0_i ?_ | with_reducible refine jn1_i ?_ | with_reducible refine jn2_i ?_ | with_reducible refine jn3_i ?_ | with_reducible refine jn4_i ?_ | with_reducible refine jn5_i ?_ | with_reducible refine jn6_i ?_ | with_reducible refine sp_weightOf ?_)
  all_goals exact h _
theorem st_Hguest {gn x1 x2 x3 x4 : Int} {gs gk gt gm gb gp gh : Int → Int} {Q : Int → Int → (Int → Int) → (Int → Int) → (Int → Int) → (Int → Int) → (Int → Int) → (Int → Int) → (Int → Int) → Prop} (hg : cG gn gt) (h : ∀ r gn' gs' gk' gt' gm' gb' gp' gh', cG gn' gt' → Q r gn' gs' gk' gt' gm' gb' gp' gh') : nf_H_guest gn gs gk gt gm gb gp gh x1 x2 x3 x4 Q := by
  unfold nf_H_guest nf_Guests_add
  simp only [ci_m1, ci_m10, ci_m1001, ci_m1002, ci_m1003, ci_m1004, ci_0, ci_1, ci_10, ci_100, ci_1000, ci_10000, ci_101, ci_103, ci_104, ci_105, ci_107, ci_108, ci_110, ci_111, ci_114, ci_115, ci_116, ci_118, ci_119, ci_12, ci_122, ci_1431655765, ci_15, ci_16, ci_2, ci_20, ci_23, ci_24, ci_240, ci_252645135, ci_255, ci_256, ci_3, ci_32, ci_4, ci_420, ci_48, ci_5, ci_5040, ci_57, ci_59, ci_6, ci_60, ci_63, ci_64, ci_7, ci_70, ci_8, ci_858993459, ci_9, ci_900, ci_97, ci_99, ci_999, ci_9999, cl_0, cl_1, cl_10, cl_1000000000000, cl_122, cl_2, cl_2000000000000, cl_23, cl_255, cl_27, cl_3, cl_4, cl_48, cl_57, cl_6, cl_8, cl_96, cl_97, cl_99, cl_999, cl_9999]
  have g0 := hg.1
  refine sp_within (cB_i (fun a1 => cB_f (by decide) ?_) (fun _ => cB_t rfl (h _ _ _ _ _ _ _ _ _ hg)))
  refine sp_within (cB_i (fun a2 => cB_f (by decide) ?_) (fun _ => cB_t rfl (h _ _ _ _ _ _ _ _ _ hg)))
  refine sp_within (cB_i (fun a3 => cB_f (by decide) ?_) (fun _ => cB_t rfl (h _ _ _ _ _ _ _ _ _ hg)))
  refine sp_within (cB_i (fun a4 => cB_f (by decide) ?_) (fun _ => cB_t rfl (h _ _ _ _ _ _ _ _ _ hg)))
  refine cB_i (fun _ => cB_i (fun _ => h _ _ _ _ _ _ _ _ _ hg) (fun _ => cB_i (fun _ => ?_) (fun _ => h _ _ _ _ _ _ _ _ _ hg))) (fun _ => h _ _ _ _ _ _ _ _ _ hg)
  have q : inb gn 16 := by simp only [inb]; omega
  refine wO_i q (wO_i q (wO_i q (wO_i q (wO_i q (wO_i q (wO_i q (wO_i (by simp only [iR]; omega) (h _ _ _ _ _ _ _ _ _ ⟨⟨by omega, by omega⟩, fun k k0 k1 => ?_⟩))))))))
  by_cases e : k = gn
  · rw [e, ups_s]; exact a3
  · rw [ups_n e]; exact hg.2 k k0 k1
theorem st_Htold {np nw gn x y ht hl hp : Int} {gs gk gt gm gb gp gh L hw hs hx : Int → Int} {Q : Int → Prop} (hg : 0 ≤ gn ∧ gn ≤ 16) (hL : cT L) (hd : dI 0 hp ht hl hw hs hx) (h : ∀ r, Q r) : nf_H_told np nw gn gs gk gt gm gb gp gh L hs hx x y Q := by
  unfold nf_H_told
  simp only [ci_m1, ci_m10, ci_m1001, ci_m1002, ci_m1003, ci_m1004, ci_0, ci_1, ci_10, ci_100, ci_1000, ci_10000, ci_101, ci_103, ci_104, ci_105, ci_107, ci_108, ci_110, ci_111, ci_114, ci_115, ci_116, ci_118, ci_119, ci_12, ci_122, ci_1431655765, ci_15, ci_16, ci_2, ci_20, ci_23, ci_24, ci_240, ci_252645135, ci_255, ci_256, ci_3, ci_32, ci_4, ci_420, ci_48, ci_5, ci_5040, ci_57, ci_59, ci_6, ci_60, ci_63, ci_64, ci_7, ci_70, ci_8, ci_858993459, ci_9, ci_900, ci_97, ci_99, ci_999, ci_9999, cl_0, cl_1, cl_10, cl_1000000000000, cl_122, cl_2, cl_2000000000000, cl_23, cl_255, cl_27, cl_3, cl_4, cl_48, cl_57, cl_6, cl_8, cl_96, cl_97, cl_99, cl_999, cl_9999]
  obtain ⟨d1, d2, d3, d4⟩ := hd
  obtain ⟨e1, e2, e3, e4, e5, e6⟩ := d4 rfl
  repeat' (first | with_reducible refine wO_i ?_ ?_ | with_reducible refine wL_i ?_ | with_reducible refine cB_f (by decide) ?_ | with_reducible refine cB_t (by decide) ?_ | with_reducible refine cB_i (fun _ => ?_) (fun _ => ?_) | with_reducible refine jn0_i ?_ | with_reducible refine jn1_i ?_ | with_reducible refine jn2_i ?_ | with_reducible refine jn3_i ?_ | with_reducible refine jn4_i ?_ | with_reducible refine jn5_i ?_ | with_reducible refine jn6_i ?_ | with_reducible refine sp_knows ?_ | with_reducible refine sp_holderOf hg (fun r _ _ _ _ => ?_) | with_reducible refine st_expectedOf hL e5 e6 (fun r _ _ => ?_))
  all_goals (try (simp only [iR, lR, inb, bZ, dOK, or_true, true_or, true_and, and_true] at *)); all_goals (try omega)
  all_goals exact h _
theorem st_Hplan {np nw gn x y ht hl hp sm : Int} {gs gk L hk hw hs hx pe pf pt : Int → Int} {Q : Int → Int → (Int → Int) → (Int → Int) → (Int → Int) → Prop} (hg : 0 ≤ gn ∧ gn ≤ 16) (hL : cT L) (hd : dI 0 hp ht hl hw hs hx) (hp0 : cP pe) (h : ∀ r s pe' f t, cP pe' → Q r s pe' f t) : nf_H_plan np nw gn gs gk L hp hk hw hs hx sm pe pf pt x y Q := by
  unfold nf_H_plan
  simp only [ci_m1, ci_m10, ci_m1001, ci_m1002, ci_m1003, ci_m1004, ci_0, ci_1, ci_10, ci_100, ci_1000, ci_10000, ci_101, ci_103, ci_104, ci_105, ci_107, ci_108, ci_110, ci_111, ci_114, ci_115, ci_116, ci_118, ci_119, ci_12, ci_122, ci_1431655765, ci_15, ci_16, ci_2, ci_20, ci_23, ci_24, ci_240, ci_252645135, ci_255, ci_256, ci_3, ci_32, ci_4, ci_420, ci_48, ci_5, ci_5040, ci_57, ci_59, ci_6, ci_60, ci_63, ci_64, ci_7, ci_70, ci_8, ci_858993459, ci_9, ci_900, ci_97, ci_99, ci_999, ci_9999, cl_0, cl_1, cl_10, cl_1000000000000, cl_122, cl_2, cl_2000000000000, cl_23, cl_255, cl_27, cl_3, cl_4, cl_48, cl_57, cl_6, cl_8, cl_96, cl_97, cl_99, cl_999, cl_9999]
  obtain ⟨d1, d2, d3, d4⟩ := hd
  obtain ⟨e1, e2, e3, e4, e5, e6⟩ := d4 rfl
  refine jn0_s True (fun _ => ?_) (cB_i (fun _ => trivial) (fun _ => sp_knows (cB_i (fun _ => cB_f (by decide) trivial) (fun _ => cB_t rfl (h _ _ _ _ _ hp0)))))
  refine nlp2_i (fun i pe' => 0 ≤ i ∧ i ≤ gn ∧ cP pe') (fun i _ => (gn - i).toNat) ?_ ⟨by omega, by omega, hp0⟩
  intro i pe1 hi self hself
  obtain ⟨i1, i2, i3⟩ := hi
  refine cB_i (fun _ => ?_) (fun _ => ?_)
  · refine st_make hg ⟨d1, d2⟩ i3 d3 (fun r s f t _ => cB_i (fun _ => h _ _ _ _ _ i3) (fun _ => cB_i (fun _ => h _ _ _ _ _ i3) (fun _ => ?_)))
    unfold nf_Plan_pegOf
    simp only [ci_m1, ci_m10, ci_m1001, ci_m1002, ci_m1003, ci_m1004, ci_0, ci_1, ci_10, ci_100, ci_1000, ci_10000, ci_101, ci_103, ci_104, ci_105, ci_107, ci_108, ci_110, ci_111, ci_114, ci_115, ci_116, ci_118, ci_119, ci_12, ci_122, ci_1431655765, ci_15, ci_16, ci_2, ci_20, ci_23, ci_24, ci_240, ci_252645135, ci_255, ci_256, ci_3, ci_32, ci_4, ci_420, ci_48, ci_5, ci_5040, ci_57, ci_59, ci_6, ci_60, ci_63, ci_64, ci_7, ci_70, ci_8, ci_858993459, ci_9, ci_900, ci_97, ci_99, ci_999, ci_9999, cl_0, cl_1, cl_10, cl_1000000000000, cl_122, cl_2, cl_2000000000000, cl_23, cl_255, cl_27, cl_3, cl_4, cl_48, cl_57, cl_6, cl_8, cl_96, cl_97, cl_99, cl_999, cl_9999]
    exact sp_within (cB_i (fun _ => cB_f (by decide) (wO_i (by simp only [inb]; omega) (h _ _ _ _ _ i3))) (fun _ => cB_t rfl (h _ _ _ _ _ i3)))
  · refine st_expectedOf hL e5 e6 (fun r r0 r1 => wO_i (by simp only [inb]; omega) (wO_i (by simp only [iR]; omega) (hself _ _ ⟨by omega, by omega, fun k k0 k1 => ?_⟩ (by omega))))
    by_cases e : k = i
    · rw [e, ups_s]; exact ⟨r0, r1⟩
    · rw [ups_n e]; exact i3 k k0 k1
theorem st_Hnight {nn x1 x2 x3 x4 x5 : Int} {L : Int → Int} {Q : Int → Int → (Int → Int) → Prop} (hL : cN nn L) (h : ∀ r nn' L', cN nn' L' → Q r nn' L') : nf_H_night nn L x1 x2 x3 x4 x5 Q := by
  unfold nf_H_night nf_Nights_add
  simp only [ci_m1, ci_m10, ci_m1001, ci_m1002, ci_m1003, ci_m1004, ci_0, ci_1, ci_10, ci_100, ci_1000, ci_10000, ci_101, ci_103, ci_104, ci_105, ci_107, ci_108, ci_110, ci_111, ci_114, ci_115, ci_116, ci_118, ci_119, ci_12, ci_122, ci_1431655765, ci_15, ci_16, ci_2, ci_20, ci_23, ci_24, ci_240, ci_252645135, ci_255, ci_256, ci_3, ci_32, ci_4, ci_420, ci_48, ci_5, ci_5040, ci_57, ci_59, ci_6, ci_60, ci_63, ci_64, ci_7, ci_70, ci_8, ci_858993459, ci_9, ci_900, ci_97, ci_99, ci_999, ci_9999, cl_0, cl_1, cl_10, cl_1000000000000, cl_122, cl_2, cl_2000000000000, cl_23, cl_255, cl_27, cl_3, cl_4, cl_48, cl_57, cl_6, cl_8, cl_96, cl_97, cl_99, cl_999, cl_9999]
  obtain ⟨n0, n1, hl⟩ := hL
  have no := fun r => h r nn L ⟨n0, n1, hl⟩
  refine sp_within (cB_i (fun a1 => cB_f (by decide) ?_) (fun _ => cB_t rfl (no _)))
  refine sp_within (cB_i (fun a2 => cB_f (by decide) ?_) (fun _ => cB_t rfl (no _)))
  refine sp_within (cB_i (fun a3 => cB_f (by decide) ?_) (fun _ => cB_t rfl (no _)))
  refine sp_within (cB_i (fun a4 => cB_f (by decide) ?_) (fun _ => cB_t rfl (no _)))
  refine sp_within (cB_i (fun a5 => cB_f (by decide) ?_) (fun _ => cB_t rfl (no _)))
  refine cB_i (fun hn => ?_) (fun _ => no _)
  refine sp_within (cB_i (fun _ => cB_f (by decide) ?_) (fun _ => cB_t rfl (no _)))
  refine sp_within (cB_i (fun _ => cB_f (by decide) ?_) (fun _ => cB_t rfl (no _)))
  refine wO_i (by simp only [iR]; omega) (wO_i (by simp only [iR]; omega) (wO_i (by simp only [iR]; omega) ?_))
  have q0 : 0 ≤ (x1 * 2 + x2) * 3 ∧ (x1 * 2 + x2) * 3 + 2 < 24 := by omega
  generalize (x1 * 2 + x2) * 3 = i at *
  have l0 := hl i (by omega) (by omega)
  have l1 := hl (i + 1) (by omega) (by omega)
  have l2 := hl (i + 2) (by omega) (by omega)
  have u1 : ups L i (L i + x3) (i + 1) = L (i + 1) := ups_n (by omega)
  have u2 : ups (ups L i (L i + x3)) (i + 1) (L (i + 1) + x4) (i + 2) = L (i + 2) := by rw [ups_n (by omega), ups_n (by omega)]
  refine wO_i (by simp only [inb]; omega) (wO_i (by simp only [iR]; omega) (wO_i (by simp only [inb]; omega) (wO_i (by simp only [iR]; omega) (wO_i (by simp only [inb]; omega) ?_))))
  rw [u1]
  refine wO_i (by simp only [iR]; omega) (wO_i (by simp only [inb]; omega) (wO_i (by simp only [iR]; omega) (wO_i (by simp only [inb]; omega) ?_)))
  rw [u2]
  refine wO_i (by simp only [iR]; omega) (wO_i (by simp only [inb]; omega) (wO_i (by simp only [iR]; omega) (h _ _ _ ⟨by omega, by omega, fun k k0 k1 => ?_⟩)))
  have lk := hl k k0 k1
  by_cases e2 : k = i + 2
  · rw [e2, ups_s]; omega
  · rw [ups_n e2]
    by_cases e1 : k = i + 1
    · rw [e1, ups_s]; omega
    · rw [ups_n e1]
      by_cases e0 : k = i
      · rw [e0, ups_s]; omega
      · rw [ups_n e0]; omega
theorem st_Hlearnt {x1 x2 x3 : Int} {L : Int → Int} {Q : Int → Prop} (hL : cT L) (h : ∀ r, Q r) : nf_H_learnt L x1 x2 x3 Q := by
  unfold nf_H_learnt
  simp only [ci_m1, ci_m10, ci_m1001, ci_m1002, ci_m1003, ci_m1004, ci_0, ci_1, ci_10, ci_100, ci_1000, ci_10000, ci_101, ci_103, ci_104, ci_105, ci_107, ci_108, ci_110, ci_111, ci_114, ci_115, ci_116, ci_118, ci_119, ci_12, ci_122, ci_1431655765, ci_15, ci_16, ci_2, ci_20, ci_23, ci_24, ci_240, ci_252645135, ci_255, ci_256, ci_3, ci_32, ci_4, ci_420, ci_48, ci_5, ci_5040, ci_57, ci_59, ci_6, ci_60, ci_63, ci_64, ci_7, ci_70, ci_8, ci_858993459, ci_9, ci_900, ci_97, ci_99, ci_999, ci_9999, cl_0, cl_1, cl_10, cl_1000000000000, cl_122, cl_2, cl_2000000000000, cl_23, cl_255, cl_27, cl_3, cl_4, cl_48, cl_57, cl_6, cl_8, cl_96, cl_97, cl_99, cl_999, cl_9999]
  repeat' (first | with_reducible refine wO_i ?_ ?_ | with_reducible refine wL_i ?_ | with_reducible refine cB_f (by decide) ?_ | with_reducible refine cB_t (by decide) ?_ | with_reducible refine cB_i (fun _ => ?_) (fun _ => ?_) | with_reducible refine jn0_i ?_ | with_reducible refine jn1_i ?_ | with_reducible refine jn2_i ?_ | with_reducible refine jn3_i ?_ | with_reducible refine jn4_i ?_ | with_reducible refine jn5_i ?_ | with_reducible refine jn6_i ?_ | with_reducible refine sp_within ?_ | with_reducible refine st_oddsOf hL (fun r _ _ => ?_))
  all_goals exact h _
theorem st_Htonight {np nw x1 x2 : Int} {Q : Int → Int → Int → Prop} (h : ∀ r a b, Q r a b) : nf_H_tonight np nw x1 x2 Q := by
  unfold nf_H_tonight
  simp only [ci_m1, ci_m10, ci_m1001, ci_m1002, ci_m1003, ci_m1004, ci_0, ci_1, ci_10, ci_100, ci_1000, ci_10000, ci_101, ci_103, ci_104, ci_105, ci_107, ci_108, ci_110, ci_111, ci_114, ci_115, ci_116, ci_118, ci_119, ci_12, ci_122, ci_1431655765, ci_15, ci_16, ci_2, ci_20, ci_23, ci_24, ci_240, ci_252645135, ci_255, ci_256, ci_3, ci_32, ci_4, ci_420, ci_48, ci_5, ci_5040, ci_57, ci_59, ci_6, ci_60, ci_63, ci_64, ci_7, ci_70, ci_8, ci_858993459, ci_9, ci_900, ci_97, ci_99, ci_999, ci_9999, cl_0, cl_1, cl_10, cl_1000000000000, cl_122, cl_2, cl_2000000000000, cl_23, cl_255, cl_27, cl_3, cl_4, cl_48, cl_57, cl_6, cl_8, cl_96, cl_97, cl_99, cl_999, cl_9999]
  repeat' (first | with_reducible refine wO_i ?_ ?_ | with_reducible refine wL_i ?_ | with_reducible refine cB_f (by decide) ?_ | with_reducible refine cB_t (by decide) ?_ | with_reducible refine cB_i (fun _ => ?_) (fun _ => ?_) | with_reducible refine jn0_i ?_ | with_reducible refine jn1_i ?_ | with_reducible refine jn2_i ?_ | with_reducible refine jn3_i ?_ | with_reducible refine jn4_i ?_ | with_reducible refine jn5_i ?_ | with_reducible refine jn6_i ?_ | with_reducible refine sp_within ?_)
  all_goals exact h _ _ _
theorem st_Eadd {en a b c d e f : Int} {F : Int → Int} {Q : Int → Int → (Int → Int) → Prop} (hE : 0 ≤ en ∧ en ≤ 60) (h : ∀ r en' F', 0 ≤ en' → en' ≤ 60 → Q r en' F') : nf_Events_add en F a b c d e f Q := by
  unfold nf_Events_add
  simp only [ci_m1, ci_m10, ci_m1001, ci_m1002, ci_m1003, ci_m1004, ci_0, ci_1, ci_10, ci_100, ci_1000, ci_10000, ci_101, ci_103, ci_104, ci_105, ci_107, ci_108, ci_110, ci_111, ci_114, ci_115, ci_116, ci_118, ci_119, ci_12, ci_122, ci_1431655765, ci_15, ci_16, ci_2, ci_20, ci_23, ci_24, ci_240, ci_252645135, ci_255, ci_256, ci_3, ci_32, ci_4, ci_420, ci_48, ci_5, ci_5040, ci_57, ci_59, ci_6, ci_60, ci_63, ci_64, ci_7, ci_70, ci_8, ci_858993459, ci_9, ci_900, ci_97, ci_99, ci_999, ci_9999, cl_0, cl_1, cl_10, cl_1000000000000, cl_122, cl_2, cl_2000000000000, cl_23, cl_255, cl_27, cl_3, cl_4, cl_48, cl_57, cl_6, cl_8, cl_96, cl_97, cl_99, cl_999, cl_9999]
  refine cB_i (fun _ => h _ _ _ hE.1 hE.2) (fun _ => sp_isFull (cB_i (fun _ => cB_f (by decide) (h _ _ _ hE.1 hE.2)) (fun hn => cB_t rfl ?_)))
  refine wO_i (by simp only [iR]; omega) (wO_i (by simp only [inb]; omega) (wO_i (by simp only [iR]; omega) (wO_i (by simp only [inb]; omega) (wO_i (by simp only [iR]; omega) (wO_i (by simp only [inb]; omega) (wO_i (by simp only [iR]; omega) (wO_i (by simp only [inb]; omega) (wO_i (by simp only [iR]; omega) (wO_i (by simp only [inb]; omega) (wO_i (by simp only [iR]; omega) (wO_i (by simp only [inb]; omega) (wO_i (by simp only [iR]; omega) ?_))))))))))))
  refine jn1_s (fun _ => True) (fun t _ => wO_i (by simp only [inb]; omega) (wO_i (by simp only [iR]; omega) (h _ _ _ (by omega) (by omega)))) ?_
  exact jn0_s True (fun _ => trivial) (cB_i (fun _ => trivial) (fun _ => cB_i (fun _ => trivial) (fun _ => trivial)))
theorem st_handOver {gn x y : Int} {gp gh : Int → Int} {Q : (Int → Int) → (Int → Int) → Prop} (h : ∀ a b, Q a b) : nf_Guests_handOver gn gp gh x y Q := by
  unfold nf_Guests_handOver
  simp only [ci_m1, ci_m10, ci_m1001, ci_m1002, ci_m1003, ci_m1004, ci_0, ci_1, ci_10, ci_100, ci_1000, ci_10000, ci_101, ci_103, ci_104, ci_105, ci_107, ci_108, ci_110, ci_111, ci_114, ci_115, ci_116, ci_118, ci_119, ci_12, ci_122, ci_1431655765, ci_15, ci_16, ci_2, ci_20, ci_23, ci_24, ci_240, ci_252645135, ci_255, ci_256, ci_3, ci_32, ci_4, ci_420, ci_48, ci_5, ci_5040, ci_57, ci_59, ci_6, ci_60, ci_63, ci_64, ci_7, ci_70, ci_8, ci_858993459, ci_9, ci_900, ci_97, ci_99, ci_999, ci_9999, cl_0, cl_1, cl_10, cl_1000000000000, cl_122, cl_2, cl_2000000000000, cl_23, cl_255, cl_27, cl_3, cl_4, cl_48, cl_57, cl_6, cl_8, cl_96, cl_97, cl_99, cl_999, cl_9999]
  repeat' (first | with_reducible refine wO_i ?_ ?_ | with_reducible refine wL_i ?_ | with_reducible refine cB_f (by decide) ?_ | with_reducible refine cB_t (by decide) ?_ | with_reducible refine cB_i (fun _ => ?_) (fun _ => ?_) | with_reducible refine jn0_i ?_ | with_reducible refine jn1_i ?_ | with_reducible refine jn2_i ?_ | with_reducible refine jn3_i ?_ | with_reducible refine jn4_i ?_ | with_reducible refine jn5_i ?_ | with_reducible refine jn6_i ?_ | with_reducible refine sp_knows ?_)
  all_goals (try (simp only [iR, lR, inb, bZ, dOK, or_true, true_or, true_and, and_true] at *)); all_goals (try omega)
  all_goals exact h _ _
theorem st_HmayHang {gn en cn hp x y : Int} {gk gp ef cg hk : Int → Int} {Q : Int → Prop} (hg : 0 ≤ gn ∧ gn ≤ 16) (hE : 0 ≤ en ∧ en ≤ 60) (hC : 0 ≤ cn ∧ cn ≤ 6) (h : ∀ r, Q r) : nf_H_mayHang gn gk gp en ef cn cg hp hk x y Q := by
  unfold nf_H_mayHang
  simp only [ci_m1, ci_m10, ci_m1001, ci_m1002, ci_m1003, ci_m1004, ci_0, ci_1, ci_10, ci_100, ci_1000, ci_10000, ci_101, ci_103, ci_104, ci_105, ci_107, ci_108, ci_110, ci_111, ci_114, ci_115, ci_116, ci_118, ci_119, ci_12, ci_122, ci_1431655765, ci_15, ci_16, ci_2, ci_20, ci_23, ci_24, ci_240, ci_252645135, ci_255, ci_256, ci_3, ci_32, ci_4, ci_420, ci_48, ci_5, ci_5040, ci_57, ci_59, ci_6, ci_60, ci_63, ci_64, ci_7, ci_70, ci_8, ci_858993459, ci_9, ci_900, ci_97, ci_99, ci_999, ci_9999, cl_0, cl_1, cl_10, cl_1000000000000, cl_122, cl_2, cl_2000000000000, cl_23, cl_255, cl_27, cl_3, cl_4, cl_48, cl_57, cl_6, cl_8, cl_96, cl_97, cl_99, cl_999, cl_9999]
  repeat' (first | with_reducible refine wO_i ?_ ?_ | with_reducible refine wL_i ?_ | with_reducible refine cB_f (by decide) ?_ | with_reducible refine cB_t (by decide) ?_ | with_reducible refine cB_i (fun _ => ?_) (fun _ => ?_) | with_reducible refine jn0_i ?_ | with_reducible refine jn1_i ?_ | with_reducible refine jn2_i ?_ | with_reducible refine jn3_i ?_ | with_reducible refine jn4_i ?_ | with_reducible refine jn5_i ?_ | with_reducible refine jn6_i ?_ | with_reducible refine sp_find hE (fun r _ _ _ _ => ?_) | with_reducible refine sp_isOf hC (fun _ => ?_) (fun _ => ?_) | with_reducible refine sp_kindOf ?_ | with_reducible refine sp_isOfKind ?_ | with_reducible refine sp_ownerOn hg (fun r _ _ _ _ => ?_))
  all_goals exact h _
theorem st_Hhang {gn en cn hp x1 x2 x3 x4 : Int} {gk gb gp ef cg hk : Int → Int} {Q : Int → (Int → Int) → (Int → Int) → Int → (Int → Int) → Prop} (hg : 0 ≤ gn ∧ gn ≤ 16) (hE : 0 ≤ en ∧ en ≤ 60) (hC : 0 ≤ cn ∧ cn ≤ 6) (h : ∀ r gb' gp' en' ef', 0 ≤ en' → en' ≤ 60 → Q r gb' gp' en' ef') : nf_H_hang gn gk gb gp en ef cn cg hp hk x1 x2 x3 x4 Q := by
  unfold nf_H_hang
  simp only [ci_m1, ci_m10, ci_m1001, ci_m1002, ci_m1003, ci_m1004, ci_0, ci_1, ci_10, ci_100, ci_1000, ci_10000, ci_101, ci_103, ci_104, ci_105, ci_107, ci_108, ci_110, ci_111, ci_114, ci_115, ci_116, ci_118, ci_119, ci_12, ci_122, ci_1431655765, ci_15, ci_16, ci_2, ci_20, ci_23, ci_24, ci_240, ci_252645135, ci_255, ci_256, ci_3, ci_32, ci_4, ci_420, ci_48, ci_5, ci_5040, ci_57, ci_59, ci_6, ci_60, ci_63, ci_64, ci_7, ci_70, ci_8, ci_858993459, ci_9, ci_900, ci_97, ci_99, ci_999, ci_9999, cl_0, cl_1, cl_10, cl_1000000000000, cl_122, cl_2, cl_2000000000000, cl_23, cl_255, cl_27, cl_3, cl_4, cl_48, cl_57, cl_6, cl_8, cl_96, cl_97, cl_99, cl_999, cl_9999]
  repeat' (first | with_reducible refine wO_i ?_ ?_ | with_reducible refine wL_i ?_ | with_reducible refine cB_f (by decide) ?_ | with_reducible refine cB_t (by decide) ?_ | with_reducible refine cB_i (fun _ => ?_) (fun _ => ?_) | with_reducible refine jn0_i ?_ | with_reducible refine jn1_i ?_ | with_reducible refine jn2_i ?_ | with_reducible refine jn3_i ?_ | with_reducible refine jn4_i ?_ | with_reducible refine jn5_i ?_ | with_reducible refine jn6_i ?_ | with_reducible refine sp_isHand ?_ | with_reducible refine sp_knows ?_ | with_reducible refine sp_hasPeg ?_ | with_reducible refine sp_within ?_ | with_reducible refine st_HmayHang hg hE hC (fun r => ?_) | with_reducible refine sp_brassIsOut hg (fun _ => ?_) (fun _ => ?_) | with_reducible refine sp_isFull ?_ | with_reducible refine st_Eadd hE (fun r en' F' _ _ => ?_))
  all_goals (try (simp only [iR, lR, inb, bZ, dOK, or_true, true_or, true_and, and_true] at *)); all_goals (try omega)
  all_goals exact h _ _ _ _ _ (by omega) (by omega)
theorem st_Hgive {gn en hp x1 x2 x3 : Int} {gb gp gh ef : Int → Int} {Q : Int → (Int → Int) → (Int → Int) → (Int → Int) → Int → (Int → Int) → Prop} (hg : 0 ≤ gn ∧ gn ≤ 16) (hE : 0 ≤ en ∧ en ≤ 60) (h : ∀ r gb' gp' gh' en' ef', 0 ≤ en' → en' ≤ 60 → Q r gb' gp' gh' en' ef') : nf_H_give gn gb gp gh en ef hp x1 x2 x3 Q := by
  unfold nf_H_give
  simp only [ci_m1, ci_m10, ci_m1001, ci_m1002, ci_m1003, ci_m1004, ci_0, ci_1, ci_10, ci_100, ci_1000, ci_10000, ci_101, ci_103, ci_104, ci_105, ci_107, ci_108, ci_110, ci_111, ci_114, ci_115, ci_116, ci_118, ci_119, ci_12, ci_122, ci_1431655765, ci_15, ci_16, ci_2, ci_20, ci_23, ci_24, ci_240, ci_252645135, ci_255, ci_256, ci_3, ci_32, ci_4, ci_420, ci_48, ci_5, ci_5040, ci_57, ci_59, ci_6, ci_60, ci_63, ci_64, ci_7, ci_70, ci_8, ci_858993459, ci_9, ci_900, ci_97, ci_99, ci_999, ci_9999, cl_0, cl_1, cl_10, cl_1000000000000, cl_122, cl_2, cl_2000000000000, cl_23, cl_255, cl_27, cl_3, cl_4, cl_48, cl_57, cl_6, cl_8, cl_96, cl_97, cl_99, cl_999, cl_9999]
  repeat' (first | with_reducible refine wO_i ?_ ?_ | with_reducible refine wL_i ?_ | with_reducible refine cB_f (by decide) ?_ | with_reducible refine cB_t (by decide) ?_ | with_reducible refine cB_i (fun _ => ?_) (fun _ => ?_) | with_reducible refine jn0_i ?_ | with_reducible refine jn1_i ?_ | with_reducible refine jn2_i ?_ | with_reducible refine jn3_i ?_ | with_reducible refine jn4_i ?_ | with_reducible refine jn5_i ?_ | with_reducible refine jn6_i ?_ | with_reducible refine sp_isHand ?_ | with_reducible refine sp_knows ?_ | with_reducible refine sp_hasPeg ?_ | with_reducible refine sp_ownerOn hg (fun r _ _ _ _ => ?_) | with_reducible refine st_handOver (fun p q => ?_) | with_reducible refine sp_isFull ?_ | with_reducible refine st_Eadd hE (fun r en' F' _ _ => ?_))
  all_goals (try (simp only [iR, lR, inb, bZ, dOK, or_true, true_or, true_and, and_true] at *)); all_goals (try omega)
  all_goals exact h _ _ _ _ _ _ (by omega) (by omega)
theorem st_Hlose {gn en x1 : Int} {gb ef : Int → Int} {Q : Int → (Int → Int) → Int → (Int → Int) → Prop} (hE : 0 ≤ en ∧ en ≤ 60) (h : ∀ r gb' en' ef', 0 ≤ en' → en' ≤ 60 → Q r gb' en' ef') : nf_H_lose gn gb en ef x1 Q := by
  unfold nf_H_lose
  simp only [ci_m1, ci_m10, ci_m1001, ci_m1002, ci_m1003, ci_m1004, ci_0, ci_1, ci_10, ci_100, ci_1000, ci_10000, ci_101, ci_103, ci_104, ci_105, ci_107, ci_108, ci_110, ci_111, ci_114, ci_115, ci_116, ci_118, ci_119, ci_12, ci_122, ci_1431655765, ci_15, ci_16, ci_2, ci_20, ci_23, ci_24, ci_240, ci_252645135, ci_255, ci_256, ci_3, ci_32, ci_4, ci_420, ci_48, ci_5, ci_5040, ci_57, ci_59, ci_6, ci_60, ci_63, ci_64, ci_7, ci_70, ci_8, ci_858993459, ci_9, ci_900, ci_97, ci_99, ci_999, ci_9999, cl_0, cl_1, cl_10, cl_1000000000000, cl_122, cl_2, cl_2000000000000, cl_23, cl_255, cl_27, cl_3, cl_4, cl_48, cl_57, cl_6, cl_8, cl_96, cl_97, cl_99, cl_999, cl_9999]
  repeat' (first | with_reducible refine wO_i ?_ ?_ | with_reducible refine wL_i ?_ | with_reducible refine cB_f (by decide) ?_ | with_reducible refine cB_t (by decide) ?_ | with_reducible refine cB_i (fun _ => ?_) (fun _ => ?_) | with_reducible refine jn0_i ?_ | with_reducible refine jn1_i ?_ | with_reducible refine jn2_i ?_ | with_reducible refine jn3_i ?_ | with_reducible refine jn4_i ?_ | with_reducible refine jn5_i ?_ | with_reducible refine jn6_i ?_ | with_reducible refine sp_knows ?_ | with_reducible refine sp_isFull ?_ | with_reducible refine st_Eadd hE (fun r en' F' _ _ => ?_))
  all_goals (try (simp only [iR, lR, inb, bZ, dOK, or_true, true_or, true_and, and_true] at *)); all_goals (try omega)
  all_goals exact h _ _ _ _ (by omega) (by omega)
theorem st_Hevent {en x y : Int} {ef : Int → Int} {Q : Int → Prop} (h : ∀ r, Q r) : nf_H_event en ef x y Q := by
  unfold nf_H_event
  simp only [ci_m1, ci_m10, ci_m1001, ci_m1002, ci_m1003, ci_m1004, ci_0, ci_1, ci_10, ci_100, ci_1000, ci_10000, ci_101, ci_103, ci_104, ci_105, ci_107, ci_108, ci_110, ci_111, ci_114, ci_115, ci_116, ci_118, ci_119, ci_12, ci_122, ci_1431655765, ci_15, ci_16, ci_2, ci_20, ci_23, ci_24, ci_240, ci_252645135, ci_255, ci_256, ci_3, ci_32, ci_4, ci_420, ci_48, ci_5, ci_5040, ci_57, ci_59, ci_6, ci_60, ci_63, ci_64, ci_7, ci_70, ci_8, ci_858993459, ci_9, ci_900, ci_97, ci_99, ci_999, ci_9999, cl_0, cl_1, cl_10, cl_1000000000000, cl_122, cl_2, cl_2000000000000, cl_23, cl_255, cl_27, cl_3, cl_4, cl_48, cl_57, cl_6, cl_8, cl_96, cl_97, cl_99, cl_999, cl_9999]
  repeat' (first | with_reducible refine wO_i ?_ ?_ | with_reducible refine wL_i ?_ | with_reducible refine cB_f (by decide) ?_ | with_reducible refine cB_t (by decide) ?_ | with_reducible refine cB_i (fun _ => ?_) (fun _ => ?_) | with_reducible refine jn0_i ?_ | with_reducible refine jn1_i ?_ | with_reducible refine jn2_i ?_ | with_reducible refine jn3_i ?_ | with_reducible refine jn4_i ?_ | with_reducible refine jn5_i ?_ | with_reducible refine jn6_i ?_ | with_reducible refine sp_eknows ?_ | with_reducible refine sp_within ?_ | with_reducible refine sp_factOf ?_)
  all_goals exact h _
theorem st_Hastray {gn : Int} {gh : Int → Int} {Q : Int → Prop} (hg : 0 ≤ gn ∧ gn ≤ 16) (h : ∀ r, Q r) : nf_H_astray gn gh Q := by
  unfold nf_H_astray
  simp only [ci_m1, ci_m10, ci_m1001, ci_m1002, ci_m1003, ci_m1004, ci_0, ci_1, ci_10, ci_100, ci_1000, ci_10000, ci_101, ci_103, ci_104, ci_105, ci_107, ci_108, ci_110, ci_111, ci_114, ci_115, ci_116, ci_118, ci_119, ci_12, ci_122, ci_1431655765, ci_15, ci_16, ci_2, ci_20, ci_23, ci_24, ci_240, ci_252645135, ci_255, ci_256, ci_3, ci_32, ci_4, ci_420, ci_48, ci_5, ci_5040, ci_57, ci_59, ci_6, ci_60, ci_63, ci_64, ci_7, ci_70, ci_8, ci_858993459, ci_9, ci_900, ci_97, ci_99, ci_999, ci_9999, cl_0, cl_1, cl_10, cl_1000000000000, cl_122, cl_2, cl_2000000000000, cl_23, cl_255, cl_27, cl_3, cl_4, cl_48, cl_57, cl_6, cl_8, cl_96, cl_97, cl_99, cl_999, cl_9999]
  refine nlp2_i (fun _ i => 0 ≤ i ∧ i ≤ gn) (fun _ i => (gn - i).toNat) ?_ ⟨by omega, by omega⟩
  intro l i hi self hself
  obtain ⟨i1, i2⟩ := hi
  refine cB_i (fun _ => h _) (fun _ => ?_)
  refine sp_isAstray (cB_i (fun _ => ?_) (fun _ => ?_))
  all_goals
    repeat' (first | with_reducible refine wO_i ?_ ?_ | with_reducible refine wL_i ?_ | with_reducible refine cB_f (by decide) ?_ | with_reducible refine cB_t (by decide) ?_ | with_reducible refine cB_i (fun _ => ?_) (fun _ => ?_) | with_reducible refine jn0_i ?_ | with_reducible refine jn1_i ?_ | with_reducible refine jn2_i ?_ | with_reducible refine jn3_i ?_ | with_reducible refine jn4_i ?_ | with_reducible refine jn5_i ?_ | with_reducible refine jn6_i ?_)
    all_goals (try (simp only [iR, lR, inb, bZ, dOK, or_true, true_or, true_and, and_true] at *)); all_goals (try omega)
    all_goals exact hself _ _ ⟨by omega, by omega⟩ (by omega)
theorem st_Hchain {gn x y : Int} {gh : Int → Int} {Q : Int → Prop} (hy : y ≤ 2147483647) (h : ∀ r, Q r) : nf_H_chain gn gh x y Q := by
  unfold nf_H_chain
  simp only [ci_m1, ci_m10, ci_m1001, ci_m1002, ci_m1003, ci_m1004, ci_0, ci_1, ci_10, ci_100, ci_1000, ci_10000, ci_101, ci_103, ci_104, ci_105, ci_107, ci_108, ci_110, ci_111, ci_114, ci_115, ci_116, ci_118, ci_119, ci_12, ci_122, ci_1431655765, ci_15, ci_16, ci_2, ci_20, ci_23, ci_24, ci_240, ci_252645135, ci_255, ci_256, ci_3, ci_32, ci_4, ci_420, ci_48, ci_5, ci_5040, ci_57, ci_59, ci_6, ci_60, ci_63, ci_64, ci_7, ci_70, ci_8, ci_858993459, ci_9, ci_900, ci_97, ci_99, ci_999, ci_9999, cl_0, cl_1, cl_10, cl_1000000000000, cl_122, cl_2, cl_2000000000000, cl_23, cl_255, cl_27, cl_3, cl_4, cl_48, cl_57, cl_6, cl_8, cl_96, cl_97, cl_99, cl_999, cl_9999]
  repeat' (first | with_reducible refine wO_i ?_ ?_ | with_reducible refine wL_i ?_ | with_reducible refine cB_f (by decide) ?_ | with_reducible refine cB_t (by decide) ?_ | with_reducible refine cB_i (fun _ => ?_) (fun _ => ?_) | with_reducible refine jn0_i ?_ | with_reducible refine jn1_i ?_ | with_reducible refine jn2_i ?_ | with_reducible refine jn3_i ?_ | with_reducible refine jn4_i ?_ | with_reducible refine jn5_i ?_ | with_reducible refine jn6_i ?_ | with_reducible refine sp_knows ?_ | with_reducible refine sp_isAstray ?_ | with_reducible refine st_chainLength (fun r _ _ => ?_) | with_reducible refine st_chainMember hy (fun r => ?_))
  all_goals exact h _
theorem st_Hring {gn x : Int} {gh : Int → Int} {Q : Int → Prop} (h : ∀ r, Q r) : nf_H_ring gn gh x Q := by
  unfold nf_H_ring
  simp only [ci_m1, ci_m10, ci_m1001, ci_m1002, ci_m1003, ci_m1004, ci_0, ci_1, ci_10, ci_100, ci_1000, ci_10000, ci_101, ci_103, ci_104, ci_105, ci_107, ci_108, ci_110, ci_111, ci_114, ci_115, ci_116, ci_118, ci_119, ci_12, ci_122, ci_1431655765, ci_15, ci_16, ci_2, ci_20, ci_23, ci_24, ci_240, ci_252645135, ci_255, ci_256, ci_3, ci_32, ci_4, ci_420, ci_48, ci_5, ci_5040, ci_57, ci_59, ci_6, ci_60, ci_63, ci_64, ci_7, ci_70, ci_8, ci_858993459, ci_9, ci_900, ci_97, ci_99, ci_999, ci_9999, cl_0, cl_1, cl_10, cl_1000000000000, cl_122, cl_2, cl_2000000000000, cl_23, cl_255, cl_27, cl_3, cl_4, cl_48, cl_57, cl_6, cl_8, cl_96, cl_97, cl_99, cl_999, cl_9999]
  repeat' (first | with_reducible refine wO_i ?_ ?_ | with_reducible refine wL_i ?_ | with_reducible refine cB_f (by decide) ?_ | with_reducible refine cB_t (by decide) ?_ | with_reducible refine cB_i (fun _ => ?_) (fun _ => ?_) | with_reducible refine jn0_i ?_ | with_reducible refine jn1_i ?_ | with_reducible refine jn2_i ?_ | with_reducible refine jn3_i ?_ | with_reducible refine jn4_i ?_ | with_reducible refine jn5_i ?_ | with_reducible refine jn6_i ?_ | with_reducible refine sp_knows ?_ | with_reducible refine sp_isAstray ?_ | with_reducible refine st_comesRound (fun r _ => ?_))
  all_goals exact h _
theorem st_Hexch {gn : Int} {gh : Int → Int} {Q : Int → Prop} (hg : 0 ≤ gn ∧ gn ≤ 16) (h : ∀ r, Q r) : nf_H_exchanges gn gh Q := by
  unfold nf_H_exchanges
  simp only [ci_m1, ci_m10, ci_m1001, ci_m1002, ci_m1003, ci_m1004, ci_0, ci_1, ci_10, ci_100, ci_1000, ci_10000, ci_101, ci_103, ci_104, ci_105, ci_107, ci_108, ci_110, ci_111, ci_114, ci_115, ci_116, ci_118, ci_119, ci_12, ci_122, ci_1431655765, ci_15, ci_16, ci_2, ci_20, ci_23, ci_24, ci_240, ci_252645135, ci_255, ci_256, ci_3, ci_32, ci_4, ci_420, ci_48, ci_5, ci_5040, ci_57, ci_59, ci_6, ci_60, ci_63, ci_64, ci_7, ci_70, ci_8, ci_858993459, ci_9, ci_900, ci_97, ci_99, ci_999, ci_9999, cl_0, cl_1, cl_10, cl_1000000000000, cl_122, cl_2, cl_2000000000000, cl_23, cl_255, cl_27, cl_3, cl_4, cl_48, cl_57, cl_6, cl_8, cl_96, cl_97, cl_99, cl_999, cl_9999]
  refine nlp2_i (fun l i => 0 ≤ i ∧ i ≤ gn ∧ -i ≤ l ∧ l ≤ i) (fun _ i => (gn - i).toNat) ?_ ⟨by omega, by omega, by omega, by omega⟩
  intro l i hi self hself
  obtain ⟨i1, i2, i3, i4⟩ := hi
  refine cB_i (fun _ => h _) (fun _ => ?_)
  refine sp_isAstray (cB_i (fun _ => ?_) (fun _ => ?_))
  all_goals
    repeat' (first | with_reducible refine wO_i ?_ ?_ | with_reducible refine wL_i ?_ | with_reducible refine cB_f (by decide) ?_ | with_reducible refine cB_t (by decide) ?_ | with_reducible refine cB_i (fun _ => ?_) (fun _ => ?_) | with_reducible refine jn0_i ?_ | with_reducible refine jn1_i ?_ | with_reducible refine jn2_i ?_ | with_reducible refine jn3_i ?_ | with_reducible refine jn4_i ?_ | with_reducible refine jn5_i ?_ | with_reducible refine jn6_i ?_ | with_reducible refine st_isLeastOfRing (fun r _ => ?_))
    all_goals (try (simp only [iR, lR, inb, bZ, dOK, or_true, true_or, true_and, and_true] at *)); all_goals (try omega)
    all_goals exact hself _ _ ⟨by omega, by omega, by omega, by omega⟩ (by omega)
theorem st_Hwrong {gn en x y : Int} {ef : Int → Int} {Q : Int → Prop} (hE : 0 ≤ en ∧ en ≤ 60) (h : ∀ r, Q r) : nf_H_wrong gn en ef x y Q := by
  unfold nf_H_wrong
  simp only [ci_m1, ci_m10, ci_m1001, ci_m1002, ci_m1003, ci_m1004, ci_0, ci_1, ci_10, ci_100, ci_1000, ci_10000, ci_101, ci_103, ci_104, ci_105, ci_107, ci_108, ci_110, ci_111, ci_114, ci_115, ci_116, ci_118, ci_119, ci_12, ci_122, ci_1431655765, ci_15, ci_16, ci_2, ci_20, ci_23, ci_24, ci_240, ci_252645135, ci_255, ci_256, ci_3, ci_32, ci_4, ci_420, ci_48, ci_5, ci_5040, ci_57, ci_59, ci_6, ci_60, ci_63, ci_64, ci_7, ci_70, ci_8, ci_858993459, ci_9, ci_900, ci_97, ci_99, ci_999, ci_9999, cl_0, cl_1, cl_10, cl_1000000000000, cl_122, cl_2, cl_2000000000000, cl_23, cl_255, cl_27, cl_3, cl_4, cl_48, cl_57, cl_6, cl_8, cl_96, cl_97, cl_99, cl_999, cl_9999]
  repeat' (first | with_reducible refine wO_i ?_ ?_ | with_reducible refine wL_i ?_ | with_reducible refine cB_f (by decide) ?_ | with_reducible refine cB_t (by decide) ?_ | with_reducible refine cB_i (fun _ => ?_) (fun _ => ?_) | with_reducible refine jn0_i ?_ | with_reducible refine jn1_i ?_ | with_reducible refine jn2_i ?_ | with_reducible refine jn3_i ?_ | with_reducible refine jn4_i ?_ | with_reducible refine jn5_i ?_ | with_reducible refine jn6_i ?_ | with_reducible refine sp_knows ?_ | with_reducible refine sp_within ?_ | with_reducible refine st_firstWrong hE (fun r _ _ => ?_) | with_reducible refine sp_factOf ?_)
  all_goals exact h _
theorem st_HallHang {gn x : Int} {gp : Int → Int} {Q : Int → Prop} (hg : 0 ≤ gn ∧ gn ≤ 16) (h : ∀ r, Q r) : nf_H_allHang gn gp x Q := by
  unfold nf_H_allHang
  simp only [ci_m1, ci_m10, ci_m1001, ci_m1002, ci_m1003, ci_m1004, ci_0, ci_1, ci_10, ci_100, ci_1000, ci_10000, ci_101, ci_103, ci_104, ci_105, ci_107, ci_108, ci_110, ci_111, ci_114, ci_115, ci_116, ci_118, ci_119, ci_12, ci_122, ci_1431655765, ci_15, ci_16, ci_2, ci_20, ci_23, ci_24, ci_240, ci_252645135, ci_255, ci_256, ci_3, ci_32, ci_4, ci_420, ci_48, ci_5, ci_5040, ci_57, ci_59, ci_6, ci_60, ci_63, ci_64, ci_7, ci_70, ci_8, ci_858993459, ci_9, ci_900, ci_97, ci_99, ci_999, ci_9999, cl_0, cl_1, cl_10, cl_1000000000000, cl_122, cl_2, cl_2000000000000, cl_23, cl_255, cl_27, cl_3, cl_4, cl_48, cl_57, cl_6, cl_8, cl_96, cl_97, cl_99, cl_999, cl_9999]
  refine nlp2_i (fun _ i => 0 ≤ i ∧ i ≤ gn) (fun _ i => (gn - i).toNat) ?_ ⟨by omega, by omega⟩
  intro l i hi self hself
  obtain ⟨i1, i2⟩ := hi
  refine cB_i (fun _ => wL_i (wL_i (cB_i (fun _ => h _) (fun _ => h _)))) (fun _ => ?_)
  refine sp_hangs (cB_i (fun _ => ?_) (fun _ => ?_))
  all_goals
    repeat' (first | with_reducible refine wO_i ?_ ?_ | with_reducible refine wL_i ?_ | with_reducible refine cB_f (by decide) ?_ | with_reducible refine cB_t (by decide) ?_ | with_reducible refine cB_i (fun _ => ?_) (fun _ => ?_) | with_reducible refine jn0_i ?_ | with_reducible refine jn1_i ?_ | with_reducible refine jn2_i ?_ | with_reducible refine jn3_i ?_ | with_reducible refine jn4_i ?_ | with_reducible refine jn5_i ?_ | with_reducible refine jn6_i ?_)
    all_goals (try (simp only [iR, lR, inb, bZ, dOK, or_true, true_or, true_and, and_true] at *)); all_goals (try omega)
    all_goals exact hself _ _ ⟨by omega, by omega⟩ (by omega)
theorem st_Hrush {gn hp ht hl sz ls x1 x2 x3 : Int} {gt gp hw hs hx tk tp rw fa wa gr ts : Int → Int} {Q : Int → Int → Int → (Int → Int) → (Int → Int) → (Int → Int) → (Int → Int) → (Int → Int) → (Int → Int) → (Int → Int) → Prop} (hg : cG gn gt) (hd : dI 0 hp ht hl hw hs hx) (hI : uI ls tk tp) (hA : uA fa) (hW : uW wa gr ts) (h : ∀ r sz' ls' tk' tp' rw' fa' wa' gr' ts', uI ls' tk' tp' → uA fa' → uW wa' gr' ts' → Q r sz' ls' tk' tp' rw' fa' wa' gr' ts') : nf_H_rush gn gt gp hp ht hl hw sz ls tk tp rw fa wa gr ts x1 x2 x3 Q := by
  unfold nf_H_rush
  simp only [ci_m1, ci_m10, ci_m1001, ci_m1002, ci_m1003, ci_m1004, ci_0, ci_1, ci_10, ci_100, ci_1000, ci_10000, ci_101, ci_103, ci_104, ci_105, ci_107, ci_108, ci_110, ci_111, ci_114, ci_115, ci_116, ci_118, ci_119, ci_12, ci_122, ci_1431655765, ci_15, ci_16, ci_2, ci_20, ci_23, ci_24, ci_240, ci_252645135, ci_255, ci_256, ci_3, ci_32, ci_4, ci_420, ci_48, ci_5, ci_5040, ci_57, ci_59, ci_6, ci_60, ci_63, ci_64, ci_7, ci_70, ci_8, ci_858993459, ci_9, ci_900, ci_97, ci_99, ci_999, ci_9999, cl_0, cl_1, cl_10, cl_1000000000000, cl_122, cl_2, cl_2000000000000, cl_23, cl_255, cl_27, cl_3, cl_4, cl_48, cl_57, cl_6, cl_8, cl_96, cl_97, cl_99, cl_999, cl_9999]
  obtain ⟨d1, d2, d3, d4⟩ := hd
  obtain ⟨e1, e2, e3, e4, e5, e6⟩ := d4 rfl
  have no := fun r => h r sz ls tk tp rw fa wa gr ts hI hA hW
  refine st_HallHang hg.1 (fun r => cB_i (fun _ => no _) (fun _ => ?_))
  refine sp_within (cB_i (fun a1 => cB_f (by decide) ?_) (fun _ => cB_t rfl (no _)))
  refine sp_within (cB_i (fun a2 => cB_f (by decide) ?_) (fun _ => cB_t rfl (no _)))
  refine st_loadU hg.1 hg.2 ⟨e1, e2, e3, e4⟩ d3 hI (fun sz1 tk1 tp1 rw1 s0 s1 hI1 => ?_)
  refine st_serveFrom hI1 ⟨s0, s1⟩ hA hW (fun fa1 wa1 gr1 ts1 hA1 hW1 => ?_)
  exact cB_i (fun _ => sp_sumOfWaits ⟨s0, s1⟩ (h _ _ _ _ _ _ _ _ _ _ hI1 hA1 hW1)) (fun _ => cB_i (fun _ => sp_greatestWait ⟨s0, s1⟩ (h _ _ _ _ _ _ _ _ _ _ hI1 hA1 hW1)) (fun _ => sp_sumOfTips ⟨s0, s1⟩ (h _ _ _ _ _ _ _ _ _ _ hI1 hA1 hW1)))
theorem st_Hbest {gn hp ht hl sz ls bt bw x1 x2 x3 : Int} {gt gp hw hs hx tk tp rw fa wa gr ts be : Int → Int} {Q : Int → Int → Int → Int → Int → (Int → Int) → (Int → Int) → (Int → Int) → (Int → Int) → (Int → Int) → (Int → Int) → (Int → Int) → (Int → Int) → Prop} (hg : cG gn gt) (hd : dI 0 hp ht hl hw hs hx) (hI : uI ls tk tp) (hA : uA fa) (hW : uW wa gr ts) (h : ∀ r sz' ls' bt' bw' tk' tp' rw' fa' wa' gr' ts' be', uI ls' tk' tp' → uA fa' → uW wa' gr' ts' → Q r sz' ls' bt' bw' tk' tp' rw' fa' wa' gr' ts' be') : nf_H_bestRow gn gt gp hp ht hl hw sz ls bt bw tk tp rw fa wa gr ts be x1 x2 x3 Q := by
  unfold nf_H_bestRow nf_Rush_bestMember
  simp only [ci_m1, ci_m10, ci_m1001, ci_m1002, ci_m1003, ci_m1004, ci_0, ci_1, ci_10, ci_100, ci_1000, ci_10000, ci_101, ci_103, ci_104, ci_105, ci_107, ci_108, ci_110, ci_111, ci_114, ci_115, ci_116, ci_118, ci_119, ci_12, ci_122, ci_1431655765, ci_15, ci_16, ci_2, ci_20, ci_23, ci_24, ci_240, ci_252645135, ci_255, ci_256, ci_3, ci_32, ci_4, ci_420, ci_48, ci_5, ci_5040, ci_57, ci_59, ci_6, ci_60, ci_63, ci_64, ci_7, ci_70, ci_8, ci_858993459, ci_9, ci_900, ci_97, ci_99, ci_999, ci_9999, cl_0, cl_1, cl_10, cl_1000000000000, cl_122, cl_2, cl_2000000000000, cl_23, cl_255, cl_27, cl_3, cl_4, cl_48, cl_57, cl_6, cl_8, cl_96, cl_97, cl_99, cl_999, cl_9999]
  obtain ⟨d1, d2, d3, d4⟩ := hd
  obtain ⟨e1, e2, e3, e4, e5, e6⟩ := d4 rfl
  have no := fun r => h r sz ls bt bw tk tp rw fa wa gr ts be hI hA hW
  refine st_HallHang hg.1 (fun r => cB_i (fun _ => no _) (fun _ => ?_))
  refine sp_within (cB_i (fun a1 => cB_f (by decide) ?_) (fun _ => cB_t rfl (no _)))
  refine st_bitCount (fun r => cB_i (fun _ => ?_) (fun _ => no _))
  refine st_loadU hg.1 hg.2 ⟨e1, e2, e3, e4⟩ d3 hI (fun sz1 tk1 tp1 rw1 s0 s1 hI1 => ?_)
  refine st_findBest hI1 ⟨s0, s1⟩ hA hW (fun b1 b2 rw2 fa1 wa1 gr1 ts1 be1 hA1 hW1 => ?_)
  have yes := fun r => h r sz1 hl b1 b2 tk1 tp1 rw2 fa1 wa1 gr1 ts1 be1 hI1 hA1 hW1
  exact cB_i (fun _ => yes _) (fun _ => cB_i (fun _ => yes _) (fun _ => cB_i (fun _ => yes _) (fun _ => cB_i (fun _ => yes _) (fun _ => wO_i (by simp only [inb]; omega) (yes _)))))
theorem st_Hwanted {gn hp ht hl sz ls x1 x2 : Int} {gt gp hw hs hx tk tp rw fa wa gr ts : Int → Int} {Q : Int → Int → Int → (Int → Int) → (Int → Int) → (Int → Int) → (Int → Int) → (Int → Int) → (Int → Int) → (Int → Int) → Prop} (hg : cG gn gt) (hd : dI 0 hp ht hl hw hs hx) (hI : uI ls tk tp) (hA : uA fa) (hW : uW wa gr ts) (h : ∀ r sz' ls' tk' tp' rw' fa' wa' gr' ts', uI ls' tk' tp' → uA fa' → uW wa' gr' ts' → Q r sz' ls' tk' tp' rw' fa' wa' gr' ts') : nf_H_wanted gn gt gp hp ht hl hw sz ls tk tp rw fa wa gr ts x1 x2 Q := by
  unfold nf_H_wanted
  simp only [ci_m1, ci_m10, ci_m1001, ci_m1002, ci_m1003, ci_m1004, ci_0, ci_1, ci_10, ci_100, ci_1000, ci_10000, ci_101, ci_103, ci_104, ci_105, ci_107, ci_108, ci_110, ci_111, ci_114, ci_115, ci_116, ci_118, ci_119, ci_12, ci_122, ci_1431655765, ci_15, ci_16, ci_2, ci_20, ci_23, ci_24, ci_240, ci_252645135, ci_255, ci_256, ci_3, ci_32, ci_4, ci_420, ci_48, ci_5, ci_5040, ci_57, ci_59, ci_6, ci_60, ci_63, ci_64, ci_7, ci_70, ci_8, ci_858993459, ci_9, ci_900, ci_97, ci_99, ci_999, ci_9999, cl_0, cl_1, cl_10, cl_1000000000000, cl_122, cl_2, cl_2000000000000, cl_23, cl_255, cl_27, cl_3, cl_4, cl_48, cl_57, cl_6, cl_8, cl_96, cl_97, cl_99, cl_999, cl_9999]
  obtain ⟨d1, d2, d3, d4⟩ := hd
  obtain ⟨e1, e2, e3, e4, e5, e6⟩ := d4 rfl
  have no := fun r => h r sz ls tk tp rw fa wa gr ts hI hA hW
  refine st_HallHang hg.1 (fun r => cB_i (fun _ => no _) (fun _ => ?_))
  refine sp_within (cB_i (fun a1 => cB_f (by decide) ?_) (fun _ => cB_t rfl (no _)))
  refine st_loadU hg.1 hg.2 ⟨e1, e2, e3, e4⟩ d3 hI (fun sz1 tk1 tp1 rw1 s0 s1 hI1 => ?_)
  refine nlp5_i (fun l fa' wa' gr' ts' => 1 ≤ l ∧ l ≤ 5 ∧ uA fa' ∧ uW wa' gr' ts') (fun l _ _ _ _ => (5 - l).toNat) ?_ ⟨by omega, by omega, hA, hW⟩
  intro l fa2 wa2 gr2 ts2 hi self hself
  obtain ⟨i1, i2, i3, i4⟩ := hi
  refine cB_i (fun _ => h _ _ _ _ _ _ _ _ _ _ hI1 i3 i4) (fun _ => st_serveFrom hI1 ⟨s0, s1⟩ i3 i4 (fun fa1 wa1 gr1 ts1 hA1 hW1 => sp_greatestWait ⟨s0, s1⟩ (cB_i (fun _ => ?_) (fun _ => h _ _ _ _ _ _ _ _ _ _ hI1 hA1 hW1))))
  exact wO_i (by simp only [iR]; omega) (hself _ _ _ _ _ ⟨by omega, by omega, hA1, hW1⟩ (by omega))
theorem st_Hclaim {gn cn x1 x2 x3 : Int} {gb gh cg cy cz : Int → Int} {Q : Int → Int → (Int → Int) → (Int → Int) → (Int → Int) → Prop} (hC : 0 ≤ cn ∧ cn ≤ 6) (h : ∀ r cn' cg' cy' cz', 0 ≤ cn' → cn' ≤ 6 → Q r cn' cg' cy' cz') : nf_H_claim gn gb gh cn cg cy cz x1 x2 x3 Q := by
  unfold nf_H_claim nf_Claims_add
  simp only [ci_m1, ci_m10, ci_m1001, ci_m1002, ci_m1003, ci_m1004, ci_0, ci_1, ci_10, ci_100, ci_1000, ci_10000, ci_101, ci_103, ci_104, ci_105, ci_107, ci_108, ci_110, ci_111, ci_114, ci_115, ci_116, ci_118, ci_119, ci_12, ci_122, ci_1431655765, ci_15, ci_16, ci_2, ci_20, ci_23, ci_24, ci_240, ci_252645135, ci_255, ci_256, ci_3, ci_32, ci_4, ci_420, ci_48, ci_5, ci_5040, ci_57, ci_59, ci_6, ci_60, ci_63, ci_64, ci_7, ci_70, ci_8, ci_858993459, ci_9, ci_900, ci_97, ci_99, ci_999, ci_9999, cl_0, cl_1, cl_10, cl_1000000000000, cl_122, cl_2, cl_2000000000000, cl_23, cl_255, cl_27, cl_3, cl_4, cl_48, cl_57, cl_6, cl_8, cl_96, cl_97, cl_99, cl_999, cl_9999]
  repeat' (first | with_reducible refine wO_i ?_ ?_ | with_reducible refine wL_i ?_ | with_reducible refine cB_f (by decide) ?_ | with_reducible refine cB_t (by decide) ?_ | with_reducible refine cB_i (fun _ => ?_) (fun _ => ?_) | with_reducible refine jn0_i ?_ | with_reducible refine jn1_i ?_ | with_reducible refine jn2_i ?_ | with_reducible refine jn3_i ?_ | with_reducible refine jn4_i ?_ | with_reducible refine jn5_i ?_ | with_reducible refine jn6_i ?_ | with_reducible refine sp_knows ?_ | with_reducible refine sp_within ?_ | with_reducible refine sp_isOf hC (fun _ => ?_) (fun _ => ?_))
  all_goals (try (simp only [iR, lR, inb, bZ, dOK, or_true, true_or, true_and, and_true] at *)); all_goals (try omega)
  all_goals exact h _ _ _ _ _ (by omega) (by omega)
theorem st_Hfits {gn cn x : Int} {gk gm gp cg cy cz : Int → Int} {Q : Int → Prop} (hg : 0 ≤ gn ∧ gn ≤ 16) (hC : 0 ≤ cn ∧ cn ≤ 6) (h : ∀ r, Q r) : nf_H_fits gn gk gm gp cn cg cy cz x Q := by
  unfold nf_H_fits
  simp only [ci_m1, ci_m10, ci_m1001, ci_m1002, ci_m1003, ci_m1004, ci_0, ci_1, ci_10, ci_100, ci_1000, ci_10000, ci_101, ci_103, ci_104, ci_105, ci_107, ci_108, ci_110, ci_111, ci_114, ci_115, ci_116, ci_118, ci_119, ci_12, ci_122, ci_1431655765, ci_15, ci_16, ci_2, ci_20, ci_23, ci_24, ci_240, ci_252645135, ci_255, ci_256, ci_3, ci_32, ci_4, ci_420, ci_48, ci_5, ci_5040, ci_57, ci_59, ci_6, ci_60, ci_63, ci_64, ci_7, ci_70, ci_8, ci_858993459, ci_9, ci_900, ci_97, ci_99, ci_999, ci_9999, cl_0, cl_1, cl_10, cl_1000000000000, cl_122, cl_2, cl_2000000000000, cl_23, cl_255, cl_27, cl_3, cl_4, cl_48, cl_57, cl_6, cl_8, cl_96, cl_97, cl_99, cl_999, cl_9999]
  repeat' (first | with_reducible refine wO_i ?_ ?_ | with_reducible refine wL_i ?_ | with_reducible refine cB_f (by decide) ?_ | with_reducible refine cB_t (by decide) ?_ | with_reducible refine cB_i (fun _ => ?_) (fun _ => ?_) | with_reducible refine jn0_i ?_ | with_reducible refine jn1_i ?_ | with_reducible refine jn2_i ?_ | with_reducible refine jn3_i ?_ | with_reducible refine jn4_i ?_ | with_reducible refine jn5_i ?_ | with_reducible refine jn6_i ?_ | with_reducible refine sp_cknows ?_ | with_reducible refine st_thingsFor hg hC (fun r => ?_))
  all_goals exact h _
theorem st_Hways {gn cn k : Int} {gk gm gp cg cy cz F W : Int → Int} {Q : Int → Int → (Int → Int) → (Int → Int) → Prop} (hg : 0 ≤ gn ∧ gn ≤ 16) (hC : 0 ≤ cn ∧ cn ≤ 6) (h : ∀ r k' F' W', Q r k' F' W') : nf_H_ways gn gk gm gp cn cg cy cz k F W Q := by
  unfold nf_H_ways
  exact st_load hg hC (fun F' => st_number hC (fun r W' _ => h _ _ _ _))
theorem st_Hsure {gn cn k x : Int} {gk gm gp cg cy cz F W : Int → Int} {Q : Int → Int → (Int → Int) → (Int → Int) → Prop} (hg : 0 ≤ gn ∧ gn ≤ 16) (hC : 0 ≤ cn ∧ cn ≤ 6) (h : ∀ r k' F' W', Q r k' F' W') : nf_H_sure gn gk gm gp cn cg cy cz k F W x Q := by
  unfold nf_H_sure
  simp only [ci_m1, ci_m10, ci_m1001, ci_m1002, ci_m1003, ci_m1004, ci_0, ci_1, ci_10, ci_100, ci_1000, ci_10000, ci_101, ci_103, ci_104, ci_105, ci_107, ci_108, ci_110, ci_111, ci_114, ci_115, ci_116, ci_118, ci_119, ci_12, ci_122, ci_1431655765, ci_15, ci_16, ci_2, ci_20, ci_23, ci_24, ci_240, ci_252645135, ci_255, ci_256, ci_3, ci_32, ci_4, ci_420, ci_48, ci_5, ci_5040, ci_57, ci_59, ci_6, ci_60, ci_63, ci_64, ci_7, ci_70, ci_8, ci_858993459, ci_9, ci_900, ci_97, ci_99, ci_999, ci_9999, cl_0, cl_1, cl_10, cl_1000000000000, cl_122, cl_2, cl_2000000000000, cl_23, cl_255, cl_27, cl_3, cl_4, cl_48, cl_57, cl_6, cl_8, cl_96, cl_97, cl_99, cl_999, cl_9999]
  exact sp_cknows (cB_i (fun _ => cB_f (by decide) (st_load hg hC (fun F' => st_onlyThingOf hC (fun r F2 W' _ _ => h _ _ _ _)))) (fun _ => cB_t rfl (h _ _ _ _)))
theorem st_remove {cn x : Int} {cg cy cz : Int → Int} {Q : Int → (Int → Int) → (Int → Int) → (Int → Int) → Prop} (hC : 0 ≤ cn ∧ cn ≤ 6) (h : ∀ n a b c, 0 ≤ n → n ≤ 6 → Q n a b c) : nf_Claims_remove cn cg cy cz x Q := by
  unfold nf_Claims_remove
  simp only [ci_m1, ci_m10, ci_m1001, ci_m1002, ci_m1003, ci_m1004, ci_0, ci_1, ci_10, ci_100, ci_1000, ci_10000, ci_101, ci_103, ci_104, ci_105, ci_107, ci_108, ci_110, ci_111, ci_114, ci_115, ci_116, ci_118, ci_119, ci_12, ci_122, ci_1431655765, ci_15, ci_16, ci_2, ci_20, ci_23, ci_24, ci_240, ci_252645135, ci_255, ci_256, ci_3, ci_32, ci_4, ci_420, ci_48, ci_5, ci_5040, ci_57, ci_59, ci_6, ci_60, ci_63, ci_64, ci_7, ci_70, ci_8, ci_858993459, ci_9, ci_900, ci_97, ci_99, ci_999, ci_9999, cl_0, cl_1, cl_10, cl_1000000000000, cl_122, cl_2, cl_2000000000000, cl_23, cl_255, cl_27, cl_3, cl_4, cl_48, cl_57, cl_6, cl_8, cl_96, cl_97, cl_99, cl_999, cl_9999]
  refine sp_cknows (cB_i (fun hk => cB_f (by decide) ?_) (fun _ => cB_t rfl (h _ _ _ _ hC.1 hC.2)))
  refine nlp4_i (fun i _ _ _ => 0 ≤ i ∧ i < cn) (fun i _ _ _ => (cn - i).toNat) ?_ ⟨by omega, by omega⟩
  intro i a b c hi self hself
  repeat' (first | with_reducible refine wO_i ?_ ?_ | with_reducible refine wL_i ?_ | with_reducible refine cB_f (by decide) ?_ | with_reducible refine cB_t (by decide) ?_ | with_reducible refine cB_i (fun _ => ?_) (fun _ => ?_) | with_reducible refine jn0_i ?_ | with_reducible refine jn1_i ?_ | with_reducible refine jn2_i ?_ | with_reducible refine jn3_i ?_ | with_reducible refine jn4_i ?_ | with_reducible refine jn5_i ?_ | with_reducible refine jn6_i ?_)
  all_goals (try (simp only [iR, lR, inb, bZ, dOK, or_true, true_or, true_and, and_true] at *)); all_goals (try omega)
  all_goals first | exact h _ _ _ _ (by omega) (by omega) | exact hself _ _ _ _ ⟨by omega, by omega⟩ (by omega)
theorem st_Hgrant {gn cn k x : Int} {gk gm gp gh cg cy cz F W : Int → Int} {Q : Int → (Int → Int) → (Int → Int) → Int → (Int → Int) → (Int → Int) → (Int → Int) → Int → (Int → Int) → (Int → Int) → Prop} (hg : 0 ≤ gn ∧ gn ≤ 16) (hC : 0 ≤ cn ∧ cn ≤ 6) (h : ∀ r gp' gh' cn' cg' cy' cz' k' F' W', 0 ≤ cn' → cn' ≤ 6 → Q r gp' gh' cn' cg' cy' cz' k' F' W') : nf_H_grant gn gk gm gp gh cn cg cy cz k F W x Q := by
  unfold nf_H_grant
  simp only [ci_m1, ci_m10, ci_m1001, ci_m1002, ci_m1003, ci_m1004, ci_0, ci_1, ci_10, ci_100, ci_1000, ci_10000, ci_101, ci_103, ci_104, ci_105, ci_107, ci_108, ci_110, ci_111, ci_114, ci_115, ci_116, ci_118, ci_119, ci_12, ci_122, ci_1431655765, ci_15, ci_16, ci_2, ci_20, ci_23, ci_24, ci_240, ci_252645135, ci_255, ci_256, ci_3, ci_32, ci_4, ci_420, ci_48, ci_5, ci_5040, ci_57, ci_59, ci_6, ci_60, ci_63, ci_64, ci_7, ci_70, ci_8, ci_858993459, ci_9, ci_900, ci_97, ci_99, ci_999, ci_9999, cl_0, cl_1, cl_10, cl_1000000000000, cl_122, cl_2, cl_2000000000000, cl_23, cl_255, cl_27, cl_3, cl_4, cl_48, cl_57, cl_6, cl_8, cl_96, cl_97, cl_99, cl_999, cl_9999]
  refine sp_cknows (cB_i (fun _ => cB_f (by decide) (st_load hg hC (fun F' => st_onlyThingOf hC (fun r F2 W' _ _ => cB_i (fun _ => h _ _ _ _ _ _ _ _ _ _ hC.1 hC.2) (fun _ => ?_))))) (fun _ => cB_t rfl (h _ _ _ _ _ _ _ _ _ _ hC.1 hC.2)))
  refine sp_guestOf (cB_i (fun _ => ?_) (fun _ => ?_))
  all_goals exact st_handOver (fun p q => st_remove hC (fun n a b c n0 n1 => h _ _ _ _ _ _ _ _ _ _ n0 n1))
theorem st_Hapart {gn x y : Int} {gm : Int → Int} {Q : Int → Prop} (h : ∀ r, Q r) : nf_H_apart gn gm x y Q := by
  unfold nf_H_apart
  simp only [ci_m1, ci_m10, ci_m1001, ci_m1002, ci_m1003, ci_m1004, ci_0, ci_1, ci_10, ci_100, ci_1000, ci_10000, ci_101, ci_103, ci_104, ci_105, ci_107, ci_108, ci_110, ci_111, ci_114, ci_115, ci_116, ci_118, ci_119, ci_12, ci_122, ci_1431655765, ci_15, ci_16, ci_2, ci_20, ci_23, ci_24, ci_240, ci_252645135, ci_255, ci_256, ci_3, ci_32, ci_4, ci_420, ci_48, ci_5, ci_5040, ci_57, ci_59, ci_6, ci_60, ci_63, ci_64, ci_7, ci_70, ci_8, ci_858993459, ci_9, ci_900, ci_97, ci_99, ci_999, ci_9999, cl_0, cl_1, cl_10, cl_1000000000000, cl_122, cl_2, cl_2000000000000, cl_23, cl_255, cl_27, cl_3, cl_4, cl_48, cl_57, cl_6, cl_8, cl_96, cl_97, cl_99, cl_999, cl_9999]
  repeat' (first | with_reducible refine wO_i ?_ ?_ | with_reducible refine wL_i ?_ | with_reducible refine cB_f (by decide) ?_ | with_reducible refine cB_t (by decide) ?_ | with_reducible refine cB_i (fun _ => ?_) (fun _ => ?_) | with_reducible refine jn0_i ?_ | with_reducible refine jn1_i ?_ | with_reducible refine jn2_i ?_ | with_reducible refine jn3_i ?_ | with_reducible refine jn4_i ?_ | with_reducible refine jn5_i ?_ | with_reducible refine jn6_i ?_ | with_reducible refine sp_knows ?_)
  all_goals (try (simp only [iR, lR, inb, bZ, dOK, or_true, true_or, true_and, and_true] at *)); all_goals (try omega)
  all_goals exact h _
theorem st_Hasks {gn cn x : Int} {gk gm gp cg cy cz : Int → Int} {Q : Int → Prop} (hg : 0 ≤ gn ∧ gn ≤ 16) (hC : 0 ≤ cn ∧ cn ≤ 6) (h : ∀ r, Q r) : nf_H_asks gn gk gm gp cn cg cy cz x Q := by
  unfold nf_H_asks
  simp only [ci_m1, ci_m10, ci_m1001, ci_m1002, ci_m1003, ci_m1004, ci_0, ci_1, ci_10, ci_100, ci_1000, ci_10000, ci_101, ci_103, ci_104, ci_105, ci_107, ci_108, ci_110, ci_111, ci_114, ci_115, ci_116, ci_118, ci_119, ci_12, ci_122, ci_1431655765, ci_15, ci_16, ci_2, ci_20, ci_23, ci_24, ci_240, ci_252645135, ci_255, ci_256, ci_3, ci_32, ci_4, ci_420, ci_48, ci_5, ci_5040, ci_57, ci_59, ci_6, ci_60, ci_63, ci_64, ci_7, ci_70, ci_8, ci_858993459, ci_9, ci_900, ci_97, ci_99, ci_999, ci_9999, cl_0, cl_1, cl_10, cl_1000000000000, cl_122, cl_2, cl_2000000000000, cl_23, cl_255, cl_27, cl_3, cl_4, cl_48, cl_57, cl_6, cl_8, cl_96, cl_97, cl_99, cl_999, cl_9999]
  repeat' (first | with_reducible refine wO_i ?_ ?_ | with_reducible refine wL_i ?_ | with_reducible refine cB_f (by decide) ?_ | with_reducible refine cB_t (by decide) ?_ | with_reducible refine cB_i (fun _ => ?_) (fun _ => ?_) | with_reducible refine jn0_i ?_ | with_reducible refine jn1_i ?_ | with_reducible refine jn2_i ?_ | with_reducible refine jn3_i ?_ | with_reducible refine jn4_i ?_ | with_reducible refine jn5_i ?_ | with_reducible refine jn6_i ?_ | with_reducible refine sp_cknows ?_ | with_reducible refine st_fewestAsked hg hC (fun r => ?_))
  all_goals exact h _
theorem sp_imageOf {x : Int} {Q : Int → Prop} (h0 : ¬ (0 ≤ x ∧ x ≤ 1) → Q 0) (h1 : x = 0 → Q 1) (h2 : x = 1 → Q 2) : nf_H_imageOf x Q := by
  unfold nf_H_imageOf
  simp only [ci_m1, ci_m10, ci_m1001, ci_m1002, ci_m1003, ci_m1004, ci_0, ci_1, ci_10, ci_100, ci_1000, ci_10000, ci_101, ci_103, ci_104, ci_105, ci_107, ci_108, ci_110, ci_111, ci_114, ci_115, ci_116, ci_118, ci_119, ci_12, ci_122, ci_1431655765, ci_15, ci_16, ci_2, ci_20, ci_23, ci_24, ci_240, ci_252645135, ci_255, ci_256, ci_3, ci_32, ci_4, ci_420, ci_48, ci_5, ci_5040, ci_57, ci_59, ci_6, ci_60, ci_63, ci_64, ci_7, ci_70, ci_8, ci_858993459, ci_9, ci_900, ci_97, ci_99, ci_999, ci_9999, cl_0, cl_1, cl_10, cl_1000000000000, cl_122, cl_2, cl_2000000000000, cl_23, cl_255, cl_27, cl_3, cl_4, cl_48, cl_57, cl_6, cl_8, cl_96, cl_97, cl_99, cl_999, cl_9999]
  exact sp_within (cB_i (fun a => cB_f (by decide) (cB_i (fun e => h1 e) (fun e => h2 (by omega)))) (fun a => cB_t rfl (h0 a)))
theorem st_Hfault {p : Int} {Q : Int → Prop} (h : Q p) : nf_H_fault p Q := h
theorem st_mfault {p : Int} {Q : Int → Prop} (h : Q p) : nf_M_fault p Q := h
