/-! the model: guests, things, events, chains -/
def mE (er : Int → Int) : Prop := ∀ e, 0 ≤ e → e < 60 → 0 ≤ er (7 * e + 2) ∧ er (7 * e + 2) < 16
def mC (cg : Int → Int) : Prop := ∀ c, 0 ≤ c → c < 6 → 0 ≤ cg c ∧ cg c < 16
def mL (le : Int → Int) : Prop := ∀ k, 0 ≤ k → k < 180 → 0 ≤ le k ∧ le k ≤ 999
def mF (gu ev cl ni : Int) (so ti ha hb hg er cg le : Int → Int) : Prop := mS gu so ti ha hb hg ∧ (0 ≤ ev ∧ ev ≤ 60) ∧ (0 ≤ cl ∧ cl ≤ 6) ∧ (0 ≤ ni ∧ ni ≤ 60) ∧ mE er ∧ mC cg ∧ mL le
theorem mS_new {gu a t : Int} {so ti ha hb hg : Int → Int} (h : mS gu so ti ha hb hg) (h16 : gu < 16) (h1 : 0 ≤ a ∧ a ≤ 3) (h2 : 0 ≤ t ∧ t ≤ 99) : mS (gu + 1) (ups so gu a) (ups ti gu t) (ups ha gu (-1)) (ups hb gu (-1)) hg := by
  obtain ⟨s1, s2, s3, s4, s5, s6, s7, s8, s9⟩ := h
  refine ⟨by omega, by omega, fun g a b => ?_, fun g a b => ?_, fun q a b => ?_, s6, fun x y a b c d e f => ?_, fun q g a b c d e => ?_, fun g a b c => ⟨fun q d e => ?_, fun y d e => ?_⟩⟩
  · by_cases e : g = gu
    · subst e; rw [ups_s, ups_s, ups_s]; omega
    · rw [ups_n e, ups_n e, ups_n e]; exact s3 g a b
  · by_cases e : g = gu
    · subst e; rw [ups_s]; omega
    · rw [ups_n e]; have := s4 g a (by omega); omega
  · have := s5 q a b; omega
  · by_cases ex : x = gu
    · subst ex; rw [ups_s] at e; omega
    · by_cases ey : y = gu
      · subst ey; rw [ups_n ex] at e; rw [ups_n ex, ups_s] at f; omega
      · rw [ups_n ex] at e; rw [ups_n ex, ups_n ey] at f; exact s7 x y a (by omega) c (by omega) e f
  · by_cases eg : g = gu
    · subst eg; rw [ups_s]; omega
    · rw [ups_n eg]; exact s8 q g a b c (by omega) e
  · have := s5 q d e
    by_cases eg : g = gu
    · omega
    · rw [ups_n eg] at c; exact (s9 g a (by omega) c).1 q d e
  · by_cases ey : y = gu
    · subst ey; rw [ups_s]; omega
    · rw [ups_n ey]
      have := s4 y d (by omega)
      by_cases eg : g = gu
      · omega
      · rw [ups_n eg] at c; exact (s9 g a (by omega) c).2 y d (by omega)
theorem mS_hang {gu k p v : Int} {so ti ha hb hg : Int → Int} (h : mS gu so ti ha hb hg) (hk : 0 ≤ k ∧ k < gu) (hkb : hb k < 0) (hp : 0 ≤ p ∧ p < 24) (hv : 0 ≤ v ∧ v ≤ 59) : mS gu so ti ha (ups hb k v) (ups hg p k) := by
  obtain ⟨s1, s2, s3, s4, s5, s6, s7, s8, s9⟩ := h
  have n9 := s9 k hk.1 hk.2 hkb
  refine ⟨s1, s2, fun g a b => ?_, s4, fun q a b => ?_, fun x y a b c d e f => ?_, s7, fun q g a b c d e => ?_, fun g a b c => ⟨fun q d e => ?_, ?_⟩⟩
  · have := s3 g a b
    by_cases e : g = k
    · subst e; rw [ups_s]; omega
    · rw [ups_n e]; exact this
  · by_cases e : q = p
    · subst e; rw [ups_s]; omega
    · rw [ups_n e]; exact s5 q a b
  · by_cases ex : x = p <;> by_cases ey : y = p
    · omega
    · subst ex; rw [ups_s, ups_n ey] at f; exact absurd f.symm (n9.1 y c d)
    · subst ey; rw [ups_n ex, ups_s] at f; exact absurd f (n9.1 x a b)
    · rw [ups_n ex] at e; rw [ups_n ex, ups_n ey] at f; exact s6 x y a b c d e f
  · by_cases eq : q = p
    · subst eq; rw [ups_s]; exact fun f => n9.2 g c d f.symm
    · rw [ups_n eq] at e ⊢; exact s8 q g a b c d e
  · have hne : g ≠ k := fun e => by subst e; rw [ups_s] at c; omega
    rw [ups_n hne] at c
    by_cases eq : q = p
    · subst eq; rw [ups_s]; exact fun e => hne e.symm
    · rw [ups_n eq]; exact (s9 g a b c).1 q d e
  · have hne : g ≠ k := fun e => by subst e; rw [ups_s] at c; omega
    rw [ups_n hne] at c
    exact (s9 g a b c).2
theorem st_mpeg {pg x y : Int} {pk pw hg : Int → Int} {Q : Int → Prop} (hpg : 0 ≤ pg ∧ pg ≤ 24) (h : ∀ r, Q r) : nf_M_peg pg pk pw hg x y Q := by
  unfold nf_M_peg
  simp only [ci_m1, ci_m10, ci_m1001, ci_m1002, ci_m1003, ci_m1004, ci_0, ci_1, ci_10, ci_100, ci_1000, ci_10000, ci_101, ci_103, ci_104, ci_105, ci_107, ci_108, ci_110, ci_111, ci_114, ci_115, ci_116, ci_118, ci_119, ci_12, ci_122, ci_1431655765, ci_15, ci_16, ci_2, ci_20, ci_23, ci_24, ci_240, ci_252645135, ci_255, ci_256, ci_3, ci_32, ci_4, ci_420, ci_48, ci_5, ci_5040, ci_57, ci_59, ci_6, ci_60, ci_63, ci_64, ci_7, ci_70, ci_8, ci_858993459, ci_9, ci_900, ci_97, ci_99, ci_999, ci_9999, cl_0, cl_1, cl_10, cl_1000000000000, cl_122, cl_2, cl_2000000000000, cl_23, cl_255, cl_27, cl_3, cl_4, cl_48, cl_57, cl_6, cl_8, cl_96, cl_97, cl_99, cl_999, cl_9999]
  refine sp_isPeg hpg (cB_i (fun e => cB_f (by decide) ?_) (fun _ => cB_t rfl (h _)))
  repeat' (first | with_reducible refine wO_i ?_ ?_ | with_reducible refine wL_i ?_ | with_reducible refine cB_f (by decide) ?_ | with_reducible refine cB_t (by decide) ?_ | with_reducible refine cB_i (fun _ => ?_) (fun _ => ?_) | with_reducible refine jn0_i ?_ | with_reducible refine jn1_i ?_ | with_reducible refine jn2_i ?_ | with_reducible refine jn3_i ?_ | with_reducible refine jn4_i ?_ | with_reducible refine jn5_i ?_ | with_reducible refine jn6_i ?_)
  all_goals (try (simp only [iR, lR, inb, bZ, dOK, or_true, true_or, true_and, and_true] at *)); all_goals (try omega)
  all_goals exact h _
theorem st_modds {x y : Int} {oo : Int → Int} {Q : Int → Prop} (h : ∀ r, Q r) : nf_M_odds oo x y Q := by
  unfold nf_M_odds
  simp only [ci_m1, ci_m10, ci_m1001, ci_m1002, ci_m1003, ci_m1004, ci_0, ci_1, ci_10, ci_100, ci_1000, ci_10000, ci_101, ci_103, ci_104, ci_105, ci_107, ci_108, ci_110, ci_111, ci_114, ci_115, ci_116, ci_118, ci_119, ci_12, ci_122, ci_1431655765, ci_15, ci_16, ci_2, ci_20, ci_23, ci_24, ci_240, ci_252645135, ci_255, ci_256, ci_3, ci_32, ci_4, ci_420, ci_48, ci_5, ci_5040, ci_57, ci_59, ci_6, ci_60, ci_63, ci_64, ci_7, ci_70, ci_8, ci_858993459, ci_9, ci_900, ci_97, ci_99, ci_999, ci_9999, cl_0, cl_1, cl_10, cl_1000000000000, cl_122, cl_2, cl_2000000000000, cl_23, cl_255, cl_27, cl_3, cl_4, cl_48, cl_57, cl_6, cl_8, cl_96, cl_97, cl_99, cl_999, cl_9999]
  repeat' (first | with_reducible refine wO_i ?_ ?_ | with_reducible refine wL_i ?_ | with_reducible refine cB_f (by decide) ?_ | with_reducible refine cB_t (by decide) ?_ | with_reducible refine cB_i (fun _ => ?_) (fun _ => ?_) | with_reducible refine jn0_i ?_ | with_reducible refine jn1_i ?_ | with_reducible refine jn2_i ?_ | with_reducible refine jn3_i ?_ | with_reducible refine jn4_i ?_ | with_reducible refine jn5_i ?_ | with_reducible refine jn6_i ?_ | with_reducible refine sp_in ?_)
  all_goals (try (simp only [iR, lR, inb, bZ, dOK, or_true, true_or, true_and, and_true] at *)); all_goals (try omega)
  all_goals exact h _
theorem st_mcount {a b c d e f x : Int} {sg : Int → Int} {Q : Int → Prop} (h : ∀ r, Q r) : nf_M_count a b c d e f sg x Q := by
  unfold nf_M_count
  simp only [ci_m1, ci_m10, ci_m1001, ci_m1002, ci_m1003, ci_m1004, ci_0, ci_1, ci_10, ci_100, ci_1000, ci_10000, ci_101, ci_103, ci_104, ci_105, ci_107, ci_108, ci_110, ci_111, ci_114, ci_115, ci_116, ci_118, ci_119, ci_12, ci_122, ci_1431655765, ci_15, ci_16, ci_2, ci_20, ci_23, ci_24, ci_240, ci_252645135, ci_255, ci_256, ci_3, ci_32, ci_4, ci_420, ci_48, ci_5, ci_5040, ci_57, ci_59, ci_6, ci_60, ci_63, ci_64, ci_7, ci_70, ci_8, ci_858993459, ci_9, ci_900, ci_97, ci_99, ci_999, ci_9999, cl_0, cl_1, cl_10, cl_1000000000000, cl_122, cl_2, cl_2000000000000, cl_23, cl_255, cl_27, cl_3, cl_4, cl_48, cl_57, cl_6, cl_8, cl_96, cl_97, cl_99, cl_999, cl_9999]
  repeat' (first | with_reducible refine wO_i ?_ ?_ | with_reducible refine wL_i ?_ | with_reducible refine cB_f (by decide) ?_ | with_reducible refine cB_t (by decide) ?_ | with_reducible refine cB_i (fun _ => ?_) (fun _ => ?_) | with_reducible refine jn0_i ?_ | with_reducible refine jn1_i ?_ | with_reducible refine jn2_i ?_ | with_reducible refine jn3_i ?_ | with_reducible refine jn4_i ?_ | with_reducible refine jn5_i ?_ | with_reducible refine jn6_i ?_ | with_reducible refine sp_in ?_)
  all_goals (try (simp only [iR, lR, inb, bZ, dOK, or_true, true_or, true_and, and_true] at *)); all_goals (try omega)
  all_goals exact h _
theorem st_mguest {gu ev cl ni x1 x2 x3 x4 : Int} {so ki ti mk br ha hb hg er cg le : Int → Int} {Q : Int → Int → (Int → Int) → (Int → Int) → (Int → Int) → (Int → Int) → (Int → Int) → (Int → Int) → (Int → Int) → Prop} (hm : mF gu ev cl ni so ti ha hb hg er cg le) (h : ∀ r gu' so' ki' ti' mk' br' ha' hb', mF gu' ev cl ni so' ti' ha' hb' hg er cg le → Q r gu' so' ki' ti' mk' br' ha' hb') : nf_M_guest gu so ki ti mk br ha hb x1 x2 x3 x4 Q := by
  unfold nf_M_guest
  simp only [ci_m1, ci_m10, ci_m1001, ci_m1002, ci_m1003, ci_m1004, ci_0, ci_1, ci_10, ci_100, ci_1000, ci_10000, ci_101, ci_103, ci_104, ci_105, ci_107, ci_108, ci_110, ci_111, ci_114, ci_115, ci_116, ci_118, ci_119, ci_12, ci_122, ci_1431655765, ci_15, ci_16, ci_2, ci_20, ci_23, ci_24, ci_240, ci_252645135, ci_255, ci_256, ci_3, ci_32, ci_4, ci_420, ci_48, ci_5, ci_5040, ci_57, ci_59, ci_6, ci_60, ci_63, ci_64, ci_7, ci_70, ci_8, ci_858993459, ci_9, ci_900, ci_97, ci_99, ci_999, ci_9999, cl_0, cl_1, cl_10, cl_1000000000000, cl_122, cl_2, cl_2000000000000, cl_23, cl_255, cl_27, cl_3, cl_4, cl_48, cl_57, cl_6, cl_8, cl_96, cl_97, cl_99, cl_999, cl_9999]
  have g0 := hm.1.1
  have g1 := hm.1.2.1
  refine wL_i (sp_in (cB_i (fun a1 => cB_f (by decide) ?_) (fun _ => cB_t rfl (h _ _ _ _ _ _ _ _ _ hm))))
  refine wL_i (sp_in (cB_i (fun a2 => cB_f (by decide) ?_) (fun _ => cB_t rfl (h _ _ _ _ _ _ _ _ _ hm))))
  refine wL_i (sp_in (cB_i (fun a3 => cB_f (by decide) ?_) (fun _ => cB_t rfl (h _ _ _ _ _ _ _ _ _ hm))))
  refine wL_i (sp_in (cB_i (fun a4 => cB_f (by decide) ?_) (fun _ => cB_t rfl (h _ _ _ _ _ _ _ _ _ hm))))
  refine cB_i (fun _ => h _ _ _ _ _ _ _ _ _ hm) (fun _ => ?_)
  have hn : inb gu 16 := by simp only [inb]; omega
  refine wO_i hn (wO_i hn (wO_i hn (wO_i hn (wO_i hn (wO_i hn (wO_i hn (wO_i (by simp only [iR]; omega) (wO_i (by simp only [iR]; omega) (h _ _ _ _ _ _ _ _ _ ⟨mS_new hm.1 (by omega) a1 a3, hm.2⟩)))))))))
theorem st_mholderOf {n x : Int} {F : Int → Int} {Q : Int → Prop} (hn : 0 ≤ n ∧ n ≤ 16) (h : ∀ r, Q r) : nf_M_holderOf n F x Q := by
  unfold nf_M_holderOf
  simp only [ci_m1, ci_m10, ci_m1001, ci_m1002, ci_m1003, ci_m1004, ci_0, ci_1, ci_10, ci_100, ci_1000, ci_10000, ci_101, ci_103, ci_104, ci_105, ci_107, ci_108, ci_110, ci_111, ci_114, ci_115, ci_116, ci_118, ci_119, ci_12, ci_122, ci_1431655765, ci_15, ci_16, ci_2, ci_20, ci_23, ci_24, ci_240, ci_252645135, ci_255, ci_256, ci_3, ci_32, ci_4, ci_420, ci_48, ci_5, ci_5040, ci_57, ci_59, ci_6, ci_60, ci_63, ci_64, ci_7, ci_70, ci_8, ci_858993459, ci_9, ci_900, ci_97, ci_99, ci_999, ci_9999, cl_0, cl_1, cl_10, cl_1000000000000, cl_122, cl_2, cl_2000000000000, cl_23, cl_255, cl_27, cl_3, cl_4, cl_48, cl_57, cl_6, cl_8, cl_96, cl_97, cl_99, cl_999, cl_9999]
  refine nlp2_i (fun _ i => 0 ≤ i ∧ i ≤ n) (fun _ i => (n - i).toNat) ?_ ⟨by omega, by omega⟩
  intro r i hi self hself
  obtain ⟨i1, i2⟩ := hi
  repeat' (first | with_reducible refine wO_i ?_ ?_ | with_reducible refine wL_i ?_ | with_reducible refine cB_f (by decide) ?_ | with_reducible refine cB_t (by decide) ?_ | with_reducible refine cB_i (fun _ => ?_) (fun _ => ?_) | with_reducible refine jn0_i ?_ | with_reducible refine jn1_i ?_ | with_reducible refine jn2_i ?_ | with_reducible refine jn3_i ?_ | with_reducible refine jn4_i ?_ | with_reducible refine jn5_i ?_ | with_reducible refine jn6_i ?_)
  all_goals (try (simp only [iR, lR, inb, bZ, dOK, or_true, true_or, true_and, and_true] at *)); all_goals (try omega)
  all_goals first | exact h _ | exact hself _ _ ⟨by omega, by omega⟩ (by omega)
theorem st_mtold {pg gu np nw ev cl ni x y : Int} {oo sg hg so ki ti mk br ha hb er cg pl we le : Int → Int} {Q : Int → Prop} (hpg : 0 ≤ pg ∧ pg ≤ 24) (hm : mF gu ev cl ni so ti ha hb hg er cg le) (ho : ∀ k, 0 ≤ k → k < 12 → 0 ≤ oo k ∧ oo k ≤ 100) (hs : ∀ k, 0 ≤ k → k < 3 → 0 ≤ sg k ∧ sg k ≤ 9) (h : ∀ r, Q r) : nf_M_told pg gu np nw ni oo sg hg so ki ti mk br ha pl we le x y Q := by
  unfold nf_M_told
  simp only [ci_m1, ci_m10, ci_m1001, ci_m1002, ci_m1003, ci_m1004, ci_0, ci_1, ci_10, ci_100, ci_1000, ci_10000, ci_101, ci_103, ci_104, ci_105, ci_107, ci_108, ci_110, ci_111, ci_114, ci_115, ci_116, ci_118, ci_119, ci_12, ci_122, ci_1431655765, ci_15, ci_16, ci_2, ci_20, ci_23, ci_24, ci_240, ci_252645135, ci_255, ci_256, ci_3, ci_32, ci_4, ci_420, ci_48, ci_5, ci_5040, ci_57, ci_59, ci_6, ci_60, ci_63, ci_64, ci_7, ci_70, ci_8, ci_858993459, ci_9, ci_900, ci_97, ci_99, ci_999, ci_9999, cl_0, cl_1, cl_10, cl_1000000000000, cl_122, cl_2, cl_2000000000000, cl_23, cl_255, cl_27, cl_3, cl_4, cl_48, cl_57, cl_6, cl_8, cl_96, cl_97, cl_99, cl_999, cl_9999]
  have g0 := hm.1.1
  have g1 := hm.1.2.1
  refine sp_isGuest ⟨g0, g1⟩ (cB_i (fun e => cB_f (by decide) ?_) (fun _ => cB_t rfl (h _)))
  have hx : inb x 16 := by simp only [inb]; omega
  refine cB_i (fun _ => wO_i hx (h _)) (fun _ => cB_i (fun _ => wO_i hx (h _)) (fun _ => cB_i (fun _ => wO_i hx (h _)) (fun _ => cB_i (fun _ => wO_i hx (h _)) (fun _ => cB_i (fun _ => wO_i hx (h _)) (fun _ => cB_i (fun _ => sp_pegOf hpg (fun r _ _ _ _ => h r)) (fun _ => cB_i (fun _ => st_mholderOf ⟨g0, g1⟩ (fun r => h r)) (fun _ => cB_i (fun _ => wO_i hx (h _)) (fun _ => cB_i (fun _ => ?_) (fun _ => h _)))))))))
  exact st_mexpected hm.2.2.2.1 hm.2.2.2.2.2.2 ho hs (fun g a b => by have := hm.1.2.2.1 g a b; exact ⟨this.1, this.2.1⟩) ⟨by omega, by omega⟩ (fun r _ _ => h r)
theorem st_mnight {ni x1 x2 x3 x4 x5 : Int} {pl we le : Int → Int} {Q : Int → Int → (Int → Int) → (Int → Int) → (Int → Int) → Prop} (hn : 0 ≤ ni ∧ ni ≤ 60) (hl : mL le) (h : ∀ r ni' pl' we' le', 0 ≤ ni' → ni' ≤ 60 → mL le' → Q r ni' pl' we' le') : nf_M_night ni pl we le x1 x2 x3 x4 x5 Q := by
  unfold nf_M_night
  simp only [ci_m1, ci_m10, ci_m1001, ci_m1002, ci_m1003, ci_m1004, ci_0, ci_1, ci_10, ci_100, ci_1000, ci_10000, ci_101, ci_103, ci_104, ci_105, ci_107, ci_108, ci_110, ci_111, ci_114, ci_115, ci_116, ci_118, ci_119, ci_12, ci_122, ci_1431655765, ci_15, ci_16, ci_2, ci_20, ci_23, ci_24, ci_240, ci_252645135, ci_255, ci_256, ci_3, ci_32, ci_4, ci_420, ci_48, ci_5, ci_5040, ci_57, ci_59, ci_6, ci_60, ci_63, ci_64, ci_7, ci_70, ci_8, ci_858993459, ci_9, ci_900, ci_97, ci_99, ci_999, ci_9999, cl_0, cl_1, cl_10, cl_1000000000000, cl_122, cl_2, cl_2000000000000, cl_23, cl_255, cl_27, cl_3, cl_4, cl_48, cl_57, cl_6, cl_8, cl_96, cl_97, cl_99, cl_999, cl_9999]
  have no := fun r => h r _ pl we _ hn.1 hn.2 hl
  refine sp_isNight (cB_i (fun a1 => cB_f (by decide) ?_) (fun _ => cB_t rfl (no _)))
  refine wL_i (sp_in (cB_i (fun a2 => cB_f (by decide) ?_) (fun _ => cB_t rfl (no _))))
  refine wL_i (sp_in (cB_i (fun a3 => cB_f (by decide) ?_) (fun _ => cB_t rfl (no _))))
  refine wL_i (sp_in (cB_i (fun a4 => cB_f (by decide) ?_) (fun _ => cB_t rfl (no _))))
  refine cB_i (fun _ => no _) (fun _ => ?_)
  repeat' (first | with_reducible refine wO_i ?_ ?_ | with_reducible refine wL_i ?_ | with_reducible refine cB_f (by decide) ?_ | with_reducible refine cB_t (by decide) ?_ | with_reducible refine cB_i (fun _ => ?_) (fun _ => ?_) | with_reducible refine jn0_i ?_ | with_reducible refine jn1_i ?_ | with_reducible refine jn2_i ?_ | with_reducible refine jn3_i ?_ | with_reducible refine jn4_i ?_ | with_reducible refine jn5_i ?_ | with_reducible refine jn6_i ?_)
  all_goals (try (simp only [iR, lR, inb, bZ, dOK, or_true, true_or, true_and, and_true] at *)); all_goals (try omega)
  refine h _ _ _ _ _ (by omega) (by omega) (fun k k0 k1 => ?_)
  by_cases e2 : k = 3 * ni + 2
  · subst e2; rw [ups_s]; omega
  · rw [ups_n e2]
    by_cases e1 : k = 3 * ni + 1
    · subst e1; rw [ups_s]; omega
    · rw [ups_n e1]
      by_cases e0 : k = 3 * ni
      · subst e0; rw [ups_s]; omega
      · rw [ups_n e0]; exact hl k k0 k1
theorem st_mlearnt {ni x1 x2 x3 : Int} {pl we le : Int → Int} {Q : Int → Prop} (hn : 0 ≤ ni ∧ ni ≤ 60) (hl : mL le) (h : ∀ r, Q r) : nf_M_learnt ni pl we le x1 x2 x3 Q := by
  unfold nf_M_learnt
  simp only [ci_m1, ci_m10, ci_m1001, ci_m1002, ci_m1003, ci_m1004, ci_0, ci_1, ci_10, ci_100, ci_1000, ci_10000, ci_101, ci_103, ci_104, ci_105, ci_107, ci_108, ci_110, ci_111, ci_114, ci_115, ci_116, ci_118, ci_119, ci_12, ci_122, ci_1431655765, ci_15, ci_16, ci_2, ci_20, ci_23, ci_24, ci_240, ci_252645135, ci_255, ci_256, ci_3, ci_32, ci_4, ci_420, ci_48, ci_5, ci_5040, ci_57, ci_59, ci_6, ci_60, ci_63, ci_64, ci_7, ci_70, ci_8, ci_858993459, ci_9, ci_900, ci_97, ci_99, ci_999, ci_9999, cl_0, cl_1, cl_10, cl_1000000000000, cl_122, cl_2, cl_2000000000000, cl_23, cl_255, cl_27, cl_3, cl_4, cl_48, cl_57, cl_6, cl_8, cl_96, cl_97, cl_99, cl_999, cl_9999]
  refine sp_isNight (cB_i (fun a1 => cB_f (by decide) ?_) (fun _ => cB_t rfl (h _)))
  refine wL_i (sp_in (cB_i (fun a2 => cB_f (by decide) ?_) (fun _ => cB_t rfl (h _))))
  exact st_learntOf hn hl (fun r _ _ => h r)
theorem st_mtonight {np nw x1 x2 : Int} {Q : Int → Int → Int → Prop} (h : ∀ r a b, Q r a b) : nf_M_tonight np nw x1 x2 Q := by
  unfold nf_M_tonight
  simp only [ci_m1, ci_m10, ci_m1001, ci_m1002, ci_m1003, ci_m1004, ci_0, ci_1, ci_10, ci_100, ci_1000, ci_10000, ci_101, ci_103, ci_104, ci_105, ci_107, ci_108, ci_110, ci_111, ci_114, ci_115, ci_116, ci_118, ci_119, ci_12, ci_122, ci_1431655765, ci_15, ci_16, ci_2, ci_20, ci_23, ci_24, ci_240, ci_252645135, ci_255, ci_256, ci_3, ci_32, ci_4, ci_420, ci_48, ci_5, ci_5040, ci_57, ci_59, ci_6, ci_60, ci_63, ci_64, ci_7, ci_70, ci_8, ci_858993459, ci_9, ci_900, ci_97, ci_99, ci_999, ci_9999, cl_0, cl_1, cl_10, cl_1000000000000, cl_122, cl_2, cl_2000000000000, cl_23, cl_255, cl_27, cl_3, cl_4, cl_48, cl_57, cl_6, cl_8, cl_96, cl_97, cl_99, cl_999, cl_9999]
  refine jn0_s True (fun _ => jn1_s (fun _ => True) (fun t _ => h _ _ _) (cB_i (fun _ => trivial) (fun _ => trivial))) (cB_i (fun _ => trivial) (fun _ => ?_))
  exact sp_isNight (cB_i (fun _ => cB_f (by decide) trivial) (fun _ => cB_t rfl (h _ _ _)))
theorem mE_add {er : Int → Int} {ev a b c d e f g : Int} (hc : 0 ≤ c ∧ c < 16) (he : mE er) : mE (ups (ups (ups (ups (ups (ups (ups er (7 * ev) a) (7 * ev + 1) b) (7 * ev + 2) c) (7 * ev + 3) d) (7 * ev + 4) e) (7 * ev + 5) f) (7 * ev + 6) g) := by
  intro q q0 q1
  rw [ups_n (by omega), ups_n (by omega), ups_n (by omega), ups_n (by omega)]
  by_cases eq : q = ev
  · subst eq; rw [ups_s]; exact hc
  · rw [ups_n (by omega), ups_n (by omega), ups_n (by omega)]; exact he q q0 q1
theorem st_addEvent {ev a b c d e f g : Int} {er : Int → Int} {Q : Int → Int → (Int → Int) → Prop} (hev : 0 ≤ ev ∧ ev < 60) (hc : 0 ≤ c ∧ c < 16) (he : mE er) (h : ∀ r er', mE er' → Q r (ev + 1) er') : nf_M_addEvent ev er a b c d e f g Q := by
  unfold nf_M_addEvent
  simp only [ci_m1, ci_m10, ci_m1001, ci_m1002, ci_m1003, ci_m1004, ci_0, ci_1, ci_10, ci_100, ci_1000, ci_10000, ci_101, ci_103, ci_104, ci_105, ci_107, ci_108, ci_110, ci_111, ci_114, ci_115, ci_116, ci_118, ci_119, ci_12, ci_122, ci_1431655765, ci_15, ci_16, ci_2, ci_20, ci_23, ci_24, ci_240, ci_252645135, ci_255, ci_256, ci_3, ci_32, ci_4, ci_420, ci_48, ci_5, ci_5040, ci_57, ci_59, ci_6, ci_60, ci_63, ci_64, ci_7, ci_70, ci_8, ci_858993459, ci_9, ci_900, ci_97, ci_99, ci_999, ci_9999, cl_0, cl_1, cl_10, cl_1000000000000, cl_122, cl_2, cl_2000000000000, cl_23, cl_255, cl_27, cl_3, cl_4, cl_48, cl_57, cl_6, cl_8, cl_96, cl_97, cl_99, cl_999, cl_9999]
  have i0 : inb (7 * ev) 420 := by simp only [inb]; omega
  have i1 : inb (7 * ev + 1) 420 := by simp only [inb]; omega
  have i2 : inb (7 * ev + 2) 420 := by simp only [inb]; omega
  have i3 : inb (7 * ev + 3) 420 := by simp only [inb]; omega
  have i4 : inb (7 * ev + 4) 420 := by simp only [inb]; omega
  have i5 : inb (7 * ev + 5) 420 := by simp only [inb]; omega
  have i6 : inb (7 * ev + 6) 420 := by simp only [inb]; omega
  refine wO_i (by simp only [iR]; omega) (wO_i i0 (wO_i (by simp only [iR]; omega) (wO_i i1 (wO_i (by simp only [iR]; omega) (wO_i i2 (wO_i (by simp only [iR]; omega) (wO_i i3 (wO_i (by simp only [iR]; omega) (wO_i i4 (wO_i (by simp only [iR]; omega) (wO_i i5 (wO_i (by simp only [iR]; omega) ?_))))))))))))
  exact jn1_s (fun _ => True) (fun t _ => wO_i i6 (wO_i (by simp only [iR]; omega) (wO_i (by simp only [iR]; omega) (h _ _ (mE_add hc he))))) (cB_i (fun _ => trivial) (fun _ => trivial))
theorem st_isBrassOut {gu x : Int} {br : Int → Int} {Q : Int → Prop} (hgu : 0 ≤ gu ∧ gu ≤ 16) (h : ∀ r, (r = 0 ∨ r = 1) → Q r) : nf_M_isBrassOut gu br x Q := by
  unfold nf_M_isBrassOut
  simp only [ci_m1, ci_m10, ci_m1001, ci_m1002, ci_m1003, ci_m1004, ci_0, ci_1, ci_10, ci_100, ci_1000, ci_10000, ci_101, ci_103, ci_104, ci_105, ci_107, ci_108, ci_110, ci_111, ci_114, ci_115, ci_116, ci_118, ci_119, ci_12, ci_122, ci_1431655765, ci_15, ci_16, ci_2, ci_20, ci_23, ci_24, ci_240, ci_252645135, ci_255, ci_256, ci_3, ci_32, ci_4, ci_420, ci_48, ci_5, ci_5040, ci_57, ci_59, ci_6, ci_60, ci_63, ci_64, ci_7, ci_70, ci_8, ci_858993459, ci_9, ci_900, ci_97, ci_99, ci_999, ci_9999, cl_0, cl_1, cl_10, cl_1000000000000, cl_122, cl_2, cl_2000000000000, cl_23, cl_255, cl_27, cl_3, cl_4, cl_48, cl_57, cl_6, cl_8, cl_96, cl_97, cl_99, cl_999, cl_9999]
  refine nlp2_i (fun l i => 0 ≤ i ∧ i ≤ gu ∧ (l = 0 ∨ l = 1)) (fun _ i => (gu - i).toNat) ?_ ⟨by omega, by omega, Or.inl rfl⟩
  intro l i hi self hself
  obtain ⟨i1, i2, i3⟩ := hi
  refine cB_i (fun _ => wO_i (by simp only [bZ]; omega) (h _ i3)) (fun _ => ?_)
  refine jn1_s (fun t => t = 0 ∨ t = 1) (fun t ht => wO_i (by simp only [iR]; omega) (hself _ _ ⟨by omega, by omega, ht⟩ (by omega))) ?_
  exact jn0_s True (fun _ => Or.inr rfl) (cB_i (fun _ => wO_i (by simp only [inb]; omega) (cB_i (fun _ => trivial) (fun _ => Or.inl rfl))) (fun _ => trivial))
theorem st_hasClaim {cl x : Int} {cg : Int → Int} {Q : Int → Prop} (hcl : 0 ≤ cl ∧ cl ≤ 6) (h : ∀ r, (r = 0 ∨ r = 1) → Q r) : nf_M_hasClaim cl cg x Q := by
  unfold nf_M_hasClaim
  simp only [ci_m1, ci_m10, ci_m1001, ci_m1002, ci_m1003, ci_m1004, ci_0, ci_1, ci_10, ci_100, ci_1000, ci_10000, ci_101, ci_103, ci_104, ci_105, ci_107, ci_108, ci_110, ci_111, ci_114, ci_115, ci_116, ci_118, ci_119, ci_12, ci_122, ci_1431655765, ci_15, ci_16, ci_2, ci_20, ci_23, ci_24, ci_240, ci_252645135, ci_255, ci_256, ci_3, ci_32, ci_4, ci_420, ci_48, ci_5, ci_5040, ci_57, ci_59, ci_6, ci_60, ci_63, ci_64, ci_7, ci_70, ci_8, ci_858993459, ci_9, ci_900, ci_97, ci_99, ci_999, ci_9999, cl_0, cl_1, cl_10, cl_1000000000000, cl_122, cl_2, cl_2000000000000, cl_23, cl_255, cl_27, cl_3, cl_4, cl_48, cl_57, cl_6, cl_8, cl_96, cl_97, cl_99, cl_999, cl_9999]
  refine nlp2_i (fun l i => 0 ≤ i ∧ i ≤ cl ∧ (l = 0 ∨ l = 1)) (fun _ i => (cl - i).toNat) ?_ ⟨by omega, by omega, Or.inl rfl⟩
  intro l i hi self hself
  obtain ⟨i1, i2, i3⟩ := hi
  refine cB_i (fun _ => wO_i (by simp only [bZ]; omega) (h _ i3)) (fun _ => ?_)
  refine jn1_s (fun t => t = 0 ∨ t = 1) (fun t ht => wO_i (by simp only [iR]; omega) (hself _ _ ⟨by omega, by omega, ht⟩ (by omega))) ?_
  exact jn0_s True (fun _ => Or.inr rfl) (cB_i (fun _ => wO_i (by simp only [inb]; omega) (cB_i (fun _ => trivial) (fun _ => Or.inl rfl))) (fun _ => trivial))
theorem st_mhang {pg gu ev cl ni x1 x2 x3 x4 : Int} {pk hg ki br hb er cg so ti ha le : Int → Int} {Q : Int → Int → (Int → Int) → (Int → Int) → (Int → Int) → (Int → Int) → Prop} (hpg : 0 ≤ pg ∧ pg ≤ 24) (hm : mF gu ev cl ni so ti ha hb hg er cg le) (h : ∀ r ev' hg' br' hb' er', mF gu ev' cl ni so ti ha hb' hg' er' cg le → Q r ev' hg' br' hb' er') : nf_M_hang pg gu ev cl pk hg ki br hb er cg x1 x2 x3 x4 Q := by
  unfold nf_M_hang
  simp only [ci_m1, ci_m10, ci_m1001, ci_m1002, ci_m1003, ci_m1004, ci_0, ci_1, ci_10, ci_100, ci_1000, ci_10000, ci_101, ci_103, ci_104, ci_105, ci_107, ci_108, ci_110, ci_111, ci_114, ci_115, ci_116, ci_118, ci_119, ci_12, ci_122, ci_1431655765, ci_15, ci_16, ci_2, ci_20, ci_23, ci_24, ci_240, ci_252645135, ci_255, ci_256, ci_3, ci_32, ci_4, ci_420, ci_48, ci_5, ci_5040, ci_57, ci_59, ci_6, ci_60, ci_63, ci_64, ci_7, ci_70, ci_8, ci_858993459, ci_9, ci_900, ci_97, ci_99, ci_999, ci_9999, cl_0, cl_1, cl_10, cl_1000000000000, cl_122, cl_2, cl_2000000000000, cl_23, cl_255, cl_27, cl_3, cl_4, cl_48, cl_57, cl_6, cl_8, cl_96, cl_97, cl_99, cl_999, cl_9999]
  have g0 := hm.1.1
  have g1 := hm.1.2.1
  have v0 := hm.2.1
  have no := fun r br => h r _ _ br _ _ hm
  refine sp_mHand (cB_i (fun a1 => cB_f (by decide) ?_) (fun _ => cB_t rfl (no _ _)))
  refine sp_isGuest ⟨g0, g1⟩ (cB_i (fun a2 => cB_f (by decide) ?_) (fun _ => cB_t rfl (no _ _)))
  refine sp_isPeg hpg (cB_i (fun a3 => cB_f (by decide) ?_) (fun _ => cB_t rfl (no _ _)))
  refine wL_i (sp_in (cB_i (fun a4 => cB_f (by decide) ?_) (fun _ => cB_t rfl (no _ _))))
  have ig : inb x2 16 := by simp only [inb]; omega
  have ip : inb x3 24 := by simp only [inb]; omega
  refine wO_i ig (cB_i (fun _ => no _ _) (fun hb1 => st_hasClaim hm.2.2.1 (fun r _ => cB_i (fun _ => ?_) (fun _ => no _ _))))
  refine wO_i ip (wO_i ig (cB_i (fun _ => wO_i ip (cB_i (fun _ => no _ _) (fun hp1 => st_isBrassOut ⟨g0, g1⟩ (fun r _ => cB_i (fun _ => cB_i (fun _ => no _ _) (fun hev => ?_)) (fun _ => no _ _))))) (fun _ => no _ _)))
  refine wO_i ip (wO_i ig (wO_i ig ?_))
  exact jn1_s (fun _ => True) (fun t _ => st_addEvent ⟨v0.1, by omega⟩ ⟨by omega, by omega⟩ hm.2.2.2.2.1 (fun r er' he' => h _ _ _ _ _ _ ⟨mS_hang hm.1 a2 (by omega) ⟨by omega, by omega⟩ ⟨by omega, by omega⟩, ⟨by omega, by omega⟩, hm.2.2.1, hm.2.2.2.1, he', hm.2.2.2.2.2⟩)) (cB_i (fun _ => trivial) (fun _ => trivial))
theorem st_mgive {pg gu ev cl ni x1 x2 x3 : Int} {hg br hb er cg so ti ha le : Int → Int} {Q : Int → Int → (Int → Int) → (Int → Int) → (Int → Int) → (Int → Int) → Prop} (hpg : 0 ≤ pg ∧ pg ≤ 24) (hm : mF gu ev cl ni so ti ha hb hg er cg le) (h : ∀ r ev' hg' br' ha' er', mF gu ev' cl ni so ti ha' hb hg' er' cg le → Q r ev' hg' br' ha' er') : nf_M_give pg gu ev hg br ha er x1 x2 x3 Q := by
  unfold nf_M_give
  simp only [ci_m1, ci_m10, ci_m1001, ci_m1002, ci_m1003, ci_m1004, ci_0, ci_1, ci_10, ci_100, ci_1000, ci_10000, ci_101, ci_103, ci_104, ci_105, ci_107, ci_108, ci_110, ci_111, ci_114, ci_115, ci_116, ci_118, ci_119, ci_12, ci_122, ci_1431655765, ci_15, ci_16, ci_2, ci_20, ci_23, ci_24, ci_240, ci_252645135, ci_255, ci_256, ci_3, ci_32, ci_4, ci_420, ci_48, ci_5, ci_5040, ci_57, ci_59, ci_6, ci_60, ci_63, ci_64, ci_7, ci_70, ci_8, ci_858993459, ci_9, ci_900, ci_97, ci_99, ci_999, ci_9999, cl_0, cl_1, cl_10, cl_1000000000000, cl_122, cl_2, cl_2000000000000, cl_23, cl_255, cl_27, cl_3, cl_4, cl_48, cl_57, cl_6, cl_8, cl_96, cl_97, cl_99, cl_999, cl_9999]
  have g0 := hm.1.1
  have g1 := hm.1.2.1
  have v0 := hm.2.1
  have no := fun r br => h r _ _ br _ _ hm
  refine sp_mHand (cB_i (fun a1 => cB_f (by decide) ?_) (fun _ => cB_t rfl (no _ _)))
  refine sp_isGuest ⟨g0, g1⟩ (cB_i (fun a2 => cB_f (by decide) ?_) (fun _ => cB_t rfl (no _ _)))
  refine sp_isPeg hpg (cB_i (fun a3 => cB_f (by decide) ?_) (fun _ => cB_t rfl (no _ _)))
  have ig : inb x2 16 := by simp only [inb]; omega
  have ip : inb x3 24 := by simp only [inb]; omega
  refine wO_i ig (cB_i (fun _ => no _ _) (fun _ => wO_i ig (cB_i (fun _ => no _ _) (fun _ => wO_i ip (cB_i (fun hp1 => cB_i (fun _ => no _ _) (fun hev => ?_)) (fun _ => no _ _))))))
  refine wO_i ig (wO_i ip (wO_i ig (wO_i ip (wO_i ig ?_))))
  exact jn1_s (fun _ => True) (fun t _ => st_addEvent ⟨v0.1, by omega⟩ ⟨by omega, by omega⟩ hm.2.2.2.2.1 (fun r er' he' => h _ _ _ _ _ _ ⟨mS_go hm.1 ⟨by omega, by omega⟩ hp1, ⟨by omega, by omega⟩, hm.2.2.1, hm.2.2.2.1, he', hm.2.2.2.2.2⟩)) (cB_i (fun _ => trivial) (fun _ => trivial))
theorem st_mlose {gu ev cl ni x1 : Int} {hg br hb er cg so ti ha le : Int → Int} {Q : Int → Int → (Int → Int) → (Int → Int) → Prop} (hm : mF gu ev cl ni so ti ha hb hg er cg le) (h : ∀ r ev' br' er', mF gu ev' cl ni so ti ha hb hg er' cg le → Q r ev' br' er') : nf_M_lose gu ev br er x1 Q := by
  unfold nf_M_lose
  simp only [ci_m1, ci_m10, ci_m1001, ci_m1002, ci_m1003, ci_m1004, ci_0, ci_1, ci_10, ci_100, ci_1000, ci_10000, ci_101, ci_103, ci_104, ci_105, ci_107, ci_108, ci_110, ci_111, ci_114, ci_115, ci_116, ci_118, ci_119, ci_12, ci_122, ci_1431655765, ci_15, ci_16, ci_2, ci_20, ci_23, ci_24, ci_240, ci_252645135, ci_255, ci_256, ci_3, ci_32, ci_4, ci_420, ci_48, ci_5, ci_5040, ci_57, ci_59, ci_6, ci_60, ci_63, ci_64, ci_7, ci_70, ci_8, ci_858993459, ci_9, ci_900, ci_97, ci_99, ci_999, ci_9999, cl_0, cl_1, cl_10, cl_1000000000000, cl_122, cl_2, cl_2000000000000, cl_23, cl_255, cl_27, cl_3, cl_4, cl_48, cl_57, cl_6, cl_8, cl_96, cl_97, cl_99, cl_999, cl_9999]
  have g0 := hm.1.1
  have g1 := hm.1.2.1
  have v0 := hm.2.1
  have no := fun r br => h r _ br _ hm
  refine sp_isGuest ⟨g0, g1⟩ (cB_i (fun a2 => cB_f (by decide) ?_) (fun _ => cB_t rfl (no _ _)))
  have ig : inb x1 16 := by simp only [inb]; omega
  refine wO_i ig (cB_i (fun _ => cB_i (fun _ => no _ _) (fun hev => wO_i ig (wO_i ig ?_))) (fun _ => no _ _))
  exact st_addEvent ⟨v0.1, by omega⟩ ⟨by omega, by omega⟩ hm.2.2.2.2.1 (fun r er' he' => h _ _ _ _ ⟨hm.1, ⟨by omega, by omega⟩, hm.2.2.1, hm.2.2.2.1, he', hm.2.2.2.2.2⟩)
theorem st_mevent {ev x1 x2 : Int} {er : Int → Int} {Q : Int → Prop} (hev : 0 ≤ ev ∧ ev ≤ 60) (h : ∀ r, Q r) : nf_M_event ev er x1 x2 Q := by
  unfold nf_M_event
  simp only [ci_m1, ci_m10, ci_m1001, ci_m1002, ci_m1003, ci_m1004, ci_0, ci_1, ci_10, ci_100, ci_1000, ci_10000, ci_101, ci_103, ci_104, ci_105, ci_107, ci_108, ci_110, ci_111, ci_114, ci_115, ci_116, ci_118, ci_119, ci_12, ci_122, ci_1431655765, ci_15, ci_16, ci_2, ci_20, ci_23, ci_24, ci_240, ci_252645135, ci_255, ci_256, ci_3, ci_32, ci_4, ci_420, ci_48, ci_5, ci_5040, ci_57, ci_59, ci_6, ci_60, ci_63, ci_64, ci_7, ci_70, ci_8, ci_858993459, ci_9, ci_900, ci_97, ci_99, ci_999, ci_9999, cl_0, cl_1, cl_10, cl_1000000000000, cl_122, cl_2, cl_2000000000000, cl_23, cl_255, cl_27, cl_3, cl_4, cl_48, cl_57, cl_6, cl_8, cl_96, cl_97, cl_99, cl_999, cl_9999]
  repeat' (first | with_reducible refine wO_i ?_ ?_ | with_reducible refine wL_i ?_ | with_reducible refine cB_f (by decide) ?_ | with_reducible refine cB_t (by decide) ?_ | with_reducible refine cB_i (fun _ => ?_) (fun _ => ?_) | with_reducible refine jn0_i ?_ | with_reducible refine jn1_i ?_ | with_reducible refine jn2_i ?_ | with_reducible refine jn3_i ?_ | with_reducible refine jn4_i ?_ | with_reducible refine jn5_i ?_ | with_reducible refine jn6_i ?_ | with_reducible refine sp_in ?_)
  all_goals (try (simp only [iR, lR, inb, bZ, dOK, or_true, true_or, true_and, and_true] at *)); all_goals (try omega)
  all_goals exact h _
theorem st_misAstray {x : Int} {ha : Int → Int} {Q : Int → Prop} (hx : 0 ≤ x ∧ x < 16) (h : ∀ r, (r = 0 ∨ (r = 1 ∧ 0 ≤ ha x ∧ ha x ≠ x)) → Q r) : nf_M_isAstray ha x Q := by
  unfold nf_M_isAstray
  simp only [ci_m1, ci_m10, ci_m1001, ci_m1002, ci_m1003, ci_m1004, ci_0, ci_1, ci_10, ci_100, ci_1000, ci_10000, ci_101, ci_103, ci_104, ci_105, ci_107, ci_108, ci_110, ci_111, ci_114, ci_115, ci_116, ci_118, ci_119, ci_12, ci_122, ci_1431655765, ci_15, ci_16, ci_2, ci_20, ci_23, ci_24, ci_240, ci_252645135, ci_255, ci_256, ci_3, ci_32, ci_4, ci_420, ci_48, ci_5, ci_5040, ci_57, ci_59, ci_6, ci_60, ci_63, ci_64, ci_7, ci_70, ci_8, ci_858993459, ci_9, ci_900, ci_97, ci_99, ci_999, ci_9999, cl_0, cl_1, cl_10, cl_1000000000000, cl_122, cl_2, cl_2000000000000, cl_23, cl_255, cl_27, cl_3, cl_4, cl_48, cl_57, cl_6, cl_8, cl_96, cl_97, cl_99, cl_999, cl_9999]
  have i : inb x 16 := by simp only [inb]; omega
  exact wO_i i (cB_i (fun _ => h _ (Or.inl rfl)) (fun _ => wO_i i (cB_i (fun _ => h _ (Or.inl rfl)) (fun _ => h _ (Or.inr ⟨rfl, by omega, by omega⟩)))))
theorem st_mastray {gu : Int} {ha : Int → Int} {Q : Int → Prop} (hgu : 0 ≤ gu ∧ gu ≤ 16) (h : ∀ r, Q r) : nf_M_astray gu ha Q := by
  unfold nf_M_astray
  simp only [ci_m1, ci_m10, ci_m1001, ci_m1002, ci_m1003, ci_m1004, ci_0, ci_1, ci_10, ci_100, ci_1000, ci_10000, ci_101, ci_103, ci_104, ci_105, ci_107, ci_108, ci_110, ci_111, ci_114, ci_115, ci_116, ci_118, ci_119, ci_12, ci_122, ci_1431655765, ci_15, ci_16, ci_2, ci_20, ci_23, ci_24, ci_240, ci_252645135, ci_255, ci_256, ci_3, ci_32, ci_4, ci_420, ci_48, ci_5, ci_5040, ci_57, ci_59, ci_6, ci_60, ci_63, ci_64, ci_7, ci_70, ci_8, ci_858993459, ci_9, ci_900, ci_97, ci_99, ci_999, ci_9999, cl_0, cl_1, cl_10, cl_1000000000000, cl_122, cl_2, cl_2000000000000, cl_23, cl_255, cl_27, cl_3, cl_4, cl_48, cl_57, cl_6, cl_8, cl_96, cl_97, cl_99, cl_999, cl_9999]
  refine nlp2_i (fun _ i => 0 ≤ i ∧ i ≤ gu) (fun _ i => (gu - i).toNat) ?_ ⟨by omega, by omega⟩
  intro l i hi self hself
  obtain ⟨i1, i2⟩ := hi
  refine cB_i (fun _ => h _) (fun _ => st_misAstray ⟨by omega, by omega⟩ (fun r _ => ?_))
  exact jn1_s (fun _ => True) (fun t _ => wL_i (wO_i (by simp only [iR]; omega) (hself _ _ ⟨by omega, by omega⟩ (by omega)))) (cB_i (fun _ => trivial) (fun _ => wL_i trivial))
theorem st_findChain {gu cm ir x : Int} {ha ch : Int → Int} {Q : Int → Int → (Int → Int) → Prop} (hgu : 0 ≤ gu ∧ gu ≤ 16) (hha : ∀ g, 0 ≤ g → g < gu → -1 ≤ ha g ∧ ha g < gu) (hinj : ∀ g k, 0 ≤ g → g < gu → 0 ≤ k → k < gu → 0 ≤ ha g → ha g = ha k → g = k) (hx : 0 ≤ x ∧ x < gu) (h : ∀ n r c, 1 ≤ n → n ≤ 16 → (r = 0 ∨ r = 1) → Q n r c) : nf_M_findChain cm ir ha ch x Q := by
  unfold nf_M_findChain
  simp only [ci_m1, ci_m10, ci_m1001, ci_m1002, ci_m1003, ci_m1004, ci_0, ci_1, ci_10, ci_100, ci_1000, ci_10000, ci_101, ci_103, ci_104, ci_105, ci_107, ci_108, ci_110, ci_111, ci_114, ci_115, ci_116, ci_118, ci_119, ci_12, ci_122, ci_1431655765, ci_15, ci_16, ci_2, ci_20, ci_23, ci_24, ci_240, ci_252645135, ci_255, ci_256, ci_3, ci_32, ci_4, ci_420, ci_48, ci_5, ci_5040, ci_57, ci_59, ci_6, ci_60, ci_63, ci_64, ci_7, ci_70, ci_8, ci_858993459, ci_9, ci_900, ci_97, ci_99, ci_999, ci_9999, cl_0, cl_1, cl_10, cl_1000000000000, cl_122, cl_2, cl_2000000000000, cl_23, cl_255, cl_27, cl_3, cl_4, cl_48, cl_57, cl_6, cl_8, cl_96, cl_97, cl_99, cl_999, cl_9999]
  refine wO_i (by simp only [inb]; omega) (wO_i (by simp only [inb]; omega) ?_)
  have hx2 := hha x hx.1 hx.2
  refine nlp3_i (fun l n C => 1 ≤ n ∧ n ≤ gu ∧ -1 ≤ l ∧ l < gu ∧ C 0 = x ∧ (∀ i, 0 ≤ i → i < n → 0 ≤ C i ∧ C i < gu) ∧ (∀ i j, 0 ≤ i → i < n → 0 ≤ j → j < n → C i = C j → i = j) ∧ (∀ i, 0 ≤ i → i + 1 < n → C (i + 1) = ha (C i)) ∧ l = ha (C (n - 1))) (fun _ n _ => (17 - n).toNat) ?_ ⟨by omega, by omega, hx2.1, hx2.2, by rw [ups_s], fun i a b => ?_, by omega, by omega, ?_⟩
  · intro l n C hi self hself
    obtain ⟨i1, i2, i3, i4, i5, i6, i7, i8, i9⟩ := hi
    refine jn0_s True (fun _ => jn1_s (fun t => t = 0 ∨ t = 1) (fun t ht => wO_i (by simp only [bZ]; omega) (h _ _ _ i1 (by omega) ht)) (cB_i (fun _ => Or.inr rfl) (fun _ => Or.inl rfl))) ?_
    refine cB_i (fun _ => trivial) (fun _ => cB_i (fun _ => trivial) (fun hlx => ?_))
    have c1 := i6 (n - 1) (by omega) (by omega)
    have hnew : ∀ j, 0 ≤ j → j < n → C j ≠ l := by
      intro j j0 j1 e
      by_cases e0 : j = 0
      · subst e0; omega
      · have q := i8 (j - 1) (by omega) (by omega)
        rw [show j - 1 + 1 = j by omega] at q
        have c2 := i6 (j - 1) (by omega) (by omega)
        have q2 := hinj (C (n - 1)) (C (j - 1)) c1.1 c1.2 c2.1 c2.2 (by omega) (by omega)
        have q3 := i7 (n - 1) (j - 1) (by omega) (by omega) (by omega) (by omega) q2
        omega
    have hl2 := hha l (by omega) i4
    have ng : n + 1 ≤ gu := by
      refine pgn (f := ups C n l) (by omega) hgu.1 (fun i a b => ?_) (fun i j a b c d e => ?_)
      · by_cases ei : i = n
        · subst ei; rw [ups_s]; omega
        · rw [ups_n ei]; exact i6 i a (by omega)
      · by_cases ei : i = n <;> by_cases ej : j = n
        · omega
        · subst ei; rw [ups_s, ups_n ej] at e; exact absurd e.symm (hnew j c (by omega))
        · subst ej; rw [ups_n ei, ups_s] at e; exact absurd e (hnew i a (by omega))
        · rw [ups_n ei, ups_n ej] at e; exact i7 i j a (by omega) c (by omega) e
    refine wO_i (by simp only [inb]; omega) (wO_i (by simp only [iR]; omega) (wO_i (by simp only [inb]; omega) (hself _ _ _ ⟨by omega, by omega, hl2.1, hl2.2, by rw [ups_n (by omega)]; exact i5, fun i a b => ?_, fun i j a b c d e => ?_, fun i a b => ?_, ?_⟩ (by omega))))
    · by_cases ei : i = n
      · subst ei; rw [ups_s]; omega
      · rw [ups_n ei]; exact i6 i a (by omega)
    · by_cases ei : i = n <;> by_cases ej : j = n
      · omega
      · subst ei; rw [ups_s, ups_n ej] at e; exact absurd e.symm (hnew j c (by omega))
      · subst ej; rw [ups_n ei, ups_s] at e; exact absurd e (hnew i a (by omega))
      · rw [ups_n ei, ups_n ej] at e; exact i7 i j a (by omega) c (by omega) e
    · by_cases ei : i + 1 = n
      · subst ei; rw [ups_s, ups_n (by omega), i9, show i + 1 - 1 = i by omega]
      · rw [ups_n ei, ups_n (by omega)]; exact i8 i a (by omega)
    · rw [show n + 1 - 1 = n by omega, ups_s]
  · have : i = 0 := by omega
    subst this; rw [ups_s]; exact hx
  · show ha x = ha (ups ch 0 x (1 - 1))
    rw [show (1 : Int) - 1 = 0 by omega, ups_s]
theorem st_mchain {gu cm ir x y : Int} {so ti ha hb hg ch : Int → Int} {Q : Int → Int → Int → (Int → Int) → Prop} (hm : mS gu so ti ha hb hg) (h : ∀ r a b c, Q r a b c) : nf_M_chain gu cm ir ha ch x y Q := by
  unfold nf_M_chain
  simp only [ci_m1, ci_m10, ci_m1001, ci_m1002, ci_m1003, ci_m1004, ci_0, ci_1, ci_10, ci_100, ci_1000, ci_10000, ci_101, ci_103, ci_104, ci_105, ci_107, ci_108, ci_110, ci_111, ci_114, ci_115, ci_116, ci_118, ci_119, ci_12, ci_122, ci_1431655765, ci_15, ci_16, ci_2, ci_20, ci_23, ci_24, ci_240, ci_252645135, ci_255, ci_256, ci_3, ci_32, ci_4, ci_420, ci_48, ci_5, ci_5040, ci_57, ci_59, ci_6, ci_60, ci_63, ci_64, ci_7, ci_70, ci_8, ci_858993459, ci_9, ci_900, ci_97, ci_99, ci_999, ci_9999, cl_0, cl_1, cl_10, cl_1000000000000, cl_122, cl_2, cl_2000000000000, cl_23, cl_255, cl_27, cl_3, cl_4, cl_48, cl_57, cl_6, cl_8, cl_96, cl_97, cl_99, cl_999, cl_9999]
  have g1 := hm.2.1
  refine sp_isGuest ⟨hm.1, hm.2.1⟩ (cB_i (fun e => cB_f (by decide) ?_) (fun _ => cB_t rfl (h _ _ _ _)))
  refine st_misAstray ⟨by omega, by omega⟩ (fun r _ => cB_i (fun _ => h _ _ _ _) (fun _ => ?_))
  refine st_findChain ⟨hm.1, hm.2.1⟩ hm.2.2.2.1 hm.2.2.2.2.2.2.1 e (fun n r c n1 n2 _ => cB_i (fun _ => h _ _ _ _) (fun _ => wL_i (wO_i (by simp only [iR]; omega) (wL_i (sp_in (cB_i (fun e2 => cB_f (by decide) (wO_i (by simp only [inb]; omega) (h _ _ _ _))) (fun _ => cB_t rfl (h _ _ _ _))))))))
theorem st_mring {gu cm ir x : Int} {so ti ha hb hg ch : Int → Int} {Q : Int → Int → Int → (Int → Int) → Prop} (hm : mS gu so ti ha hb hg) (h : ∀ r a b c, Q r a b c) : nf_M_ring gu cm ir ha ch x Q := by
  unfold nf_M_ring
  simp only [ci_m1, ci_m10, ci_m1001, ci_m1002, ci_m1003, ci_m1004, ci_0, ci_1, ci_10, ci_100, ci_1000, ci_10000, ci_101, ci_103, ci_104, ci_105, ci_107, ci_108, ci_110, ci_111, ci_114, ci_115, ci_116, ci_118, ci_119, ci_12, ci_122, ci_1431655765, ci_15, ci_16, ci_2, ci_20, ci_23, ci_24, ci_240, ci_252645135, ci_255, ci_256, ci_3, ci_32, ci_4, ci_420, ci_48, ci_5, ci_5040, ci_57, ci_59, ci_6, ci_60, ci_63, ci_64, ci_7, ci_70, ci_8, ci_858993459, ci_9, ci_900, ci_97, ci_99, ci_999, ci_9999, cl_0, cl_1, cl_10, cl_1000000000000, cl_122, cl_2, cl_2000000000000, cl_23, cl_255, cl_27, cl_3, cl_4, cl_48, cl_57, cl_6, cl_8, cl_96, cl_97, cl_99, cl_999, cl_9999]
  have g1 := hm.2.1
  refine sp_isGuest ⟨hm.1, hm.2.1⟩ (cB_i (fun e => cB_f (by decide) ?_) (fun _ => cB_t rfl (h _ _ _ _)))
  refine st_misAstray ⟨by omega, by omega⟩ (fun r _ => cB_i (fun _ => h _ _ _ _) (fun _ => ?_))
  exact st_findChain ⟨hm.1, hm.2.1⟩ hm.2.2.2.1 hm.2.2.2.2.2.2.1 e (fun n r c n1 n2 _ => cB_i (fun _ => h _ _ _ _) (fun _ => h _ _ _ _))
theorem st_mexch {gu cm ir : Int} {so ti ha hb hg ch : Int → Int} {Q : Int → Int → Int → (Int → Int) → Prop} (hm : mS gu so ti ha hb hg) (h : ∀ r a b c, Q r a b c) : nf_M_exchanges gu cm ir ha ch Q := by
  unfold nf_M_exchanges
  simp only [ci_m1, ci_m10, ci_m1001, ci_m1002, ci_m1003, ci_m1004, ci_0, ci_1, ci_10, ci_100, ci_1000, ci_10000, ci_101, ci_103, ci_104, ci_105, ci_107, ci_108, ci_110, ci_111, ci_114, ci_115, ci_116, ci_118, ci_119, ci_12, ci_122, ci_1431655765, ci_15, ci_16, ci_2, ci_20, ci_23, ci_24, ci_240, ci_252645135, ci_255, ci_256, ci_3, ci_32, ci_4, ci_420, ci_48, ci_5, ci_5040, ci_57, ci_59, ci_6, ci_60, ci_63, ci_64, ci_7, ci_70, ci_8, ci_858993459, ci_9, ci_900, ci_97, ci_99, ci_999, ci_9999, cl_0, cl_1, cl_10, cl_1000000000000, cl_122, cl_2, cl_2000000000000, cl_23, cl_255, cl_27, cl_3, cl_4, cl_48, cl_57, cl_6, cl_8, cl_96, cl_97, cl_99, cl_999, cl_9999]
  have g0 := hm.1
  have g1 := hm.2.1
  refine nlp5_i (fun l i _ _ _ => 0 ≤ i ∧ i ≤ gu ∧ 0 ≤ l ∧ l ≤ i) (fun _ i _ _ _ => (gu - i).toNat) ?_ ⟨by omega, by omega, by omega, by omega⟩
  intro l i z3 z4 z5 hi self hself
  obtain ⟨i1, i2, i3, i4⟩ := hi
  refine cB_i (fun _ => h _ _ _ _) (fun _ => st_misAstray ⟨by omega, by omega⟩ (fun r _ => ?_))
  refine jn4_s (fun l' _ _ _ => 0 ≤ l' ∧ l' ≤ i + 1) (fun l' _ _ _ hl => wO_i (by simp only [iR]; omega) (hself _ _ _ _ _ ⟨by omega, by omega, hl.1, hl.2⟩ (by omega))) ?_
  refine cB_i (fun _ => ⟨by omega, by omega⟩) (fun _ => ?_)
  refine st_findChain ⟨g0, g1⟩ hm.2.2.2.1 hm.2.2.2.2.2.2.1 ⟨by omega, by omega⟩ (fun n r c n1 n2 _ => ?_)
  refine nlp2_i (fun _ k => 1 ≤ k ∧ k ≤ n) (fun _ k => (n - k).toNat) ?_ ⟨by omega, by omega⟩
  intro q k hk self2 hself2
  refine cB_i (fun _ => ?_) (fun _ => ?_)
  · exact jn1_s (fun t => t = 0 ∨ t = 1) (fun t ht => wO_i (by simp only [iR]; omega) ⟨by omega, by omega⟩) (cB_i (fun _ => Or.inr rfl) (fun _ => Or.inl rfl))
  · refine jn1_s (fun _ => True) (fun t _ => wO_i (by simp only [iR]; omega) (hself2 _ _ ⟨by omega, by omega⟩ (by omega))) ?_
    exact jn0_s True (fun _ => trivial) (cB_i (fun _ => trivial) (fun _ => wO_i (by simp only [inb]; omega) (cB_i (fun _ => trivial) (fun _ => trivial))))
theorem st_mwrong {gu ev x y : Int} {so ti ha hb hg er : Int → Int} {Q : Int → Prop} (hm : mS gu so ti ha hb hg) (hev : 0 ≤ ev ∧ ev ≤ 60) (he : mE er) (h : ∀ r, Q r) : nf_M_wrong gu ev hb er x y Q := by
  unfold nf_M_wrong
  simp only [ci_m1, ci_m10, ci_m1001, ci_m1002, ci_m1003, ci_m1004, ci_0, ci_1, ci_10, ci_100, ci_1000, ci_10000, ci_101, ci_103, ci_104, ci_105, ci_107, ci_108, ci_110, ci_111, ci_114, ci_115, ci_116, ci_118, ci_119, ci_12, ci_122, ci_1431655765, ci_15, ci_16, ci_2, ci_20, ci_23, ci_24, ci_240, ci_252645135, ci_255, ci_256, ci_3, ci_32, ci_4, ci_420, ci_48, ci_5, ci_5040, ci_57, ci_59, ci_6, ci_60, ci_63, ci_64, ci_7, ci_70, ci_8, ci_858993459, ci_9, ci_900, ci_97, ci_99, ci_999, ci_9999, cl_0, cl_1, cl_10, cl_1000000000000, cl_122, cl_2, cl_2000000000000, cl_23, cl_255, cl_27, cl_3, cl_4, cl_48, cl_57, cl_6, cl_8, cl_96, cl_97, cl_99, cl_999, cl_9999]
  have g0 := hm.1
  have g1 := hm.2.1
  refine sp_isGuest ⟨g0, g1⟩ (cB_i (fun a1 => cB_f (by decide) ?_) (fun _ => cB_t rfl (h _)))
  refine wL_i (sp_in (cB_i (fun a2 => cB_f (by decide) ?_) (fun _ => cB_t rfl (h _))))
  have b1 := hm.2.2.1 x a1.1 (by omega)
  refine nlp2_i (fun l i => 0 ≤ i ∧ i ≤ ev ∧ -1 ≤ l ∧ l < 60) (fun _ i => (ev - i).toNat) ?_ ⟨by omega, by omega, by omega, by omega⟩
  intro l i hi self hself
  obtain ⟨i1, i2, i3, i4⟩ := hi
  refine cB_i (fun _ => wO_i (by simp only [inb]; omega) ?_) (fun _ => wO_i (by simp only [iR]; omega) (wO_i (by simp only [inb]; omega) ?_))
  · refine jn1_s (fun t => -1 ≤ t ∧ t < 60) (fun t ht => cB_i (fun _ => cB_i (fun _ => wO_i (by simp only [iR]; omega) (wO_i (by simp only [iR]; omega) (wO_i (by simp only [inb]; omega) (h _)))) (fun _ => h _)) (fun _ => h _)) ?_
    refine jn0_s True (fun _ => cB_i (fun _ => ⟨by omega, by omega⟩) (fun _ => ?_)) ?_
    · have e2 := he l (by omega) i4
      have b2 := hm.2.2.1 (er (7 * l + 2)) e2.1 e2.2
      refine wO_i (by simp only [iR]; omega) (wO_i (by simp only [iR]; omega) (wO_i (by simp only [inb]; omega) (wO_i (by simp only [inb]; omega) (wO_i (by simp only [iR]; omega) (wO_i (by simp only [iR]; omega) (wO_i (by simp only [inb]; omega) ?_))))))
      refine jn1_s (fun t => -1 ≤ t ∧ t < 60) (fun t ht => ht) (cB_i (fun _ => ⟨by omega, by omega⟩) (fun _ => ?_))
      exact jn0_s True (fun _ => ⟨by omega, by omega⟩) (cB_i (fun _ => trivial) (fun _ => wO_i (by simp only [iR]; omega) (wO_i (by simp only [iR]; omega) (wO_i (by simp only [inb]; omega) (cB_i (fun _ => ⟨by omega, by omega⟩) (fun _ => trivial))))))
    · exact cB_i (fun _ => trivial) (fun _ => wO_i (by simp only [inb]; omega) (wO_i (by simp only [iR]; omega) (wO_i (by simp only [iR]; omega) (wO_i (by simp only [inb]; omega) (cB_i (fun _ => wO_i (by simp only [inb]; omega) ⟨by omega, by omega⟩) (fun _ => trivial))))))
  · refine jn1_s (fun t => -1 ≤ t ∧ t < 60) (fun t ht => wO_i (by simp only [iR]; omega) (hself _ _ ⟨by omega, by omega, ht.1, ht.2⟩ (by omega))) ?_
    exact jn0_s True (fun _ => ⟨by omega, by omega⟩) (cB_i (fun _ => wO_i (by simp only [iR]; omega) (wO_i (by simp only [iR]; omega) (wO_i (by simp only [inb]; omega) (cB_i (fun _ => ⟨by omega, by omega⟩) (fun _ => trivial))))) (fun _ => trivial))
theorem st_mclaim {gu ev cl ni x1 x2 x3 : Int} {so ti ha hb hg er cg cy cn br le : Int → Int} {Q : Int → Int → (Int → Int) → (Int → Int) → (Int → Int) → Prop} (hm : mF gu ev cl ni so ti ha hb hg er cg le) (h : ∀ r cl' cg' cy' cn', mF gu ev cl' ni so ti ha hb hg er cg' le → Q r cl' cg' cy' cn') : nf_M_claim gu cl br ha cg cy cn x1 x2 x3 Q := by
  unfold nf_M_claim
  simp only [ci_m1, ci_m10, ci_m1001, ci_m1002, ci_m1003, ci_m1004, ci_0, ci_1, ci_10, ci_100, ci_1000, ci_10000, ci_101, ci_103, ci_104, ci_105, ci_107, ci_108, ci_110, ci_111, ci_114, ci_115, ci_116, ci_118, ci_119, ci_12, ci_122, ci_1431655765, ci_15, ci_16, ci_2, ci_20, ci_23, ci_24, ci_240, ci_252645135, ci_255, ci_256, ci_3, ci_32, ci_4, ci_420, ci_48, ci_5, ci_5040, ci_57, ci_59, ci_6, ci_60, ci_63, ci_64, ci_7, ci_70, ci_8, ci_858993459, ci_9, ci_900, ci_97, ci_99, ci_999, ci_9999, cl_0, cl_1, cl_10, cl_1000000000000, cl_122, cl_2, cl_2000000000000, cl_23, cl_255, cl_27, cl_3, cl_4, cl_48, cl_57, cl_6, cl_8, cl_96, cl_97, cl_99, cl_999, cl_9999]
  have g0 := hm.1.1
  have g1 := hm.1.2.1
  have v0 := hm.2.2.1
  have no := fun r cy cn => h r _ _ cy cn hm
  refine sp_isGuest ⟨g0, g1⟩ (cB_i (fun a1 => cB_f (by decide) ?_) (fun _ => cB_t rfl (no _ _ _)))
  refine wL_i (sp_in (cB_i (fun a2 => cB_f (by decide) ?_) (fun _ => cB_t rfl (no _ _ _))))
  refine wL_i (sp_in (cB_i (fun a3 => cB_f (by decide) ?_) (fun _ => cB_t rfl (no _ _ _))))
  have ig : inb x1 16 := by simp only [inb]; omega
  refine wL_i (cB_i (fun _ => wO_i ig (cB_i (fun _ => no _ _ _) (fun _ => wO_i ig (cB_i (fun _ => no _ _ _) (fun _ => st_hasClaim v0 (fun r _ => cB_i (fun _ => cB_i (fun _ => no _ _ _) (fun hc => ?_)) (fun _ => no _ _ _))))))) (fun _ => no _ _ _))
  have ic : inb cl 6 := by simp only [inb]; omega
  refine wO_i ic (wO_i ic (wO_i ic (wO_i (by simp only [iR]; omega) (wO_i (by simp only [iR]; omega) (h _ _ _ _ _ ⟨hm.1, hm.2.1, ⟨by omega, by omega⟩, hm.2.2.2.1, hm.2.2.2.2.1, fun c c0 c1 => ?_, hm.2.2.2.2.2.2⟩)))))
  by_cases e : c = cl
  · subst e; rw [ups_s]; omega
  · rw [ups_n e]; exact hm.2.2.2.2.2.1 c c0 c1
theorem st_mapart {gu x y : Int} {mk : Int → Int} {Q : Int → Prop} (hgu : 0 ≤ gu ∧ gu ≤ 16) (h : ∀ r, Q r) : nf_M_apart gu mk x y Q := by
  unfold nf_M_apart
  simp only [ci_m1, ci_m10, ci_m1001, ci_m1002, ci_m1003, ci_m1004, ci_0, ci_1, ci_10, ci_100, ci_1000, ci_10000, ci_101, ci_103, ci_104, ci_105, ci_107, ci_108, ci_110, ci_111, ci_114, ci_115, ci_116, ci_118, ci_119, ci_12, ci_122, ci_1431655765, ci_15, ci_16, ci_2, ci_20, ci_23, ci_24, ci_240, ci_252645135, ci_255, ci_256, ci_3, ci_32, ci_4, ci_420, ci_48, ci_5, ci_5040, ci_57, ci_59, ci_6, ci_60, ci_63, ci_64, ci_7, ci_70, ci_8, ci_858993459, ci_9, ci_900, ci_97, ci_99, ci_999, ci_9999, cl_0, cl_1, cl_10, cl_1000000000000, cl_122, cl_2, cl_2000000000000, cl_23, cl_255, cl_27, cl_3, cl_4, cl_48, cl_57, cl_6, cl_8, cl_96, cl_97, cl_99, cl_999, cl_9999]
  refine sp_isGuest hgu (cB_i (fun a1 => cB_f (by decide) ?_) (fun _ => cB_t rfl (h _)))
  refine sp_isGuest hgu (cB_i (fun a2 => cB_f (by decide) ?_) (fun _ => cB_t rfl (h _)))
  exact wO_i (by simp only [inb]; omega) (wO_i (by simp only [inb]; omega) (wL_i (h _)))
theorem st_mfits {pg cl x : Int} {pk hg ki mk cg cy cn : Int → Int} {Q : Int → Prop} (hpg : 0 ≤ pg ∧ pg ≤ 24) (hcl : 0 ≤ cl ∧ cl ≤ 6) (hh : ∀ p, 0 ≤ p → p < 24 → -1 ≤ hg p ∧ hg p < 16) (hcg : mC cg) (h : ∀ r, Q r) : nf_M_fits pg cl pk hg ki mk cg cy cn x Q := by
  unfold nf_M_fits
  simp only [ci_m1, ci_m10, ci_m1001, ci_m1002, ci_m1003, ci_m1004, ci_0, ci_1, ci_10, ci_100, ci_1000, ci_10000, ci_101, ci_103, ci_104, ci_105, ci_107, ci_108, ci_110, ci_111, ci_114, ci_115, ci_116, ci_118, ci_119, ci_12, ci_122, ci_1431655765, ci_15, ci_16, ci_2, ci_20, ci_23, ci_24, ci_240, ci_252645135, ci_255, ci_256, ci_3, ci_32, ci_4, ci_420, ci_48, ci_5, ci_5040, ci_57, ci_59, ci_6, ci_60, ci_63, ci_64, ci_7, ci_70, ci_8, ci_858993459, ci_9, ci_900, ci_97, ci_99, ci_999, ci_9999, cl_0, cl_1, cl_10, cl_1000000000000, cl_122, cl_2, cl_2000000000000, cl_23, cl_255, cl_27, cl_3, cl_4, cl_48, cl_57, cl_6, cl_8, cl_96, cl_97, cl_99, cl_999, cl_9999]
  refine sp_isClaim hcl (cB_i (fun a1 => cB_f (by decide) ?_) (fun _ => cB_t rfl (h _)))
  exact st_fitsOf hpg hh hcg ⟨by omega, by omega⟩ (fun r _ => h r)
theorem st_mways {pg gu cl : Int} {pk hg ki mk cg cy cn wt : Int → Int} {Q : Int → (Int → Int) → Prop} (hpg : 0 ≤ pg ∧ pg ≤ 24) (hgu : 0 ≤ gu ∧ gu ≤ 16) (hcl : 0 ≤ cl ∧ cl ≤ 6) (hh : ∀ p, 0 ≤ p → p < 24 → -1 ≤ hg p ∧ hg p < 16) (hcg : mC cg) (h : ∀ r w, Q r w) : nf_M_ways pg gu cl pk hg ki mk cg cy cn wt Q := by
  unfold nf_M_ways
  simp only [ci_m1, ci_m10, ci_m1001, ci_m1002, ci_m1003, ci_m1004, ci_0, ci_1, ci_10, ci_100, ci_1000, ci_10000, ci_101, ci_103, ci_104, ci_105, ci_107, ci_108, ci_110, ci_111, ci_114, ci_115, ci_116, ci_118, ci_119, ci_12, ci_122, ci_1431655765, ci_15, ci_16, ci_2, ci_20, ci_23, ci_24, ci_240, ci_252645135, ci_255, ci_256, ci_3, ci_32, ci_4, ci_420, ci_48, ci_5, ci_5040, ci_57, ci_59, ci_6, ci_60, ci_63, ci_64, ci_7, ci_70, ci_8, ci_858993459, ci_9, ci_900, ci_97, ci_99, ci_999, ci_9999, cl_0, cl_1, cl_10, cl_1000000000000, cl_122, cl_2, cl_2000000000000, cl_23, cl_255, cl_27, cl_3, cl_4, cl_48, cl_57, cl_6, cl_8, cl_96, cl_97, cl_99, cl_999, cl_9999]
  exact st_waysWith hpg hgu hcl hh hcg (fun r w => h r w)
theorem st_msure {pg gu cl x : Int} {pk hg ki mk cg cy cn wt : Int → Int} {Q : Int → (Int → Int) → Prop} (hpg : 0 ≤ pg ∧ pg ≤ 24) (hgu : 0 ≤ gu ∧ gu ≤ 16) (hcl : 0 ≤ cl ∧ cl ≤ 6) (hh : ∀ p, 0 ≤ p → p < 24 → -1 ≤ hg p ∧ hg p < 16) (hcg : mC cg) (h : ∀ r w, Q r w) : nf_M_sure pg gu cl pk hg ki mk cg cy cn wt x Q := by
  unfold nf_M_sure
  simp only [ci_m1, ci_m10, ci_m1001, ci_m1002, ci_m1003, ci_m1004, ci_0, ci_1, ci_10, ci_100, ci_1000, ci_10000, ci_101, ci_103, ci_104, ci_105, ci_107, ci_108, ci_110, ci_111, ci_114, ci_115, ci_116, ci_118, ci_119, ci_12, ci_122, ci_1431655765, ci_15, ci_16, ci_2, ci_20, ci_23, ci_24, ci_240, ci_252645135, ci_255, ci_256, ci_3, ci_32, ci_4, ci_420, ci_48, ci_5, ci_5040, ci_57, ci_59, ci_6, ci_60, ci_63, ci_64, ci_7, ci_70, ci_8, ci_858993459, ci_9, ci_900, ci_97, ci_99, ci_999, ci_9999, cl_0, cl_1, cl_10, cl_1000000000000, cl_122, cl_2, cl_2000000000000, cl_23, cl_255, cl_27, cl_3, cl_4, cl_48, cl_57, cl_6, cl_8, cl_96, cl_97, cl_99, cl_999, cl_9999]
  refine sp_isClaim hcl (cB_i (fun a1 => cB_f (by decide) ?_) (fun _ => cB_t rfl (h _ _)))
  exact st_sureOf hpg hgu hcl hh hcg ⟨by omega, by omega⟩ (fun r w _ _ _ => h r w)
theorem st_mfeed {n x1 x2 : Int} {F : Int → Int} {Q : Int → Int → (Int → Int) → Prop} (hn : 0 ≤ n ∧ n ≤ 240) (hF : ∀ k, 0 ≤ k → k < 240 → 0 ≤ F k ∧ F k ≤ 255) (h : ∀ r n' F', 0 ≤ n' → n' ≤ 240 → (∀ k, 0 ≤ k → k < 240 → 0 ≤ F' k ∧ F' k ≤ 255) → Q r n' F') : nf_M_feed n F x1 x2 Q := by
  unfold nf_M_feed
  simp only [ci_m1, ci_m10, ci_m1001, ci_m1002, ci_m1003, ci_m1004, ci_0, ci_1, ci_10, ci_100, ci_1000, ci_10000, ci_101, ci_103, ci_104, ci_105, ci_107, ci_108, ci_110, ci_111, ci_114, ci_115, ci_116, ci_118, ci_119, ci_12, ci_122, ci_1431655765, ci_15, ci_16, ci_2, ci_20, ci_23, ci_24, ci_240, ci_252645135, ci_255, ci_256, ci_3, ci_32, ci_4, ci_420, ci_48, ci_5, ci_5040, ci_57, ci_59, ci_6, ci_60, ci_63, ci_64, ci_7, ci_70, ci_8, ci_858993459, ci_9, ci_900, ci_97, ci_99, ci_999, ci_9999, cl_0, cl_1, cl_10, cl_1000000000000, cl_122, cl_2, cl_2000000000000, cl_23, cl_255, cl_27, cl_3, cl_4, cl_48, cl_57, cl_6, cl_8, cl_96, cl_97, cl_99, cl_999, cl_9999]
  refine wL_i (sp_in (cB_i (fun a1 => cB_f (by decide) ?_) (fun _ => cB_t rfl (h _ _ _ hn.1 hn.2 hF))))
  refine wO_i (by simp only [iR]; omega) (cB_i (fun a2 => wO_i (by simp only [iR]; omega) ?_) (fun _ => h _ _ _ hn.1 hn.2 hF))
  refine nlp3_i (fun l z G => -1 ≤ l ∧ l < x1 ∧ z = n + (x1 - 1 - l) ∧ ∀ k, 0 ≤ k → k < 240 → 0 ≤ G k ∧ G k ≤ 255) (fun l _ _ => (l + 1).toNat) ?_ ⟨by omega, by omega, by omega, hF⟩
  intro l z G hi self hself
  obtain ⟨i1, i2, i3, i4⟩ := hi
  refine cB_i (fun _ => h _ _ _ (by omega) (by omega) i4) (fun _ => wO_i (by simp only [iR]; omega) (wL_i (wL_i (wL_i (wO_i (by simp only [inb]; omega) (wO_i (by simp only [iR]; omega) (wO_i (by simp only [iR]; omega) (hself _ _ _ ⟨by omega, by omega, by omega, fun k k0 k1 => ?_⟩ (by omega)))))))))
  by_cases e : k = z
  · subst e; rw [ups_s]; exact l255 _
  · rw [ups_n e]; exact i4 k k0 k1
