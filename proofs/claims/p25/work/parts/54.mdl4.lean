/-! the model: claims -/
theorem st_fitting {pg k y n : Int} {pk hg mk : Int → Int} {Q : Int → Prop} (hpg : 0 ≤ pg ∧ pg ≤ 24) (hh : ∀ p, 0 ≤ p → p < 24 → -1 ≤ hg p ∧ hg p < 16) (h : ∀ r, (∀ g, 0 ≤ g → g < 16 → bit r g = true → ∃ p, 0 ≤ p ∧ p < pg ∧ hg p = g) → Q r) : nf_M_fitting pg pk hg mk k y n Q := by
  unfold nf_M_fitting
  simp only [ci_m1, ci_m10, ci_m1001, ci_m1002, ci_m1003, ci_m1004, ci_0, ci_1, ci_10, ci_100, ci_1000, ci_10000, ci_101, ci_103, ci_104, ci_105, ci_107, ci_108, ci_110, ci_111, ci_114, ci_115, ci_116, ci_118, ci_119, ci_12, ci_122, ci_1431655765, ci_15, ci_16, ci_2, ci_20, ci_23, ci_24, ci_240, ci_252645135, ci_255, ci_256, ci_3, ci_32, ci_4, ci_420, ci_48, ci_5, ci_5040, ci_57, ci_59, ci_6, ci_60, ci_63, ci_64, ci_7, ci_70, ci_8, ci_858993459, ci_9, ci_900, ci_97, ci_99, ci_999, ci_9999, cl_0, cl_1, cl_10, cl_1000000000000, cl_122, cl_2, cl_2000000000000, cl_23, cl_255, cl_27, cl_3, cl_4, cl_48, cl_57, cl_6, cl_8, cl_96, cl_97, cl_99, cl_999, cl_9999]
  refine nlp2_i (fun s i => 0 ≤ i ∧ i ≤ pg ∧ ∀ g, 0 ≤ g → g < 16 → bit s g = true → ∃ p, 0 ≤ p ∧ p < i ∧ hg p = g) (fun _ i => (pg - i).toNat) ?_ ⟨by omega, by omega, fun g _ _ hb => by rw [bt_0] at hb; exact absurd hb (by decide)⟩
  intro s i hi self hself
  obtain ⟨i1, i2, i3⟩ := hi
  refine cB_i (fun _ => h _ (fun g g0 g1 hb => by obtain ⟨p, p0, p1, p2⟩ := i3 g g0 g1 hb; exact ⟨p, p0, by omega, p2⟩)) (fun _ => wO_i (by (try simp only [inb]); omega) ?_)
  have h1 := hh i i1 (by omega)
  refine jn1_s (fun t => t = 0 ∨ (t = 1 ∧ 0 ≤ hg i)) (fun t5 ht5 => ?_) (jn0_s True (fun _ => Or.inl rfl) (cB_i (fun _ => trivial) (fun _ => wO_i (by (try simp only [inb]); omega) (cB_i (fun _ => Or.inr ⟨rfl, by omega⟩) (fun _ => trivial)))))
  refine jn1_s (fun _ => True) (fun t7 _ => ?_) (cB_i (fun _ => trivial) (fun _ => wO_i (by (try simp only [inb]); omega) trivial))
  refine jn1_s (fun t => t = 0 ∨ (t = ishl 1 (hg i) ∧ 0 ≤ hg i)) (fun t9 ht9 => wL_i (wO_i (by (try simp only [iR]); omega) (hself _ _ ⟨by omega, by omega, fun g g0 g1 hb => ?_⟩ (by omega)))) ?_
  · rw [bt_ior] at hb
    rcases Bool.or_eq_true_iff.mp hb with hb | hb
    · obtain ⟨p, p0, p1, p2⟩ := i3 g g0 g1 hb
      exact ⟨p, p0, by omega, p2⟩
    · rcases ht9 with e | ⟨e, e2⟩
      · rw [e, bt_0] at hb; exact absurd hb (by decide)
      · rw [e, bt_shl e2 (by omega) g0 (by omega)] at hb
        exact ⟨i, i1, by omega, of_decide_eq_true hb⟩
  · refine jn0_s True (fun _ => Or.inl rfl) (cB_i (fun _ => trivial) (fun e => wL_i (wL_i (cB_i (fun _ => wL_i (cB_i (fun _ => wL_i (Or.inr ⟨rfl, by omega⟩)) (fun _ => trivial))) (fun _ => trivial)))))
theorem st_fitsOf {pg c : Int} {pk hg ki mk cg cy cn : Int → Int} {Q : Int → Prop} (hpg : 0 ≤ pg ∧ pg ≤ 24) (hh : ∀ p, 0 ≤ p → p < 24 → -1 ≤ hg p ∧ hg p < 16) (hcg : ∀ c, 0 ≤ c → c < 6 → 0 ≤ cg c ∧ cg c < 16) (hc : 0 ≤ c ∧ c < 6) (h : ∀ r, (∀ g, 0 ≤ g → g < 16 → bit r g = true → ∃ p, 0 ≤ p ∧ p < pg ∧ hg p = g) → Q r) : nf_M_fitsOf pg pk hg ki mk cg cy cn c Q := by
  unfold nf_M_fitsOf
  have := hcg c hc.1 hc.2
  exact wO_i (by (try simp only [inb]); omega) (wO_i (by (try simp only [inb]); omega) (wO_i (by (try simp only [inb]); omega) (wO_i (by (try simp only [inb]); omega) (st_fitting hpg hh h))))
theorem st_waysWith {pg gu cl x t : Int} {pk hg ki mk cg cy cn wt : Int → Int} {Q : Int → (Int → Int) → Prop} (hpg : 0 ≤ pg ∧ pg ≤ 24) (hgu : 0 ≤ gu ∧ gu ≤ 16) (hcl : 0 ≤ cl ∧ cl ≤ 6) (hh : ∀ p, 0 ≤ p → p < 24 → -1 ≤ hg p ∧ hg p < 16) (hcg : ∀ c, 0 ≤ c → c < 6 → 0 ≤ cg c ∧ cg c < 16) (h : ∀ r wt', Q r wt') : nf_M_waysWith pg gu cl pk hg ki mk cg cy cn wt x t Q := by
  unfold nf_M_waysWith
  simp only [ci_m1, ci_m10, ci_m1001, ci_m1002, ci_m1003, ci_m1004, ci_0, ci_1, ci_10, ci_100, ci_1000, ci_10000, ci_101, ci_103, ci_104, ci_105, ci_107, ci_108, ci_110, ci_111, ci_114, ci_115, ci_116, ci_118, ci_119, ci_12, ci_122, ci_1431655765, ci_15, ci_16, ci_2, ci_20, ci_23, ci_24, ci_240, ci_252645135, ci_255, ci_256, ci_3, ci_32, ci_4, ci_420, ci_48, ci_5, ci_5040, ci_57, ci_59, ci_6, ci_60, ci_63, ci_64, ci_7, ci_70, ci_8, ci_858993459, ci_9, ci_900, ci_97, ci_99, ci_999, ci_9999, cl_0, cl_1, cl_10, cl_1000000000000, cl_122, cl_2, cl_2000000000000, cl_23, cl_255, cl_27, cl_3, cl_4, cl_48, cl_57, cl_6, cl_8, cl_96, cl_97, cl_99, cl_999, cl_9999]
  have hb := ishl_bI (k := cl) hcl.1 (by omega)
  refine wL_i (wO_i (by (try simp only [iR]); omega) ?_)
  refine nlp2_i (fun s W => 0 ≤ s ∧ s ≤ ishl 1 cl ∧ ∀ q, 0 ≤ q → q < s → 0 ≤ W q ∧ W q ≤ 1) (fun s _ => (ishl 1 cl - s).toNat) ?_ ⟨by omega, by omega, by omega⟩
  intro s W1 hi self hself
  obtain ⟨i1, i2, i3⟩ := hi
  refine cB_i (fun _ => ?_) (fun _ => ?_)
  · refine nlp2_i (fun g W => 0 ≤ g ∧ g ≤ gu ∧ ∀ q, 0 ≤ q → q < ishl 1 cl → 0 ≤ W q ∧ W q ≤ p7 g.toNat) (fun g _ => (gu - g).toNat) ?_ ⟨by omega, by omega, fun q q0 q1 => i3 q q0 (by omega)⟩
    intro g W2 hj self2 hself2
    obtain ⟨j1, j2, j3⟩ := hj
    have hp := p7_b g.toNat (by omega)
    have hp2 := p7_s g j1
    refine cB_i (fun _ => wO_i (by (try simp only [inb]); omega) (h _ _)) (fun _ => ?_)
    refine nlp2_i (fun s W => -1 ≤ s ∧ s < ishl 1 cl ∧ (∀ q, 0 ≤ q → q ≤ s → 0 ≤ W q ∧ W q ≤ p7 g.toNat) ∧ (∀ q, 0 ≤ q → s < q → q < ishl 1 cl → 0 ≤ W q ∧ W q ≤ p7 (g + 1).toNat)) (fun s _ => (s + 1).toNat) ?_ ⟨by omega, by omega, fun q q0 q1 => j3 q q0 (by omega), by omega⟩
    intro s3 W3 hk self3 hself3
    obtain ⟨k1, k2, k3, k4⟩ := hk
    refine cB_i (fun _ => wO_i (by (try simp only [iR]); omega) (hself2 _ _ ⟨by omega, by omega, fun q q0 q1 => k4 q q0 (by omega) q1⟩ (by omega))) (fun _ => ?_)
    have s30 := k3 s3 (by omega) (by omega)
    refine nlp2_i (fun k W => 0 ≤ k ∧ k ≤ cl ∧ (∀ q, q ≠ s3 → W q = W3 q) ∧ 0 ≤ W s3 ∧ W s3 ≤ p7 g.toNat * (1 + k)) (fun k _ => (cl - k).toNat) ?_ ⟨by omega, by omega, fun _ _ => rfl, by omega, by omega⟩
    intro k W4 hm self4 hself4
    obtain ⟨m1, m2, m3, m4, m5⟩ := hm
    have hle : p7 g.toNat * (1 + k) ≤ p7 g.toNat * 7 := Int.mul_le_mul_of_nonneg_left (by omega) (by omega)
    have hmm : p7 g.toNat * (1 + (k + 1)) = p7 g.toNat * (1 + k) + p7 g.toNat := by rw [← Int.add_assoc, Int.mul_add, Int.mul_one]
    refine cB_i (fun _ => wO_i (by (try simp only [iR]); omega) (hself3 _ _ ⟨by omega, by omega, fun q q0 q1 => ?_, fun q q0 q1 q2 => ?_⟩ (by omega))) (fun _ => wL_i (wL_i ?_))
    · rw [m3 q (by omega)]; exact k3 q q0 (by omega)
    · by_cases e : q = s3
      · subst e; omega
      · rw [m3 q e]; exact k4 q q0 (by omega) q2
    · refine jn1_s (fun t => t = 0 ∨ iand (ishr s3 k) 1 = 1) (fun t20 ht20 => ?_) (jn0_s True (fun _ => Or.inl rfl) (cB_i (fun e => st_fitsOf hpg hh hcg ⟨m1, by omega⟩ (fun r _ => wL_i (wL_i (cB_i (fun _ => Or.inr e) (fun _ => trivial))))) (fun _ => trivial)))
      refine jn1_s (fun t => t = 0 ∨ iand (ishr s3 k) 1 = 1) (fun t22 ht22 => wO_i (by (try simp only [inb]); omega) ?_) ?_
      · refine jn1_s (fun v => 0 ≤ v ∧ v ≤ p7 g.toNat) (fun v hv => wO_i (by (try simp only [lR]); omega) (wO_i (by (try simp only [inb]); omega) (wO_i (by (try simp only [iR]); omega) (hself4 _ _ ⟨by omega, by omega, fun q hq => ?_, ?_, ?_⟩ (by omega))))) (cB_i (fun _ => ⟨by omega, by omega⟩) (fun e => ?_))
        · rw [ups_n hq]; exact m3 q hq
        · rw [ups_s]; omega
        · rw [ups_s]; omega
        · have hbit : iand (ishr s3 k) 1 = 1 := by
            rcases ht22 with h9 | h9
            · exact absurd h9 e
            · exact h9
          have x1 := xor_bI (k := cl) (c := k) (a := s3) (by omega) m1 (by omega) (by omega) k2
          have x2 := xor_lI m1 (by omega) (show 0 ≤ s3 by omega) (by omega) hbit
          have w1 := k3 (ixor s3 (ishl 1 k)) x1.1 (by omega)
          have w2 := m3 (ixor s3 (ishl 1 k)) x1.2.2
          exact wL_i (wL_i (wO_i (by (try simp only [inb]); omega) ⟨by omega, by omega⟩))
      · refine jn0_s True (fun _ => Or.inl rfl) (cB_i (fun _ => trivial) (fun e => ?_))
        have hbit : iand (ishr s3 k) 1 = 1 := by
          rcases ht20 with h9 | h9
          · exact absurd h9 e
          · exact h9
        refine jn0_s True (fun _ => Or.inr hbit) (cB_i (fun _ => trivial) (fun _ => ?_))
        exact jn1_s (fun _ => True) (fun _ _ => jn1_s (fun _ => True) (fun _ _ => cB_i (fun _ => trivial) (fun _ => trivial)) (cB_i (fun _ => trivial) (fun _ => trivial))) (cB_i (fun _ => trivial) (fun _ => trivial))
  · refine jn1_s (fun v => 0 ≤ v ∧ v ≤ 1) (fun v hv => wO_i (by (try simp only [inb]); omega) (wO_i (by (try simp only [iR]); omega) (hself _ _ ⟨by omega, by omega, fun q q0 q1 => ?_⟩ (by omega)))) (cB_i (fun _ => ⟨by omega, by omega⟩) (fun _ => ⟨by omega, by omega⟩))
    by_cases e : q = s
    · subst e; rw [ups_s]; exact hv
    · rw [ups_n e]; exact i3 q q0 (by omega)
theorem st_sureOf {pg gu cl c : Int} {pk hg ki mk cg cy cn wt : Int → Int} {Q : Int → (Int → Int) → Prop} (hpg : 0 ≤ pg ∧ pg ≤ 24) (hgu : 0 ≤ gu ∧ gu ≤ 16) (hcl : 0 ≤ cl ∧ cl ≤ 6) (hh : ∀ p, 0 ≤ p → p < 24 → -1 ≤ hg p ∧ hg p < 16) (hcg : ∀ c, 0 ≤ c → c < 6 → 0 ≤ cg c ∧ cg c < 16) (hc : 0 ≤ c ∧ c < 6) (h : ∀ r wt', -1 ≤ r → r < gu → (0 ≤ r → ∃ p, 0 ≤ p ∧ p < pg ∧ hg p = r) → Q r wt') : nf_M_sureOf pg gu cl pk hg ki mk cg cy cn wt c Q := by
  unfold nf_M_sureOf
  simp only [ci_m1, ci_m10, ci_m1001, ci_m1002, ci_m1003, ci_m1004, ci_0, ci_1, ci_10, ci_100, ci_1000, ci_10000, ci_101, ci_103, ci_104, ci_105, ci_107, ci_108, ci_110, ci_111, ci_114, ci_115, ci_116, ci_118, ci_119, ci_12, ci_122, ci_1431655765, ci_15, ci_16, ci_2, ci_20, ci_23, ci_24, ci_240, ci_252645135, ci_255, ci_256, ci_3, ci_32, ci_4, ci_420, ci_48, ci_5, ci_5040, ci_57, ci_59, ci_6, ci_60, ci_63, ci_64, ci_7, ci_70, ci_8, ci_858993459, ci_9, ci_900, ci_97, ci_99, ci_999, ci_9999, cl_0, cl_1, cl_10, cl_1000000000000, cl_122, cl_2, cl_2000000000000, cl_23, cl_255, cl_27, cl_3, cl_4, cl_48, cl_57, cl_6, cl_8, cl_96, cl_97, cl_99, cl_999, cl_9999]
  refine st_waysWith hpg hgu hcl hh hcg (fun r1 W1 => ?_)
  refine nlp3_i (fun f g _ => 0 ≤ g ∧ g ≤ gu ∧ -1 ≤ f ∧ f < gu ∧ (0 ≤ f → ∃ p, 0 ≤ p ∧ p < pg ∧ hg p = f)) (fun _ g _ => (gu - g).toNat) ?_ ⟨by omega, by omega, by omega, by omega, by omega⟩
  intro f g W2 hi self hself
  obtain ⟨i1, i2, i3, i4, i5⟩ := hi
  refine cB_i (fun _ => h _ _ i3 i4 i5) (fun _ => wL_i (cB_i (fun _ => h _ _ i3 i4 i5) (fun _ => st_fitsOf hpg hh hcg hc (fun r8 h8 => wL_i (wL_i ?_)))))
  have b := bt1 (x := r8) i1 (by omega)
  refine jn2_s (fun _ t => t = 0 ∨ bit r8 g = true) (fun z t ht => ?_) ?_
  · refine jn1_s (fun f' => -1 ≤ f' ∧ f' < gu ∧ (0 ≤ f' → ∃ p, 0 ≤ p ∧ p < pg ∧ hg p = f')) (fun f' hf => wO_i (by (try simp only [iR]); omega) (hself _ _ _ ⟨by omega, by omega, hf.1, hf.2.1, hf.2.2⟩ (by omega))) (cB_i (fun _ => ⟨i3, i4, i5⟩) (fun e => ⟨by omega, by omega, fun _ => ?_⟩))
    rcases ht with ht | ht
    · exact absurd ht e
    · exact h8 g i1 (by omega) ht
  · refine jn1_s (fun _ => True) (fun z _ => Or.inl rfl) (cB_i (fun e => st_waysWith hpg hgu hcl hh hcg (fun r2 W3 => wL_i (cB_i (fun _ => Or.inr (b.mp e)) (fun _ => trivial)))) (fun _ => trivial))
def mS (gu : Int) (so ti ha hb hg : Int → Int) : Prop := 0 ≤ gu ∧ gu ≤ 16 ∧ (∀ g, 0 ≤ g → g < 16 → 0 ≤ so g ∧ so g ≤ 3 ∧ 0 ≤ ti g ∧ ti g ≤ 99 ∧ -1 ≤ hb g ∧ hb g ≤ 59) ∧ (∀ g, 0 ≤ g → g < gu → -1 ≤ ha g ∧ ha g < gu) ∧ (∀ p, 0 ≤ p → p < 24 → -1 ≤ hg p ∧ hg p < gu) ∧ (∀ p q, 0 ≤ p → p < 24 → 0 ≤ q → q < 24 → 0 ≤ hg p → hg p = hg q → p = q) ∧ (∀ g k, 0 ≤ g → g < gu → 0 ≤ k → k < gu → 0 ≤ ha g → ha g = ha k → g = k) ∧ (∀ p g, 0 ≤ p → p < 24 → 0 ≤ g → g < gu → 0 ≤ hg p → hg p ≠ ha g) ∧ (∀ g, 0 ≤ g → g < gu → hb g < 0 → (∀ p, 0 ≤ p → p < 24 → hg p ≠ g) ∧ ∀ k, 0 ≤ k → k < gu → ha k ≠ g)
/-- a thing that hangs goes over to a guest -/
theorem mS_go {gu : Int} {so ti ha hb hg : Int → Int} (h : mS gu so ti ha hb hg) {p k : Int} (hp : 0 ≤ p ∧ p < 24) (ht : 0 ≤ hg p) : mS gu so ti (ups ha k (hg p)) hb (ups hg p (-1)) := by
  obtain ⟨s1, s2, s3, s4, s5, s6, s7, s8, s9⟩ := h
  have hp5 := s5 p hp.1 hp.2
  refine ⟨s1, s2, s3, fun g a b => ?_, fun q a b => ?_, fun x y a b c d e f => ?_, fun x y a b c d e f => ?_, fun q g a b c d e => ?_, fun g a b c => ⟨fun q d e => ?_, fun y d e => ?_⟩⟩
  · by_cases e : g = k
    · subst e; rw [ups_s]; exact hp5
    · rw [ups_n e]; exact s4 g a b
  · by_cases e : q = p
    · subst e; rw [ups_s]; omega
    · rw [ups_n e]; exact s5 q a b
  · by_cases ex : x = p
    · subst ex; rw [ups_s] at e; omega
    · by_cases ey : y = p
      · subst ey; rw [ups_n ex] at e; rw [ups_n ex, ups_s] at f; omega
      · rw [ups_n ex] at e; rw [ups_n ex, ups_n ey] at f; exact s6 x y a b c d e f
  · by_cases ex : x = k <;> by_cases ey : y = k
    · omega
    · subst ex; rw [ups_s, ups_n ey] at f; exact absurd f (s8 p y hp.1 hp.2 c d ht)
    · subst ey; rw [ups_n ex, ups_s] at f; exact absurd f.symm (s8 p x hp.1 hp.2 a b ht)
    · rw [ups_n ex] at e; rw [ups_n ex, ups_n ey] at f; exact s7 x y a b c d e f
  · by_cases eq : q = p
    · subst eq; rw [ups_s] at e; omega
    · rw [ups_n eq] at e ⊢
      by_cases eg : g = k
      · subst eg; rw [ups_s]; exact fun f => eq (s6 q p a b hp.1 hp.2 e f)
      · rw [ups_n eg]; exact s8 q g a b c d e
  · by_cases eq : q = p
    · subst eq; rw [ups_s]; omega
    · rw [ups_n eq]; exact (s9 g a b c).1 q d e
  · by_cases ey : y = k
    · subst ey; rw [ups_s]; exact (s9 g a b c).1 p hp.1 hp.2
    · rw [ups_n ey]; exact (s9 g a b c).2 y d e
theorem st_mgrant {pg gu cl c : Int} {so ti hb pk hg ki mk ha cg cy cn wt : Int → Int} {Q : Int → Int → (Int → Int) → (Int → Int) → (Int → Int) → (Int → Int) → (Int → Int) → (Int → Int) → Prop} (hpg : 0 ≤ pg ∧ pg ≤ 24) (hcl : 0 ≤ cl ∧ cl ≤ 6) (hm : mS gu so ti ha hb hg) (hcg : ∀ c, 0 ≤ c → c < 6 → 0 ≤ cg c ∧ cg c < 16) (h : ∀ r cl' hg' ha' cg' cy' cn' wt', 0 ≤ cl' → cl' ≤ 6 → mS gu so ti ha' hb hg' → (∀ c, 0 ≤ c → c < 6 → 0 ≤ cg' c ∧ cg' c < 16) → Q r cl' hg' ha' cg' cy' cn' wt') : nf_M_grant pg gu cl pk hg ki mk ha cg cy cn wt c Q := by
  unfold nf_M_grant
  simp only [ci_m1, ci_m10, ci_m1001, ci_m1002, ci_m1003, ci_m1004, ci_0, ci_1, ci_10, ci_100, ci_1000, ci_10000, ci_101, ci_103, ci_104, ci_105, ci_107, ci_108, ci_110, ci_111, ci_114, ci_115, ci_116, ci_118, ci_119, ci_12, ci_122, ci_1431655765, ci_15, ci_16, ci_2, ci_20, ci_23, ci_24, ci_240, ci_252645135, ci_255, ci_256, ci_3, ci_32, ci_4, ci_420, ci_48, ci_5, ci_5040, ci_57, ci_59, ci_6, ci_60, ci_63, ci_64, ci_7, ci_70, ci_8, ci_858993459, ci_9, ci_900, ci_97, ci_99, ci_999, ci_9999, cl_0, cl_1, cl_10, cl_1000000000000, cl_122, cl_2, cl_2000000000000, cl_23, cl_255, cl_27, cl_3, cl_4, cl_48, cl_57, cl_6, cl_8, cl_96, cl_97, cl_99, cl_999, cl_9999]
  have hh : ∀ p, 0 ≤ p → p < 24 → -1 ≤ hg p ∧ hg p < 16 := fun p a b => by have := hm.2.2.2.2.1 p a b; have := hm.2.1; omega
  refine sp_isClaim hcl (cB_i (fun hc => cB_f (by decide) ?_) (fun _ => cB_t rfl (h _ _ _ _ _ _ _ _ hcl.1 hcl.2 hm hcg)))
  refine st_sureOf hpg ⟨hm.1, hm.2.1⟩ hcl hh hcg ⟨by omega, by omega⟩ (fun r W1 r1 r2 r3 => cB_i (fun hr => ?_) (fun _ => h _ _ _ _ _ _ _ _ hcl.1 hcl.2 hm hcg))
  obtain ⟨p0, p1, p2, p3⟩ := r3 hr
  have g1 := hcg c (by omega) (by omega)
  refine wO_i (by (try simp only [inb]); omega) (wO_i (by (try simp only [inb]); omega) (sp_pegOf hpg (fun q q1 q2 q3 q4 => ?_)))
  have hq : 0 ≤ q := by
    by_cases e : q = -1
    · exact absurd p3 (q4 e p0 p1 p2)
    · omega
  have e3 := q3 hq
  have hm2 := mS_go hm (p := q) (k := cg c) ⟨hq, by omega⟩ (by omega)
  rw [e3] at hm2
  refine wO_i (by (try simp only [inb]); omega) ?_
  refine nlp4_i (fun i cg' _ _ => c ≤ i ∧ i < cl ∧ ∀ c, 0 ≤ c → c < 6 → 0 ≤ cg' c ∧ cg' c < 16) (fun i _ _ _ => (cl - i).toNat) ?_ ⟨by omega, by omega, hcg⟩
  intro i cg1 cy1 cn1 hi self hself
  obtain ⟨i1, i2, i3⟩ := hi
  refine wO_i (by (try simp only [iR]); omega) (cB_i (fun _ => wO_i (by (try simp only [iR]); omega) (h _ _ _ _ _ _ _ _ (by omega) (by omega) hm2 i3)) (fun _ => ?_))
  repeat' (first | with_reducible refine wO_i ?_ ?_ | with_reducible refine wL_i ?_ | with_reducible refine cB_f (by decide) ?_ | with_reducible refine cB_t (by decide) ?_ | with_reducible refine cB_i (fun _ => ?_) (fun _ => ?_) | with_reducible refine jn0_i ?_ | with_reducible refine jn1_i ?_ | with_reducible refine jn2_i ?_ | with_reducible refine jn3_i ?_ | with_reducible refine jn4_i ?_ | with_reducible refine jn5_i ?_ | with_reducible refine jn6_i ?_)
  all_goals (try (simp only [iR, lR, inb, bZ, dOK, or_true, true_or, true_and, and_true] at *)); all_goals (try omega)
  refine hself _ _ _ _ ⟨by omega, by omega, fun k a b => ?_⟩ (by omega)
  by_cases e : k = i
  · subst e; rw [ups_s]; exact i3 _ (by omega) (by omega)
  · rw [ups_n e]; exact i3 k a b
theorem st_masks {pg cl c : Int} {pk hg ki mk cg cy cn : Int → Int} {Q : Int → Prop} (hpg : 0 ≤ pg ∧ pg ≤ 24) (hcl : 0 ≤ cl ∧ cl ≤ 6) (hh : ∀ p, 0 ≤ p → p < 24 → -1 ≤ hg p ∧ hg p < 16) (hcg : ∀ c, 0 ≤ c → c < 6 → 0 ≤ cg c ∧ cg c < 16) (h : ∀ r, Q r) : nf_M_asks pg cl pk hg ki mk cg cy cn c Q := by
  unfold nf_M_asks
  simp only [ci_m1, ci_m10, ci_m1001, ci_m1002, ci_m1003, ci_m1004, ci_0, ci_1, ci_10, ci_100, ci_1000, ci_10000, ci_101, ci_103, ci_104, ci_105, ci_107, ci_108, ci_110, ci_111, ci_114, ci_115, ci_116, ci_118, ci_119, ci_12, ci_122, ci_1431655765, ci_15, ci_16, ci_2, ci_20, ci_23, ci_24, ci_240, ci_252645135, ci_255, ci_256, ci_3, ci_32, ci_4, ci_420, ci_48, ci_5, ci_5040, ci_57, ci_59, ci_6, ci_60, ci_63, ci_64, ci_7, ci_70, ci_8, ci_858993459, ci_9, ci_900, ci_97, ci_99, ci_999, ci_9999, cl_0, cl_1, cl_10, cl_1000000000000, cl_122, cl_2, cl_2000000000000, cl_23, cl_255, cl_27, cl_3, cl_4, cl_48, cl_57, cl_6, cl_8, cl_96, cl_97, cl_99, cl_999, cl_9999]
  refine sp_isClaim hcl (cB_i (fun hc => cB_f (by decide) ?_) (fun _ => cB_t rfl (h _)))
  have g1 := hcg c (by omega) (by omega)
  refine wO_i (by (try simp only [inb]); omega) ?_
  refine nlp2_i (fun _ s => 0 ≤ s ∧ s ≤ 256) (fun _ s => (256 - s).toNat) ?_ ⟨by omega, by omega⟩
  intro b s hi self hself
  refine cB_i (fun _ => h _) (fun _ => ?_)
  refine wO_i (by (try simp only [inb]); omega) (wO_i (by (try simp only [inb]); omega) (wO_i (by (try simp only [inb]); omega) (wL_i (wL_i (wO_i (by (try simp only [inb]); omega) (wO_i (by (try simp only [inb]); omega) (wL_i (wL_i (wL_i (st_fitting hpg hh (fun r _ => st_bits ?_)))))))))))
  refine jn1_s (fun _ => True) (fun t _ => wO_i (by (try simp only [iR]); omega) (hself _ _ ⟨by omega, by omega⟩ (by omega))) ?_
  refine jn0_s True (fun _ => trivial) (cB_i (fun _ => jn0_s True (fun _ => trivial) (cB_i (fun _ => trivial) (fun _ => st_bits (st_bits (cB_i (fun _ => trivial) (fun _ => trivial)))))) (fun _ => trivial))
