/-! the model: the rush -/
theorem st_bits {x : Int} {Q : Int → Prop} (h : Q (cnt x 16)) : nf_M_bits x Q := by
  unfold nf_M_bits
  simp only [ci_m1, ci_m10, ci_m1001, ci_m1002, ci_m1003, ci_m1004, ci_0, ci_1, ci_10, ci_100, ci_1000, ci_10000, ci_101, ci_103, ci_104, ci_105, ci_107, ci_108, ci_110, ci_111, ci_114, ci_115, ci_116, ci_118, ci_119, ci_12, ci_122, ci_1431655765, ci_15, ci_16, ci_2, ci_20, ci_23, ci_24, ci_240, ci_252645135, ci_255, ci_256, ci_3, ci_32, ci_4, ci_420, ci_48, ci_5, ci_5040, ci_57, ci_59, ci_6, ci_60, ci_63, ci_64, ci_7, ci_70, ci_8, ci_858993459, ci_9, ci_900, ci_97, ci_99, ci_999, ci_9999, cl_0, cl_1, cl_10, cl_1000000000000, cl_122, cl_2, cl_2000000000000, cl_23, cl_255, cl_27, cl_3, cl_4, cl_48, cl_57, cl_6, cl_8, cl_96, cl_97, cl_99, cl_999, cl_9999]
  refine nlp2_i (fun n k => 0 ≤ k ∧ k ≤ 16 ∧ n = cnt x k.toNat) (fun _ k => (16 - k).toNat) ?_ ⟨by omega, by omega, rfl⟩
  intro n k hi self hself
  obtain ⟨i1, i2, i3⟩ := hi
  have cb := cnt_b x k.toNat
  refine cB_i (fun e => ?_) (fun _ => wL_i (wL_i ?_))
  · have : k = 16 := by omega
    subst this
    rw [i3]; exact h
  · have b := bt (x := x) i1 (by omega)
    have b2 := bt01 (x := x) i1 (by omega)
    refine wO_i (by (try simp only [iR]); omega) (wO_i (by (try simp only [iR]); omega) (hself _ _ ⟨by omega, by omega, ?_⟩ (by omega)))
    rw [cnt_s i1, i3, b]
theorem st_areHanging {pg gu set : Int} {hg : Int → Int} {Q : Int → Prop} (hpg : 0 ≤ pg ∧ pg ≤ 24) (hgu : 0 ≤ gu ∧ gu ≤ 16) (h1 : (∀ g, 0 ≤ g → g < gu → bit set g = true → ∃ p, 0 ≤ p ∧ p < pg ∧ hg p = g) → Q 1) (h0 : Q 0) : nf_M_areHanging pg gu hg set Q := by
  unfold nf_M_areHanging nf_M_areGuests
  simp only [ci_m1, ci_m10, ci_m1001, ci_m1002, ci_m1003, ci_m1004, ci_0, ci_1, ci_10, ci_100, ci_1000, ci_10000, ci_101, ci_103, ci_104, ci_105, ci_107, ci_108, ci_110, ci_111, ci_114, ci_115, ci_116, ci_118, ci_119, ci_12, ci_122, ci_1431655765, ci_15, ci_16, ci_2, ci_20, ci_23, ci_24, ci_240, ci_252645135, ci_255, ci_256, ci_3, ci_32, ci_4, ci_420, ci_48, ci_5, ci_5040, ci_57, ci_59, ci_6, ci_60, ci_63, ci_64, ci_7, ci_70, ci_8, ci_858993459, ci_9, ci_900, ci_97, ci_99, ci_999, ci_9999, cl_0, cl_1, cl_10, cl_1000000000000, cl_122, cl_2, cl_2000000000000, cl_23, cl_255, cl_27, cl_3, cl_4, cl_48, cl_57, cl_6, cl_8, cl_96, cl_97, cl_99, cl_999, cl_9999]
  have s1 : ∀ k : Nat, k < 17 → 1 ≤ ishl 1 (k : Int) ∧ ishl 1 (k : Int) ≤ 65536 := by decide +kernel
  have s2 := s1 gu.toNat (by omega)
  rw [Int.toNat_of_nonneg hgu.1] at s2
  have go : ∀ r1, (r1 = 0 ∨ r1 = 1) → nlp2 (fun self4 (l2_2 : Int) (l3_3 : Int) =>
      cB (gu ≤ l3_3)
        (wO (bZ l2_2) l2_2 fun r9 => Q r9 )
        (cB (l2_2 = 0)
          (wO (bZ l2_2) l2_2 fun r9 => Q r9 )
          (wL (ishr set l3_3) fun v5 =>
          wL (iand v5 1) fun v6 =>
          jn1 (fun (t7 : Int) =>
              wO (iR (l3_3 + 1)) (l3_3 + 1) fun v9 =>
              self4 t7 v9) fun j8 =>
          jn0 (
              j8 1) fun j10 =>
          cB (v6 = 0)
            (j10 )
            (nf_M_pegOf pg hg l3_3 fun r11 =>
            cB (r11 < 0)
              (j8 0)
              (j10 ))))) r1 0 := by
    intro r1 hr1
    refine nlp2_i (fun a g => 0 ≤ g ∧ g ≤ gu ∧ (a = 0 ∨ (a = 1 ∧ ∀ q, 0 ≤ q → q < g → bit set q = true → ∃ p, 0 ≤ p ∧ p < pg ∧ hg p = q))) (fun _ g => (gu - g).toNat) ?_ ⟨by omega, by omega, ?_⟩
    · intro a g hi self hself
      obtain ⟨i1, i2, i3⟩ := hi
      have fin : ∀ g', g' = g → gu ≤ g' → Q a := by
        intro g' e1 e2
        rcases i3 with rfl | ⟨rfl, i4⟩
        · exact h0
        · exact h1 (fun q a b => i4 q a (by omega))
      refine cB_i (fun e => wO_i (by unfold bZ; omega) (fin g rfl e)) (fun e => cB_i (fun e2 => wO_i (by unfold bZ; omega) (by rw [e2]; exact h0)) (fun e2 => wL_i (wL_i ?_)))
      have i4 : ∀ q, 0 ≤ q → q < g → bit set q = true → ∃ p, 0 ≤ p ∧ p < pg ∧ hg p = q := by
        rcases i3 with i3 | ⟨_, i3⟩
        · exact absurd i3 e2
        · exact i3
      have b := bt (x := set) i1 (by omega)
      refine jn1_s (fun t => t = 0 ∨ (t = 1 ∧ (bit set g = true → ∃ p, 0 ≤ p ∧ p < pg ∧ hg p = g))) (fun t ht => wO_i (by (try simp only [iR]); omega) (hself _ _ ⟨by omega, by omega, ?_⟩ (by omega))) ?_
      · rcases ht with ht | ⟨ht, ht2⟩
        · exact Or.inl ht
        · refine Or.inr ⟨ht, fun q q1 q2 hq => ?_⟩
          by_cases eq : q = g
          · subst eq; exact ht2 hq
          · exact i4 q q1 (by omega) hq
      · refine jn0_s (bit set g = true → ∃ p, 0 ≤ p ∧ p < pg ∧ hg p = g) (fun e3 => Or.inr ⟨rfl, e3⟩) ?_
        refine cB_i (fun e3 => fun hb => by rw [b, hb] at e3; exact absurd e3 (by decide)) (fun _ => sp_pegOf hpg (fun r r1 r2 r3 r4 => cB_i (fun _ => Or.inl rfl) (fun e4 => fun _ => ⟨r, by omega, r2, r3 (by omega)⟩)))
    · rcases hr1 with e | e
      · exact Or.inl e
      · exact Or.inr ⟨e, by omega⟩
  refine wL_i (wL_i (wO_i (by (try simp only [iR]); omega) (wL_i (sp_in (cB_i (fun _ => wO_i (Or.inr rfl) (go 1 (Or.inr rfl))) (fun _ => wO_i (Or.inl rfl) (go 0 (Or.inl rfl))))))))
def rH (m pg : Int) (hg rw : Int → Int) : Prop := ∀ k, 0 ≤ k → k < m → 0 ≤ rw k ∧ rw k < 16 ∧ ∃ p, 0 ≤ p ∧ p < pg ∧ hg p = rw k
theorem st_fillRow {pg gu rm set : Int} {hg rw : Int → Int} {Q : Int → (Int → Int) → Prop} (hgu : 0 ≤ gu ∧ gu ≤ 16) (hh : ∀ g, 0 ≤ g → g < gu → bit set g = true → ∃ p, 0 ≤ p ∧ p < pg ∧ hg p = g) (h : ∀ m rw', 0 ≤ m → m ≤ gu → m ≤ cnt set 16 → rH m pg hg rw' → rD m rw' → Q m rw') : nf_M_fillRow gu rm rw set Q := by
  unfold nf_M_fillRow
  simp only [ci_m1, ci_m10, ci_m1001, ci_m1002, ci_m1003, ci_m1004, ci_0, ci_1, ci_10, ci_100, ci_1000, ci_10000, ci_101, ci_103, ci_104, ci_105, ci_107, ci_108, ci_110, ci_111, ci_114, ci_115, ci_116, ci_118, ci_119, ci_12, ci_122, ci_1431655765, ci_15, ci_16, ci_2, ci_20, ci_23, ci_24, ci_240, ci_252645135, ci_255, ci_256, ci_3, ci_32, ci_4, ci_420, ci_48, ci_5, ci_5040, ci_57, ci_59, ci_6, ci_60, ci_63, ci_64, ci_7, ci_70, ci_8, ci_858993459, ci_9, ci_900, ci_97, ci_99, ci_999, ci_9999, cl_0, cl_1, cl_10, cl_1000000000000, cl_122, cl_2, cl_2000000000000, cl_23, cl_255, cl_27, cl_3, cl_4, cl_48, cl_57, cl_6, cl_8, cl_96, cl_97, cl_99, cl_999, cl_9999]
  refine nlp3_i (fun g m rw' => 0 ≤ g ∧ g ≤ gu ∧ 0 ≤ m ∧ m ≤ g ∧ m = cnt set g.toNat ∧ rH m pg hg rw' ∧ (∀ k, 0 ≤ k → k < m → rw' k < g) ∧ rD m rw') (fun g _ _ => (gu - g).toNat) ?_ ⟨by omega, by omega, by omega, by omega, rfl, fun k a b => by omega, fun k a b => by omega, fun i j a b c d => by omega⟩
  intro g m rw1 hi self hself
  obtain ⟨i1, i2, i3, i4, i5, i6, i7, i8⟩ := hi
  refine cB_i (fun e => ?_) (fun _ => wL_i (wL_i ?_))
  · have : g = gu := by omega
    subst this
    exact h _ _ i3 (by omega) (by rw [i5]; exact cnt_m _ _ _ (by omega)) i6 i8
  · have b := bt1 (x := set) i1 (by omega)
    have cs := cnt_s (x := set) i1
    refine jn2_s (fun m' rw' => 0 ≤ m' ∧ m' ≤ g + 1 ∧ m' = cnt set (g + 1).toNat ∧ rH m' pg hg rw' ∧ (∀ k, 0 ≤ k → k < m' → rw' k < g + 1) ∧ rD m' rw') (fun m' rw' hm => wO_i (by (try simp only [iR]); omega) (hself _ _ _ ⟨by omega, by omega, hm.1, hm.2.1, hm.2.2.1, hm.2.2.2.1, hm.2.2.2.2.1, hm.2.2.2.2.2⟩ (by omega))) ?_
    refine cB_i (fun e => ?_) (fun e => ?_)
    · have hb := b.mp e
      rw [if_pos hb] at cs
      refine wO_i (by (try simp only [inb]); omega) (wO_i (by (try simp only [iR]); omega) ⟨by omega, by omega, by omega, fun k a c => ?_, fun k a c => ?_, fun x y a c d f hxy => ?_⟩)
      · by_cases ek : k = m
        · subst ek; rw [ups_s]; exact ⟨i1, by omega, hh g i1 (by omega) hb⟩
        · rw [ups_n ek]; exact i6 k a (by omega)
      · by_cases ek : k = m
        · subst ek; rw [ups_s]; omega
        · rw [ups_n ek]; have := i7 k a (by omega); omega
      · by_cases ex : x = m <;> by_cases ey : y = m
        · omega
        · subst ex; rw [ups_s, ups_n ey] at hxy; have := i7 y d (by omega); omega
        · subst ey; rw [ups_s, ups_n ex] at hxy; have := i7 x a (by omega); omega
        · rw [ups_n ex, ups_n ey] at hxy; exact i8 x y a (by omega) d (by omega) hxy
    · have hb : ¬ bit set g = true := fun e2 => e (b.mpr e2)
      rw [if_neg hb] at cs
      exact ⟨i3, by omega, by omega, i6, fun k a c => by have := i7 k a c; omega, i8⟩
theorem st_runRow {pg m a1 a2 a3 x : Int} {pw sg hg ti rw fa : Int → Int} {Q : Int → Int → Int → (Int → Int) → Prop} (hpg : 0 ≤ pg ∧ pg ≤ 24) (hm : 0 ≤ m ∧ m ≤ 16) (hx : 1 ≤ x ∧ x ≤ 4) (hpw : ∀ q, 0 ≤ q → q < pg → 0 ≤ pw q ∧ pw q ≤ 122) (hs : 0 ≤ sg 3 ∧ sg 3 ≤ 20 ∧ 0 ≤ sg 4 ∧ sg 4 ≤ 20) (ht : ∀ g, 0 ≤ g → g < 16 → 0 ≤ ti g ∧ ti g ≤ 99) (hr : rH m pg hg rw) (h : ∀ b1 b2 b3 f, Q b1 b2 b3 f) : nf_M_runRow pg m a1 a2 a3 pw sg hg ti rw fa x Q := by
  unfold nf_M_runRow
  simp only [ci_m1, ci_m10, ci_m1001, ci_m1002, ci_m1003, ci_m1004, ci_0, ci_1, ci_10, ci_100, ci_1000, ci_10000, ci_101, ci_103, ci_104, ci_105, ci_107, ci_108, ci_110, ci_111, ci_114, ci_115, ci_116, ci_118, ci_119, ci_12, ci_122, ci_1431655765, ci_15, ci_16, ci_2, ci_20, ci_23, ci_24, ci_240, ci_252645135, ci_255, ci_256, ci_3, ci_32, ci_4, ci_420, ci_48, ci_5, ci_5040, ci_57, ci_59, ci_6, ci_60, ci_63, ci_64, ci_7, ci_70, ci_8, ci_858993459, ci_9, ci_900, ci_97, ci_99, ci_999, ci_9999, cl_0, cl_1, cl_10, cl_1000000000000, cl_122, cl_2, cl_2000000000000, cl_23, cl_255, cl_27, cl_3, cl_4, cl_48, cl_57, cl_6, cl_8, cl_96, cl_97, cl_99, cl_999, cl_9999]
  refine nlp2_i (fun k fa' => 0 ≤ k ∧ k ≤ 4 ∧ ∀ q, 0 ≤ q → q < k → fa' q = 0) (fun k _ => (4 - k).toNat) ?_ ⟨by omega, by omega, by omega⟩
  intro k fa1 hi self hself
  obtain ⟨i1, i2, i3⟩ := hi
  refine cB_i (fun _ => ?_) (fun _ => ?_)
  · refine nlp5_i (fun i ws wm ts fa' => 0 ≤ i ∧ i ≤ m ∧ 0 ≤ ws ∧ ws ≤ 4224 * i ∧ 0 ≤ wm ∧ wm ≤ 4224 ∧ 0 ≤ ts ∧ ts ≤ 99 * i ∧ ∀ q, 0 ≤ q → q < 4 → 0 ≤ fa' q ∧ fa' q ≤ 264 * i) (fun i _ _ _ _ => (m - i).toNat) ?_ ⟨by omega, by omega, by omega, by omega, by omega, by omega, by omega, by omega, fun q a b => by rw [i3 q a (by omega)]; omega⟩
    intro i ws wm ts fa2 hj self2 hself2
    obtain ⟨j1, j2, j3, j4, j5, j6, j7, j8, j9⟩ := hj
    refine cB_i (fun _ => h _ _ _ _) (fun _ => wO_i (by (try simp only [inb]); omega) ?_)
    refine nlp2_i (fun hd k => 0 ≤ hd ∧ hd < 4 ∧ 1 ≤ k ∧ k ≤ x) (fun _ k => (x - k).toNat) ?_ ⟨by omega, by omega, by omega, by omega⟩
    intro hd k2 hk self3 hself3
    obtain ⟨k1, k3, k4, k5⟩ := hk
    refine cB_i (fun _ => ?_) (fun _ => ?_)
    · obtain ⟨q1, q2, p0, p1, p2, p3⟩ := hr i j1 (by omega)
      have f1 := j9 hd k1 k3
      have t1 := ht (rw i) q1 q2
      refine wO_i (by (try simp only [inb]); omega) (sp_pegOf hpg (fun r r1 r2 r3 r4 => ?_))
      have rr : 0 ≤ r := by
        by_cases er : r = -1
        · exact absurd p3 (r4 er p0 p1 p2)
        · omega
      have w1 := hpw r rr r2
      have m1 := mulb hs.2.2.1 hs.2.2.2 (show 0 ≤ fa2 hd + (2 * pw r + sg 3) by omega) (show fa2 hd + (2 * pw r + sg 3) ≤ 4224 by omega)
      have td : Int.tdiv (sg 4 * (fa2 hd + (2 * pw r + sg 3))) 10 = sg 4 * (fa2 hd + (2 * pw r + sg 3)) / 10 := Int.tdiv_eq_ediv_of_nonneg m1.1
      have nxt : ∀ z5 z6 z7, z5 = ws + (fa2 hd + (2 * pw r + sg 3)) → 0 ≤ z6 → z6 ≤ 4224 → 0 ≤ z7 → z7 ≤ 99 * (i + 1) → self2 (i + 1) z5 z6 z7 (ups fa2 hd (fa2 hd + (2 * pw r + sg 3))) := fun z5 z6 z7 e1 e2 e3 e4 e5 => hself2 _ _ _ _ _ ⟨by omega, by omega, by omega, by omega, e2, e3, e4, e5, fun q a b => by
        by_cases eq : q = hd
        · subst eq; rw [ups_s]; omega
        · rw [ups_n eq]; have := j9 q a b; omega⟩ (by omega)
      refine wO_i (by (try simp only [inb]); omega) (wO_i (by (try simp only [iR]); omega) (wO_i (by (try simp only [inb]); omega) (wO_i (by (try simp only [iR]); omega) (wO_i (by (try simp only [iR]); omega) (wO_i (by (try simp only [inb]); omega) (wO_i (by (try simp only [inb]); omega) ?_))))))
      rw [ups_s]
      refine wO_i (by (try simp only [inb]); omega) (wO_i (by (try simp only [inb]); omega) (wO_i (by (try simp only [iR]); omega) (wO_i (by (try simp only [dOK]); omega) ?_)))
      rw [td]
      refine wO_i (by (try simp only [iR]); omega) (wO_i (by (try simp only [iR]); omega) ?_)
      refine jn1_s (fun t => 0 ≤ t ∧ t ≤ 4224) (fun t29 ht29 => ?_) (cB_i (fun _ => ⟨by omega, by omega⟩) (fun _ => ⟨by omega, by omega⟩))
      refine jn1_s (fun t => 0 ≤ t ∧ t ≤ 99) (fun t31 ht31 => ?_) (cB_i (fun _ => ⟨by omega, by omega⟩) (fun _ => ⟨by omega, by omega⟩))
      exact wO_i (by (try simp only [iR]); omega) (wO_i (by (try simp only [iR]); omega) (nxt _ _ _ rfl ht29.1 ht29.2 (by omega) (by omega)))
    · refine wO_i (by (try simp only [inb]); omega) (wO_i (by (try simp only [inb]); omega) (jn1_s (fun t => 0 ≤ t ∧ t < 4) (fun t ht => wO_i (by (try simp only [iR]); omega) (hself3 _ _ ⟨ht.1, ht.2, by omega, by omega⟩ (by omega))) (cB_i (fun _ => ⟨k1, k3⟩) (fun _ => ⟨by omega, by omega⟩))))
  · refine wO_i (by (try simp only [inb]); omega) (wO_i (by (try simp only [iR]); omega) (hself _ _ ⟨by omega, by omega, fun q a b => ?_⟩ (by omega)))
    by_cases e : q = k
    · subst e; rw [ups_s]
    · rw [ups_n e]; exact i3 q a (by omega)
theorem st_nextRow {m : Int} {rw : Int → Int} {Q : Int → (Int → Int) → Prop} (hm : 0 ≤ m ∧ m ≤ 16) (hr : ∀ k, 0 ≤ k → k < m → 0 ≤ rw k ∧ rw k < 16) (hd : rD m rw) (h0 : Q 0 rw) (h : ∀ rw', rD m rw' → rS m rw rw' → rV rw m.toNat < rV rw' m.toNat → Q 1 rw') : nf_M_nextRow m rw Q := by
  unfold nf_M_nextRow
  simp only [ci_m1, ci_m10, ci_m1001, ci_m1002, ci_m1003, ci_m1004, ci_0, ci_1, ci_10, ci_100, ci_1000, ci_10000, ci_101, ci_103, ci_104, ci_105, ci_107, ci_108, ci_110, ci_111, ci_114, ci_115, ci_116, ci_118, ci_119, ci_12, ci_122, ci_1431655765, ci_15, ci_16, ci_2, ci_20, ci_23, ci_24, ci_240, ci_252645135, ci_255, ci_256, ci_3, ci_32, ci_4, ci_420, ci_48, ci_5, ci_5040, ci_57, ci_59, ci_6, ci_60, ci_63, ci_64, ci_7, ci_70, ci_8, ci_858993459, ci_9, ci_900, ci_97, ci_99, ci_999, ci_9999, cl_0, cl_1, cl_10, cl_1000000000000, cl_122, cl_2, cl_2000000000000, cl_23, cl_255, cl_27, cl_3, cl_4, cl_48, cl_57, cl_6, cl_8, cl_96, cl_97, cl_99, cl_999, cl_9999]
  refine wO_i (by (try simp only [iR]); omega) ?_
  refine nlp1_i (fun i => -2 ≤ i ∧ i ≤ m - 2) (fun i => (i + 2).toNat) ?_ ⟨by omega, by omega⟩
  intro i hi self hself
  refine jn0_s (0 ≤ i → rw i ≤ rw (i + 1)) (fun hle => ?_) ?_
  · refine cB_i (fun e => wO_i (by (try simp only [iR]); omega) ?_) (fun _ => h0)
    have hle := hle e
    refine nlp1_i (fun j => i + 1 ≤ j ∧ j ≤ m - 1) (fun j => j.toNat) ?_ ⟨by omega, by omega⟩
    intro j hj self2 hself2
    refine wO_i (by (try simp only [inb]); omega) (wO_i (by (try simp only [inb]); omega) (cB_i (fun e2 => ?_) (fun e2 => ?_)))
    · have ne : rw i ≠ rw j := fun e3 => by have := hd i j e (by omega) (by omega) (by omega) e3; omega
      refine wO_i (by (try simp only [inb]); omega) (wO_i (by (try simp only [inb]); omega) (wO_i (by (try simp only [inb]); omega) (wO_i (by (try simp only [inb]); omega) (wO_i (by (try simp only [iR]); omega) (wO_i (by (try simp only [iR]); omega) ?_)))))
      refine nlp3_i (fun lo hh z => i + 1 ≤ lo ∧ hh ≤ m - 1 ∧ -1 ≤ hh ∧ rD m z ∧ rS m rw z ∧ (∀ q, 0 ≤ q → q < i → z q = rw q) ∧ z i = rw j) (fun lo hh _ => (hh - lo).toNat) ?_ ⟨by omega, by omega, by omega, rD_sw ⟨e, by omega⟩ ⟨by omega, by omega⟩ hd, rS_sw ⟨e, by omega⟩ ⟨by omega, by omega⟩, fun q a b => ?_, ?_⟩
      · intro lo hh z hz self3 hself3
        obtain ⟨z1, z2, z3, z4, z5, z6, z7⟩ := hz
        refine cB_i (fun _ => h _ z4 z5 ?_) (fun _ => ?_)
        · have hz16 : ∀ q : Int, 0 ≤ q → q < (m.toNat : Nat) → 0 ≤ z q ∧ z q < 16 := fun q a b => by
            obtain ⟨y, y0, y1, y2⟩ := z5 q a (by omega)
            rw [y2]; exact hr y y0 y1
          have hr16 : ∀ q : Int, 0 ≤ q → q < (m.toNat : Nat) → 0 ≤ rw q ∧ rw q < 16 := fun q a b => hr q a (by omega)
          refine rV_l rw z m.toNat i.toNat hr16 hz16 (by omega) (fun q a b => (z6 q a (by omega)).symm) ?_ m.toNat (by omega) (Nat.le_refl _)
          rw [Int.toNat_of_nonneg e, z7]
          omega
        · refine wO_i (by (try simp only [inb]); omega) (wO_i (by (try simp only [inb]); omega) (wO_i (by (try simp only [inb]); omega) (wO_i (by (try simp only [inb]); omega) (wO_i (by (try simp only [iR]); omega) (wO_i (by (try simp only [iR]); omega) (hself3 _ _ _ ⟨by omega, by omega, by omega, rD_sw ⟨by omega, by omega⟩ ⟨by omega, by omega⟩ z4, rS_t z5 (rS_sw ⟨by omega, by omega⟩ ⟨by omega, by omega⟩), fun q a b => ?_, ?_⟩ (by omega)))))))
          · rw [sw_at, if_neg (by omega), if_neg (by omega)]; exact z6 q a b
          · rw [sw_at, if_neg (by omega), if_neg (by omega)]; exact z7
      · rw [sw_at, if_neg (by omega), if_neg (by omega)]
      · rw [sw_at, if_neg (by omega), if_pos rfl]
    · have : j ≠ i + 1 := fun e3 => by subst e3; omega
      exact wO_i (by (try simp only [iR]); omega) (hself2 _ ⟨by omega, by omega⟩ (by omega))
  · refine cB_i (fun e => fun e2 => by omega) (fun _ => wO_i (by (try simp only [inb]); omega) (wO_i (by (try simp only [iR]); omega) (wO_i (by (try simp only [inb]); omega) (cB_i (fun e => fun _ => e) (fun _ => wO_i (by (try simp only [iR]); omega) (hself _ ⟨by omega, by omega⟩ (by omega)))))))
theorem rH_s {m pg : Int} {hg a b : Int → Int} (h : rH m pg hg a) (s : rS m a b) : rH m pg hg b := fun k k0 k1 => by
  obtain ⟨j, j0, j1, e⟩ := s k k0 k1
  rw [e]; exact h j j0 j1
theorem st_mrush {pg gu m a1 a2 a3 x y set : Int} {pw sg hg ti rw fa : Int → Int} {Q : Int → Int → Int → Int → Int → (Int → Int) → (Int → Int) → Prop} (hpg : 0 ≤ pg ∧ pg ≤ 24) (hgu : 0 ≤ gu ∧ gu ≤ 16) (hpw : ∀ q, 0 ≤ q → q < pg → 0 ≤ pw q ∧ pw q ≤ 122) (hs : 0 ≤ sg 3 ∧ sg 3 ≤ 20 ∧ 0 ≤ sg 4 ∧ sg 4 ≤ 20) (ht : ∀ g, 0 ≤ g → g < 16 → 0 ≤ ti g ∧ ti g ≤ 99) (h : ∀ r m' b1 b2 b3 rw' f, Q r m' b1 b2 b3 rw' f) : nf_M_rush pg gu m a1 a2 a3 pw sg hg ti rw fa set x y Q := by
  unfold nf_M_rush
  simp only [ci_m1, ci_m10, ci_m1001, ci_m1002, ci_m1003, ci_m1004, ci_0, ci_1, ci_10, ci_100, ci_1000, ci_10000, ci_101, ci_103, ci_104, ci_105, ci_107, ci_108, ci_110, ci_111, ci_114, ci_115, ci_116, ci_118, ci_119, ci_12, ci_122, ci_1431655765, ci_15, ci_16, ci_2, ci_20, ci_23, ci_24, ci_240, ci_252645135, ci_255, ci_256, ci_3, ci_32, ci_4, ci_420, ci_48, ci_5, ci_5040, ci_57, ci_59, ci_6, ci_60, ci_63, ci_64, ci_7, ci_70, ci_8, ci_858993459, ci_9, ci_900, ci_97, ci_99, ci_999, ci_9999, cl_0, cl_1, cl_10, cl_1000000000000, cl_122, cl_2, cl_2000000000000, cl_23, cl_255, cl_27, cl_3, cl_4, cl_48, cl_57, cl_6, cl_8, cl_96, cl_97, cl_99, cl_999, cl_9999]
  refine st_areHanging hpg hgu (fun hh => cB_f (by decide) ?_) (cB_t rfl (h _ _ _ _ _ _ _))
  refine wL_i (sp_in (cB_i (fun hx => cB_f (by decide) (wL_i (sp_in (cB_i (fun _ => cB_f (by decide) ?_) (fun _ => cB_t rfl (h _ _ _ _ _ _ _)))))) (fun _ => cB_t rfl (h _ _ _ _ _ _ _))))
  refine st_fillRow hgu hh (fun m' rw' c1 c2 _ c4 _ => st_runRow hpg ⟨c1, by omega⟩ ⟨by omega, by omega⟩ hpw hs ht c4 (fun b1 b2 b3 f => ?_))
  repeat' (first | with_reducible refine wO_i ?_ ?_ | with_reducible refine wL_i ?_ | with_reducible refine cB_f (by decide) ?_ | with_reducible refine cB_t (by decide) ?_ | with_reducible refine cB_i (fun _ => ?_) (fun _ => ?_) | with_reducible refine jn0_i ?_ | with_reducible refine jn1_i ?_ | with_reducible refine jn2_i ?_ | with_reducible refine jn3_i ?_ | with_reducible refine jn4_i ?_ | with_reducible refine jn5_i ?_ | with_reducible refine jn6_i ?_)
  all_goals exact h _ _ _ _ _ _ _
theorem st_mwanted {pg gu m a1 a2 a3 w set : Int} {pw sg hg ti rw fa : Int → Int} {Q : Int → Int → Int → Int → Int → (Int → Int) → (Int → Int) → Prop} (hpg : 0 ≤ pg ∧ pg ≤ 24) (hgu : 0 ≤ gu ∧ gu ≤ 16) (hpw : ∀ q, 0 ≤ q → q < pg → 0 ≤ pw q ∧ pw q ≤ 122) (hs : 0 ≤ sg 3 ∧ sg 3 ≤ 20 ∧ 0 ≤ sg 4 ∧ sg 4 ≤ 20) (ht : ∀ g, 0 ≤ g → g < 16 → 0 ≤ ti g ∧ ti g ≤ 99) (h : ∀ r m' b1 b2 b3 rw' f, Q r m' b1 b2 b3 rw' f) : nf_M_wanted pg gu m a1 a2 a3 pw sg hg ti rw fa set w Q := by
  unfold nf_M_wanted
  simp only [ci_m1, ci_m10, ci_m1001, ci_m1002, ci_m1003, ci_m1004, ci_0, ci_1, ci_10, ci_100, ci_1000, ci_10000, ci_101, ci_103, ci_104, ci_105, ci_107, ci_108, ci_110, ci_111, ci_114, ci_115, ci_116, ci_118, ci_119, ci_12, ci_122, ci_1431655765, ci_15, ci_16, ci_2, ci_20, ci_23, ci_24, ci_240, ci_252645135, ci_255, ci_256, ci_3, ci_32, ci_4, ci_420, ci_48, ci_5, ci_5040, ci_57, ci_59, ci_6, ci_60, ci_63, ci_64, ci_7, ci_70, ci_8, ci_858993459, ci_9, ci_900, ci_97, ci_99, ci_999, ci_9999, cl_0, cl_1, cl_10, cl_1000000000000, cl_122, cl_2, cl_2000000000000, cl_23, cl_255, cl_27, cl_3, cl_4, cl_48, cl_57, cl_6, cl_8, cl_96, cl_97, cl_99, cl_999, cl_9999]
  refine st_areHanging hpg hgu (fun hh => cB_f (by decide) ?_) (cB_t rfl (h _ _ _ _ _ _ _))
  refine wL_i (sp_in (cB_i (fun hx => cB_f (by decide) ?_) (fun _ => cB_t rfl (h _ _ _ _ _ _ _))))
  refine st_fillRow hgu hh (fun m' rw' c1 c2 _ c4 _ => ?_)
  refine nlp5_i (fun n _ _ _ _ => 1 ≤ n ∧ n ≤ 5) (fun n _ _ _ _ => (5 - n).toNat) ?_ ⟨by omega, by omega⟩
  intro n b1 b2 b3 f1 hi self hself
  refine cB_i (fun _ => h _ _ _ _ _ _ _) (fun _ => st_runRow hpg ⟨c1, by omega⟩ ⟨by omega, by omega⟩ hpw hs ht c4 (fun d1 d2 d3 f2 => cB_i (fun _ => wO_i (by (try simp only [iR]); omega) (hself _ _ _ _ _ ⟨by omega, by omega⟩ (by omega))) (fun _ => h _ _ _ _ _ _ _)))
theorem st_mbestRow {pg gu m a1 a2 a3 x i set : Int} {pw sg hg ti rw fa be : Int → Int} {Q : Int → Int → Int → Int → Int → (Int → Int) → (Int → Int) → (Int → Int) → Prop} (hpg : 0 ≤ pg ∧ pg ≤ 24) (hgu : 0 ≤ gu ∧ gu ≤ 16) (hpw : ∀ q, 0 ≤ q → q < pg → 0 ≤ pw q ∧ pw q ≤ 122) (hs : 0 ≤ sg 3 ∧ sg 3 ≤ 20 ∧ 0 ≤ sg 4 ∧ sg 4 ≤ 20) (ht : ∀ g, 0 ≤ g → g < 16 → 0 ≤ ti g ∧ ti g ≤ 99) (h : ∀ r m' b1 b2 b3 rw' f be', Q r m' b1 b2 b3 rw' f be') : nf_M_bestRow pg gu m a1 a2 a3 pw sg hg ti rw fa be set x i Q := by
  unfold nf_M_bestRow
  simp only [ci_m1, ci_m10, ci_m1001, ci_m1002, ci_m1003, ci_m1004, ci_0, ci_1, ci_10, ci_100, ci_1000, ci_10000, ci_101, ci_103, ci_104, ci_105, ci_107, ci_108, ci_110, ci_111, ci_114, ci_115, ci_116, ci_118, ci_119, ci_12, ci_122, ci_1431655765, ci_15, ci_16, ci_2, ci_20, ci_23, ci_24, ci_240, ci_252645135, ci_255, ci_256, ci_3, ci_32, ci_4, ci_420, ci_48, ci_5, ci_5040, ci_57, ci_59, ci_6, ci_60, ci_63, ci_64, ci_7, ci_70, ci_8, ci_858993459, ci_9, ci_900, ci_97, ci_99, ci_999, ci_9999, cl_0, cl_1, cl_10, cl_1000000000000, cl_122, cl_2, cl_2000000000000, cl_23, cl_255, cl_27, cl_3, cl_4, cl_48, cl_57, cl_6, cl_8, cl_96, cl_97, cl_99, cl_999, cl_9999]
  refine st_areHanging hpg hgu (fun hh => cB_f (by decide) ?_) (cB_t rfl (h _ _ _ _ _ _ _ _))
  refine wL_i (sp_in (cB_i (fun hx => cB_f (by decide) (st_bits (cB_i (fun h7 => ?_) (fun _ => h _ _ _ _ _ _ _ _)))) (fun _ => cB_t rfl (h _ _ _ _ _ _ _ _))))
  refine st_fillRow hgu hh (fun m' rw' c1 c2 c3 c4 c5 => ?_)
  have top : ∀ a : Int → Int, rH m' pg hg a → rV a m'.toNat < 16 ^ 7 := fun a ha => by
    have q := (rV_b a m'.toNat (fun q q0 q1 => ⟨(ha q q0 (by omega)).1, (ha q q0 (by omega)).2.1⟩) m'.toNat (Nat.le_refl _)).2
    have e : (16 : Int) ^ m'.toNat ≤ 16 ^ 7 := by
      have : ∀ n : Nat, n < 8 → (16 : Int) ^ n ≤ 16 ^ 7 := by decide +kernel
      exact this _ (by omega)
    omega
  refine nlp9_i (fun _ _ mo _ _ _ a _ _ => rH m' pg hg a ∧ rD m' a) (fun _ _ mo _ _ _ a _ _ => if mo = 0 then 0 else (16 ^ 7 - rV a m'.toNat).toNat + 1) ?_ ⟨c4, c5⟩
  intro l4 l5 mo b1 b2 b3 a f1 be1 hi self hself
  obtain ⟨i1, i2⟩ := hi
  refine cB_i (fun _ => cB_i (fun _ => h _ _ _ _ _ _ _ _) (fun _ => wL_i (wO_i (by (try simp only [iR]); omega) (wL_i (sp_in (cB_i (fun e => cB_f (by decide) (wO_i (by (try simp only [inb]); omega) (h _ _ _ _ _ _ _ _))) (fun _ => cB_t rfl (h _ _ _ _ _ _ _ _)))))))) (fun emo => ?_)
  refine st_runRow hpg ⟨c1, by omega⟩ ⟨by omega, by omega⟩ hpw hs ht i1 (fun d1 d2 d3 f2 => ?_)
  have t1 := top a i1
  refine jn3_s (fun _ _ _ => True) (fun x1 x2 x3 _ => st_nextRow ⟨c1, by omega⟩ (fun k a b => ⟨(i1 k a b).1, (i1 k a b).2.1⟩) i2 (hself _ _ _ _ _ _ _ _ _ ⟨i1, i2⟩ ?_) (fun a' e1 e2 e3 => hself _ _ _ _ _ _ _ _ _ ⟨rH_s i1 e2, e1⟩ ?_)) ?_
  · rw [if_pos rfl, if_neg emo]; omega
  · rw [if_neg (by decide), if_neg emo]
    have t2 := top a' (rH_s i1 e2)
    omega
  · refine jn0_s True (fun _ => ?_) (cB_i (fun _ => trivial) (fun _ => cB_i (fun _ => cB_i (fun _ => trivial) (fun _ => trivial)) (fun _ => trivial)))
    refine nlp2_i (fun k _ => 0 ≤ k ∧ k ≤ m') (fun k _ => (m' - k).toNat) ?_ ⟨by omega, by omega⟩
    intro k be2 hk self2 hself2
    exact cB_i (fun _ => trivial) (fun _ => wO_i (by (try simp only [inb]); omega) (wO_i (by (try simp only [inb]); omega) (wO_i (by (try simp only [iR]); omega) (hself2 _ _ ⟨by omega, by omega⟩ (by omega)))))
