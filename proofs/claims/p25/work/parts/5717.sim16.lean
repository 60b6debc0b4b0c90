/-! IN STEP 17: the ways, counted by both -/
theorem sumN_s {f : Int → Int} {c : Int} (h : 0 ≤ c) : sumN f (c + 1).toNat = sumN f c.toNat + f c := by
  have e : (c + 1).toNat = c.toNat + 1 := by omega
  rw [e]
  show sumN f c.toNat + f ((c.toNat : Nat) : Int) = _
  rw [Int.toNat_of_nonneg h]
theorem so_addWays {k set t M : Int} {F W : Int → Int} {Q : (Int → Int) → Prop} (hk : 0 ≤ k ∧ k ≤ 6) (hs : 0 ≤ set ∧ set < ishl 1 k) (ht : 0 ≤ t ∧ t < 16) (hM : 0 ≤ M ∧ M ≤ 1000000000000000000) (hW : ∀ s, 0 ≤ s → s ≤ set → 0 ≤ W s ∧ W s ≤ M) (h : ∀ W', (∀ s, s ≠ set → W' s = W s) → W' set = W set + sumN (fun c => if bit set c = true ∧ bit (F c) t = true then W (ixor set (ishl 1 c)) else 0) k.toNat → Q W') : nf_Matching_addWays k F W set t Q := by
  unfold nf_Matching_addWays
  simp only [ci_m1, ci_m10, ci_m1001, ci_m1002, ci_m1003, ci_m1004, ci_0, ci_1, ci_10, ci_100, ci_1000, ci_10000, ci_101, ci_103, ci_104, ci_105, ci_107, ci_108, ci_110, ci_111, ci_114, ci_115, ci_116, ci_118, ci_119, ci_12, ci_122, ci_1431655765, ci_15, ci_16, ci_2, ci_20, ci_23, ci_24, ci_240, ci_252645135, ci_255, ci_256, ci_3, ci_32, ci_4, ci_420, ci_48, ci_5, ci_5040, ci_57, ci_59, ci_6, ci_60, ci_63, ci_64, ci_7, ci_70, ci_8, ci_858993459, ci_9, ci_900, ci_97, ci_99, ci_999, ci_9999, cl_0, cl_1, cl_10, cl_1000000000000, cl_122, cl_2, cl_2000000000000, cl_23, cl_255, cl_27, cl_3, cl_4, cl_48, cl_57, cl_6, cl_8, cl_96, cl_97, cl_99, cl_999, cl_9999]
  have hb := ishl_bI (k := k) hk.1 (by omega)
  have h00 := hW set hs.1 (by omega)
  have hx : ∀ c, 0 ≤ c → c < k → bit set c = true → 0 ≤ ixor set (ishl 1 c) ∧ ixor set (ishl 1 c) < set := fun c c0 c1 q => by
    have x1 := xor_bI (k := k) (c := c) (a := set) (by omega) c0 c1 hs.1 hs.2
    have x2 := xor_lI c0 (by omega) hs.1 (by omega) ((bt1 c0 (by omega)).mpr q)
    exact ⟨x1.1, x2⟩
  have hterm : ∀ c, 0 ≤ c → c < k → 0 ≤ (if bit set c = true ∧ bit (F c) t = true then W (ixor set (ishl 1 c)) else 0) ∧ (if bit set c = true ∧ bit (F c) t = true then W (ixor set (ishl 1 c)) else 0) ≤ M := fun c c0 c1 => by
    by_cases g : bit set c = true ∧ bit (F c) t = true
    · rw [if_pos g]
      have := hx c c0 c1 g.1
      exact hW _ this.1 (by omega)
    · rw [if_neg g]; omega
  generalize hG : (fun c => if bit set c = true ∧ bit (F c) t = true then W (ixor set (ishl 1 c)) else 0) = G at h
  have hterm2 : ∀ c, 0 ≤ c → c < k → 0 ≤ G c ∧ G c ≤ M := fun c c0 c1 => by
    rw [← hG]; exact hterm c c0 c1
  refine nlp2_i (fun c W' => 0 ≤ c ∧ c ≤ k ∧ (∀ s, s ≠ set → W' s = W s) ∧ W' set = W set + sumN G c.toNat) (fun c _ => (k - c).toNat) ?_ ⟨by omega, by omega, fun _ _ => rfl, by show W set = W set + 0; omega⟩
  intro c W' hi self hself
  obtain ⟨i1, i2, i3, i4⟩ := hi
  refine cB_i (fun _ => h _ i3 (by rw [i4, show c = k by omega])) (fun hc => wL_i (wL_i ?_))
  have b1 := sumN_b (f := G) (M := M) c.toNat (fun j hj => hterm2 j (by omega) (by omega))
  have b0 := sumN_nn (f := G) c.toNat (fun j hj => (hterm2 j (by omega) (by omega)).1)
  rw [show ((c.toNat : Nat) : Int) = c by omega] at b1
  have b2 : M * c ≤ M * 6 := Int.mul_le_mul_of_nonneg_left (by omega) hM.1
  have gc := hterm2 c i1 (by omega)
  have nx : ∀ W2 : Int → Int, (∀ s, s ≠ set → W2 s = W s) → W2 set = W' set + G c → self (c + 1) W2 := fun W2 a b => hself _ _ ⟨by omega, by omega, a, by rw [b, i4, sumN_s i1]; omega⟩ (by omega)
  have btS := bt1 (x := set) i1 (show c < 32 by omega)
  have btF := bt1 (x := F c) ht.1 (show t < 32 by omega)
  refine jn1_s (fun t6 => (t6 = 0 ∧ ¬ (bit set c = true ∧ bit (F c) t = true)) ∨ (t6 = 1 ∧ bit set c = true ∧ bit (F c) t = true)) (fun t6 ht => jn1_i (cB_i (fun e => wO_i (by simp only [iR]; omega) (nx W' i3 ?_)) (fun h6 => ?_))) ?_
  · rcases ht with ⟨_, q⟩ | ⟨q, _⟩
    · rw [← hG]; dsimp only; rw [if_neg q]; omega
    · omega
  · rcases ht with ⟨q, _⟩ | ⟨_, q1, q2⟩
    · exact absurd q h6
    · have x1 := hx c i1 (by omega) q1
      have w1 := hW (ixor set (ishl 1 c)) x1.1 (by omega)
      have w2 := i3 (ixor set (ishl 1 c)) (by omega)
      have e : G c = W (ixor set (ishl 1 c)) := by rw [← hG]; exact if_pos ⟨q1, q2⟩
      refine wO_i (by simp only [inb]; omega) (wL_i (wL_i (wO_i (by simp only [inb]; omega) (wO_i (by simp only [lR]; omega) (wO_i (by simp only [inb]; omega) (wO_i (by simp only [iR]; omega) (nx _ (fun s hs2 => ?_) ?_)))))))
      · rw [ups_n hs2]; exact i3 s hs2
      · rw [ups_s, w2, e]
  · refine jn0_s (¬ (bit set c = true ∧ bit (F c) t = true)) (fun q => Or.inl ⟨rfl, q⟩) (cB_i (fun h1 => wO_i (by simp only [inb]; omega) (wL_i (wL_i (cB_i (fun h2 => Or.inr ⟨rfl, btS.mp h1, btF.mp h2⟩) (fun h2 => fun q => h2 (btF.mpr q.2)))))) (fun h1 => fun q => h1 (btS.mpr q.1)))
theorem so_number {k : Int} {F W : Int → Int} {Q : Int → (Int → Int) → Prop} (hk : 0 ≤ k ∧ k ≤ 6) (h : ∀ W', Q (ww k.toNat (fun c t => bit (F c) t) 16 (ishl 1 k - 1)) W') : nf_Matching_number k F W Q := by
  unfold nf_Matching_number
  simp only [ci_m1, ci_m10, ci_m1001, ci_m1002, ci_m1003, ci_m1004, ci_0, ci_1, ci_10, ci_100, ci_1000, ci_10000, ci_101, ci_103, ci_104, ci_105, ci_107, ci_108, ci_110, ci_111, ci_114, ci_115, ci_116, ci_118, ci_119, ci_12, ci_122, ci_1431655765, ci_15, ci_16, ci_2, ci_20, ci_23, ci_24, ci_240, ci_252645135, ci_255, ci_256, ci_3, ci_32, ci_4, ci_420, ci_48, ci_5, ci_5040, ci_57, ci_59, ci_6, ci_60, ci_63, ci_64, ci_7, ci_70, ci_8, ci_858993459, ci_9, ci_900, ci_97, ci_99, ci_999, ci_9999, cl_0, cl_1, cl_10, cl_1000000000000, cl_122, cl_2, cl_2000000000000, cl_23, cl_255, cl_27, cl_3, cl_4, cl_48, cl_57, cl_6, cl_8, cl_96, cl_97, cl_99, cl_999, cl_9999]
  have hb := ishl_bI (k := k) hk.1 (by omega)
  refine wL_i (wO_i (by simp only [iR]; omega) ?_)
  refine nlp2_i (fun th c => 0 ≤ c ∧ c ≤ k ∧ ∀ t, 0 ≤ t → t < 32 → bit th t = false → ∀ j, 0 ≤ j → j < c → bit (F j) t = false) (fun _ c => (k - c).toNat) ?_ ⟨by omega, by omega, by omega⟩
  intro th c hi self hself
  obtain ⟨t1, t2, t3⟩ := hi
  refine cB_i (fun _ => ?_) (fun _ => ?_)
  · refine nlp2_i (fun s W' => 0 ≤ s ∧ s ≤ ishl 1 k ∧ ∀ q, 0 ≤ q → q < s → W' q = 0) (fun s _ => (ishl 1 k - s).toNat) ?_ ⟨by omega, by omega, by omega⟩
    intro s W1 hi1 self1 hself1
    obtain ⟨a1, a2, a3⟩ := hi1
    refine cB_i (fun _ => ?_) (fun _ => ?_)
    · refine wO_i (by simp only [inb]; omega) ?_
      refine nlp2_i (fun t W' => 0 ≤ t ∧ t ≤ 16 ∧ ∀ q, 0 ≤ q → q < ishl 1 k → W' q = ww k.toNat (fun c t => bit (F c) t) t.toNat q) (fun t _ => (16 - t).toNat) ?_ ⟨by omega, by omega, fun q q1 q2 => ?_⟩
      · intro t W2 hi2 self2 hself2
        obtain ⟨b1, b2, b3⟩ := hi2
        have hp := p7_b t.toNat (by omega)
        have et : (t + 1).toNat = t.toNat + 1 := by omega
        have et2 : ((t.toNat : Nat) : Int) = t := by omega
        refine cB_i (fun _ => ?_) (fun ht16 => wL_i (wL_i ?_))
        · have := b3 (ishl 1 k - 1) (by omega) (by omega)
          refine wO_i (by simp only [inb]; omega) ?_
          rw [this, show t = 16 by omega]
          exact h _
        · have bt0 := bt (x := th) b1 (show t < 32 by omega)
          refine jn1_s (fun W' => ∀ q, 0 ≤ q → q < ishl 1 k → W' q = ww k.toNat (fun c t => bit (F c) t) (t.toNat + 1) q) (fun W' hW' => wO_i (by simp only [iR]; omega) (hself2 _ _ ⟨by omega, by omega, fun q q0 q1 => by rw [et]; exact hW' q q0 q1⟩ (by omega))) ?_
          refine cB_i (fun e q q1 q2 => ?_) (fun _ => ?_)
          · have eb : bit th t = false := by
              cases hbb : bit th t
              · rfl
              · rw [bt0, hbb] at e; exact absurd e (by decide)
            rw [b3 q q1 q2, ww_s, sumN_0 k.toNat (fun j hj => ?_)]
            · omega
            · rw [et2, t3 t b1 (by omega) eb j (by omega) (by omega), if_neg (by simp)]
          · refine nlp2_i (fun s W' => 0 ≤ s ∧ s < ishl 1 k ∧ (∀ q, 0 ≤ q → q ≤ s → W' q = ww k.toNat (fun c t => bit (F c) t) t.toNat q) ∧ (∀ q, s < q → q < ishl 1 k → W' q = ww k.toNat (fun c t => bit (F c) t) (t.toNat + 1) q)) (fun s _ => s.toNat) ?_ ⟨by omega, by omega, fun q q1 q2 => b3 q q1 (by omega), by omega⟩
            intro s3 W3 hi3 self3 hself3
            obtain ⟨c1, c2, c3, c4⟩ := hi3
            have w0 : ww k.toNat (fun c t => bit (F c) t) (t.toNat + 1) 0 = ww k.toNat (fun c t => bit (F c) t) t.toNat 0 := by
              rw [ww_s, sumN_0 k.toNat (fun j hj => ?_)]
              · omega
              · rw [bt_0, if_neg (by simp)]
            refine cB_i (fun hz q q1 q2 => ?_) (fun hz => ?_)
            · by_cases e : q ≤ s3
              · have e0 : q = 0 := by omega
                rw [c3 q q1 e, e0, w0]
              · exact c4 q (by omega) q2
            · refine so_addWays hk ⟨by omega, c2⟩ ⟨b1, by omega⟩ (M := p7 t.toNat) ⟨by omega, by omega⟩ (fun q q1 q2 => by rw [c3 q q1 q2]; exact ⟨ww_n _ _ _ _, ww_p (by omega) _ _ _⟩) (fun W4 d1 d2 => ?_)
              refine wO_i (by simp only [iR]; omega) (hself3 _ _ ⟨by omega, by omega, fun q q1 q2 => ?_, fun q q1 q2 => ?_⟩ (by omega))
              · rw [d1 q (by omega)]
                exact c3 q q1 (by omega)
              · by_cases e : q = s3
                · rw [e, d2, c3 s3 (by omega) (by omega), ww_s]
                  congr 1
                  refine sumN_c k.toNat (fun j hj => ?_)
                  rw [et2]
                  by_cases g : bit s3 j = true ∧ bit (F j) t = true
                  · rw [if_pos g, if_pos g]
                    have x1 := xor_bI (k := k) (c := j) (a := s3) (by omega) (by omega) (by omega) (by omega) c2
                    have x2 := xor_lI (c := j) (a := s3) (by omega) (by omega) (by omega) (by omega) ((bt1 (by omega) (by omega)).mpr g.1)
                    exact c3 _ x1.1 (by omega)
                  · rw [if_neg g, if_neg g]
                · rw [d1 q e]
                  exact c4 q (by omega) q2
      · show (if q = 0 then (1 : Int) else W1 q) = if q = 0 then 1 else 0
        by_cases e : q = 0
        · rw [if_pos e, if_pos e]
        · rw [if_neg e, if_neg e, a3 q q1 (by omega)]
    · refine wO_i (by simp only [inb]; omega) (wO_i (by simp only [iR]; omega) (hself1 _ _ ⟨by omega, by omega, fun q q1 q2 => ?_⟩ (by omega)))
      show (if q = s then (0 : Int) else W1 q) = 0
      by_cases e : q = s
      · rw [if_pos e]
      · rw [if_neg e]; exact a3 q q1 (by omega)
  · refine wO_i (by simp only [inb]; omega) (wL_i (wO_i (by simp only [iR]; omega) (hself _ _ ⟨by omega, by omega, fun t t0 t1' q j j0 j1 => ?_⟩ (by omega))))
    rw [bt_ior, Bool.or_eq_false_iff] at q
    by_cases e : j = c
    · rw [e]; exact q.2
    · exact t3 t t0 t1' q.1 j j0 (by omega)
theorem sm_fitsOf {pg c : Int} {pk hg ki mk cg cy cn : Int → Int} {Q : Int → Prop} (hpg : 0 ≤ pg ∧ pg ≤ 24) (hh : ∀ p, 0 ≤ p → p < 24 → -1 ≤ hg p ∧ hg p < 16) (hcg : ∀ c, 0 ≤ c → c < 6 → 0 ≤ cg c ∧ cg c < 16) (hc : 0 ≤ c ∧ c < 6) (h : ∀ r, iR r → (∀ t, 0 ≤ t → t < 32 → (bit r t = true ↔ fitM pg pk hg mk (ki (cg c)) (cy c) (cn c) t)) → Q r) : nf_M_fitsOf pg pk hg ki mk cg cy cn c Q := by
  unfold nf_M_fitsOf
  have := hcg c hc.1 hc.2
  exact wO_i (by simp only [inb]; omega) (wO_i (by simp only [inb]; omega) (wO_i (by simp only [inb]; omega) (wO_i (by simp only [inb]; omega) (sm_fitting hpg hh h))))
def fx (f : Int → Int → Bool) (x t : Int) : Int → Int → Bool := fun k g => f k g && (decide (x < 0) || (decide (k = x) == decide (g = t)))
theorem sm_waysWith {pg gu cl x t : Int} {f : Int → Int → Bool} {pk hg ki mk cg cy cn wt : Int → Int} {Q : Int → (Int → Int) → Prop} (hpg : 0 ≤ pg ∧ pg ≤ 24) (hgu : 0 ≤ gu ∧ gu ≤ 16) (hcl : 0 ≤ cl ∧ cl ≤ 6) (hh : ∀ p, 0 ≤ p → p < 24 → -1 ≤ hg p ∧ hg p < 16) (hcg : ∀ c, 0 ≤ c → c < 6 → 0 ≤ cg c ∧ cg c < 16) (hf : ∀ k t, 0 ≤ k → k < cl → 0 ≤ t → t < 16 → (f k t = true ↔ fitM pg pk hg mk (ki (cg k)) (cy k) (cn k) t)) (h : ∀ wt', Q (ww cl.toNat (fx f x t) gu.toNat (ishl 1 cl - 1)) wt') : nf_M_waysWith pg gu cl pk hg ki mk cg cy cn wt x t Q := by
  unfold nf_M_waysWith
  simp only [ci_m1, ci_m10, ci_m1001, ci_m1002, ci_m1003, ci_m1004, ci_0, ci_1, ci_10, ci_100, ci_1000, ci_10000, ci_101, ci_103, ci_104, ci_105, ci_107, ci_108, ci_110, ci_111, ci_114, ci_115, ci_116, ci_118, ci_119, ci_12, ci_122, ci_1431655765, ci_15, ci_16, ci_2, ci_20, ci_23, ci_24, ci_240, ci_252645135, ci_255, ci_256, ci_3, ci_32, ci_4, ci_420, ci_48, ci_5, ci_5040, ci_57, ci_59, ci_6, ci_60, ci_63, ci_64, ci_7, ci_70, ci_8, ci_858993459, ci_9, ci_900, ci_97, ci_99, ci_999, ci_9999, cl_0, cl_1, cl_10, cl_1000000000000, cl_122, cl_2, cl_2000000000000, cl_23, cl_255, cl_27, cl_3, cl_4, cl_48, cl_57, cl_6, cl_8, cl_96, cl_97, cl_99, cl_999, cl_9999]
  have hb := ishl_bI (k := cl) hcl.1 (by omega)
  generalize hF : fx f x t = F at h
  refine wL_i (wO_i (by simp only [iR]; omega) ?_)
  refine nlp2_i (fun s W => 0 ≤ s ∧ s ≤ ishl 1 cl ∧ ∀ q, 0 ≤ q → q < s → W q = if q = 0 then 1 else 0) (fun s _ => (ishl 1 cl - s).toNat) ?_ ⟨by omega, by omega, by omega⟩
  intro s W1 hi self hself
  obtain ⟨i1, i2, i3⟩ := hi
  refine cB_i (fun _ => ?_) (fun _ => ?_)
  · refine nlp2_i (fun g W => 0 ≤ g ∧ g ≤ gu ∧ ∀ q, 0 ≤ q → q < ishl 1 cl → W q = ww cl.toNat F g.toNat q) (fun g _ => (gu - g).toNat) ?_ ⟨by omega, by omega, fun q q0 q1 => i3 q q0 (by omega)⟩
    intro g W2 hj self2 hself2
    obtain ⟨j1, j2, j3⟩ := hj
    have hp := p7_b g.toNat (by omega)
    have et : (g + 1).toNat = g.toNat + 1 := by omega
    have et2 : ((g.toNat : Nat) : Int) = g := by omega
    refine cB_i (fun _ => ?_) (fun _ => ?_)
    · have := j3 (ishl 1 cl - 1) (by omega) (by omega)
      refine wO_i (by simp only [inb]; omega) ?_
      rw [this, show g = gu by omega]
      exact h _
    refine nlp2_i (fun s W => -1 ≤ s ∧ s < ishl 1 cl ∧ (∀ q, 0 ≤ q → q ≤ s → W q = ww cl.toNat F g.toNat q) ∧ (∀ q, 0 ≤ q → s < q → q < ishl 1 cl → W q = ww cl.toNat F (g.toNat + 1) q)) (fun s _ => (s + 1).toNat) ?_ ⟨by omega, by omega, fun q q0 q1 => j3 q q0 (by omega), by omega⟩
    intro s3 W3 hk self3 hself3
    obtain ⟨k1, k2, k3, k4⟩ := hk
    refine cB_i (fun _ => wO_i (by simp only [iR]; omega) (hself2 _ _ ⟨by omega, by omega, fun q q0 q1 => by rw [et]; exact k4 q q0 (by omega) q1⟩ (by omega))) (fun hs3 => ?_)
    have s30 := k3 s3 (by omega) (by omega)
    have hx : ∀ c, 0 ≤ c → c < cl → bit s3 c = true → 0 ≤ ixor s3 (ishl 1 c) ∧ ixor s3 (ishl 1 c) < s3 := fun c c0 c1 q => by
      have x1 := xor_bI (k := cl) (c := c) (a := s3) (by omega) c0 c1 (by omega) k2
      have x2 := xor_lI c0 (by omega) (by omega) (by omega) ((bt1 c0 (by omega)).mpr q)
      exact ⟨x1.1, x2⟩
    generalize hG : (fun k => if bit s3 k = true ∧ F k g = true then ww cl.toNat F g.toNat (ixor s3 (ishl 1 k)) else 0) = G
    have hterm : ∀ c, 0 ≤ G c ∧ G c ≤ p7 g.toNat := fun c => by
      rw [← hG]
      dsimp only
      by_cases q : bit s3 c = true ∧ F c g = true
      · rw [if_pos q]; exact ⟨ww_n _ _ _ _, ww_p (by omega) _ _ _⟩
      · rw [if_neg q]; omega
    have wn := ww_n cl.toNat F g.toNat s3
    have wp := ww_p (show cl.toNat ≤ 6 by omega) F g.toNat s3
    refine nlp2_i (fun k W => 0 ≤ k ∧ k ≤ cl ∧ (∀ q, q ≠ s3 → W q = W3 q) ∧ W s3 = ww cl.toNat F g.toNat s3 + sumN G k.toNat) (fun k _ => (cl - k).toNat) ?_ ⟨by omega, by omega, fun _ _ => rfl, by rw [s30]; show _ = _ + (0 : Int); omega⟩
    intro k W4 hm self4 hself4
    obtain ⟨m1, m2, m3, m4⟩ := hm
    have b1 := sumN_b (f := G) (M := p7 g.toNat) k.toNat (fun j _ => hterm j)
    have b0 := sumN_nn (f := G) k.toNat (fun j _ => (hterm j).1)
    rw [show ((k.toNat : Nat) : Int) = k by omega] at b1
    have b2 : p7 g.toNat * k ≤ p7 g.toNat * 6 := Int.mul_le_mul_of_nonneg_left (by omega) (by omega)
    refine cB_i (fun _ => wO_i (by simp only [iR]; omega) (hself3 _ _ ⟨by omega, by omega, fun q q0 q1 => ?_, fun q q0 q1 q2 => ?_⟩ (by omega))) (fun hkc => wL_i (wL_i ?_))
    · rw [m3 q (by omega)]; exact k3 q q0 (by omega)
    · by_cases e : q = s3
      · rw [e, m4, ww_s, show k = cl by omega, ← hG, et2]
      · rw [m3 q e]; exact k4 q q0 (by omega) q2
    · have btS := bt1 (x := s3) m1 (show k < 32 by omega)
      have gc := hterm k
      refine jn1_s (fun t20 => (t20 = 0 ∧ ¬ (bit s3 k = true ∧ f k g = true)) ∨ (t20 = 1 ∧ bit s3 k = true ∧ f k g = true)) (fun t20 ht20 => ?_) (jn0_s (¬ (bit s3 k = true ∧ f k g = true)) (fun q => Or.inl ⟨rfl, q⟩) (cB_i (fun e => sm_fitsOf hpg hh hcg ⟨m1, by omega⟩ (fun r _ hr => wL_i (wL_i (cB_i (fun e2 => Or.inr ⟨rfl, btS.mp e, ?_⟩) (fun e2 => fun q => e2 ?_))))) (fun e => fun q => e (btS.mpr q.1))))
      · refine jn1_s (fun t22 => (t22 = 0 ∧ ¬ (bit s3 k = true ∧ F k g = true)) ∨ (t22 = 1 ∧ bit s3 k = true ∧ F k g = true)) (fun t22 ht22 => wO_i (by simp only [inb]; omega) ?_) ?_
        · refine jn1_s (fun v => v = G k) (fun v hv => wO_i (by simp only [lR]; omega) (wO_i (by simp only [inb]; omega) (wO_i (by simp only [iR]; omega) (hself4 _ _ ⟨by omega, by omega, fun q hq => ?_, ?_⟩ (by omega))))) (cB_i (fun e => ?_) (fun e => ?_))
          · rw [ups_n hq]; exact m3 q hq
          · rw [ups_s, hv, m4, sumN_s m1]; omega
          · rcases ht22 with ⟨_, q⟩ | ⟨q, _⟩
            · rw [← hG]; exact (if_neg q).symm
            · omega
          · rcases ht22 with ⟨q, _⟩ | ⟨_, q1, q2⟩
            · exact absurd q e
            · have x1 := hx k m1 (by omega) q1
              refine wL_i (wL_i (wO_i (by simp only [inb]; omega) ?_))
              rw [m3 _ (by omega), k3 _ x1.1 (by omega), ← hG]
              exact (if_pos ⟨q1, q2⟩).symm
        · have eF : F k g = (f k g && (decide (x < 0) || (decide (k = x) == decide (g = t)))) := by rw [← hF]; rfl
          refine jn0_s (¬ (bit s3 k = true ∧ F k g = true)) (fun q => Or.inl ⟨rfl, q⟩) (cB_i (fun e => fun q => ?_) (fun e => ?_))
          · rcases ht20 with ⟨_, w⟩ | ⟨w, _⟩
            · rw [eF, Bool.and_eq_true] at q
              exact w ⟨q.1, q.2.1⟩
            · omega
          · have q : bit s3 k = true ∧ f k g = true := by
              rcases ht20 with ⟨w, _⟩ | ⟨_, w⟩
              · exact absurd w e
              · exact w
            refine jn0_s (bit s3 k = true ∧ F k g = true) (fun w => Or.inr ⟨rfl, w⟩) (cB_i (fun e1 => ⟨q.1, ?_⟩) (fun e1 => ?_))
            · rw [eF, q.2, decide_eq_true e1]; rfl
            · refine jn1_s (fun t35 => (t35 = 1 ∧ k = x) ∨ (t35 = 0 ∧ k ≠ x)) (fun t35 h35 => ?_) (cB_i (fun e2 => Or.inl ⟨rfl, e2⟩) (fun e2 => Or.inr ⟨rfl, e2⟩))
              refine jn1_s (fun t37 => (t37 = 1 ∧ g = t) ∨ (t37 = 0 ∧ g ≠ t)) (fun t37 h37 => ?_) (cB_i (fun e2 => Or.inl ⟨rfl, e2⟩) (fun e2 => Or.inr ⟨rfl, e2⟩))
              refine cB_i (fun e2 => ⟨q.1, ?_⟩) (fun e2 => fun w => ?_)
              · rw [eF, q.2, decide_eq_false e1]
                rcases h35 with ⟨a1, a2⟩ | ⟨a1, a2⟩ <;> rcases h37 with ⟨b1, b2⟩ | ⟨b1, b2⟩
                · rw [decide_eq_true a2, decide_eq_true b2]; rfl
                · omega
                · omega
                · rw [decide_eq_false a2, decide_eq_false b2]; rfl
              · have w2 := w.2
                rw [eF, q.2, decide_eq_false e1] at w2
                rcases h35 with ⟨a1, a2⟩ | ⟨a1, a2⟩ <;> rcases h37 with ⟨b1, b2⟩ | ⟨b1, b2⟩
                · omega
                · rw [decide_eq_true a2, decide_eq_false b2] at w2; exact absurd w2 (by decide)
                · rw [decide_eq_false a2, decide_eq_true b2] at w2; exact absurd w2 (by decide)
                · omega
      · exact (hf k g m1 (by omega) j1 (by omega)).mpr ((hr g j1 (by omega)).mp ((bt1 j1 (by omega)).mp e2))
      · exact (bt1 j1 (by omega)).mpr ((hr g j1 (by omega)).mpr ((hf k g m1 (by omega) j1 (by omega)).mp q.2))
  · refine jn1_s (fun v => v = if s = 0 then 1 else 0) (fun v hv => wO_i (by simp only [inb]; omega) (wO_i (by simp only [iR]; omega) (hself _ _ ⟨by omega, by omega, fun q q0 q1 => ?_⟩ (by omega)))) (cB_i (fun e => by rw [if_pos e]) (fun e => by rw [if_neg e]))
    by_cases e : q = s
    · rw [e, ups_s]; exact hv
    · rw [ups_n e]; exact i3 q q0 (by omega)
