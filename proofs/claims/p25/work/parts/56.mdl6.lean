/-! the model: keeping and going back -/
theorem im_e {im : Int → Int} {a b : Int} (h : a = b) : im a = im b := by rw [h]
theorem mF_c {gu ev cl ni gu' ev' cl' ni' : Int} {so ti ha hb hg er cg le so' ti' ha' hb' hg' er' cg' le' : Int → Int} (h : mF gu ev cl ni so ti ha hb hg er cg le) (e1 : gu' = gu) (e2 : ev' = ev) (e3 : cl' = cl) (e4 : ni' = ni) (a1 : ∀ g, 0 ≤ g → g < 16 → so' g = so g) (a2 : ∀ g, 0 ≤ g → g < 16 → ti' g = ti g) (a3 : ∀ g, 0 ≤ g → g < 16 → ha' g = ha g) (a4 : ∀ g, 0 ≤ g → g < 16 → hb' g = hb g) (a5 : ∀ p, 0 ≤ p → p < 24 → hg' p = hg p) (a6 : ∀ k, 0 ≤ k → k < 420 → er' k = er k) (a7 : ∀ c, 0 ≤ c → c < 6 → cg' c = cg c) (a8 : ∀ k, 0 ≤ k → k < 180 → le' k = le k) : mF gu' ev' cl' ni' so' ti' ha' hb' hg' er' cg' le' := by
  subst e1 e2 e3 e4
  obtain ⟨⟨s1, s2, s3, s4, s5, s6, s7, s8, s9⟩, h2, h3, h4, h5, h6, h7⟩ := h
  refine ⟨⟨s1, s2, fun g a b => ?_, fun g a b => ?_, fun p a b => ?_, fun p q a b c d e f => ?_, fun g k a b c d e f => ?_, fun p g a b c d e => ?_, fun g a b c => ⟨fun p d e => ?_, fun k d e => ?_⟩⟩, h2, h3, h4, fun e a b => ?_, fun c a b => ?_, fun k a b => ?_⟩
  · rw [a1 g a b, a2 g a b, a4 g a b]; exact s3 g a b
  · rw [a3 g a (by omega)]; exact s4 g a b
  · rw [a5 p a b]; exact s5 p a b
  · rw [a5 p a b] at e
    rw [a5 p a b, a5 q c d] at f
    exact s6 p q a b c d e f
  · rw [a3 g a (by omega)] at e
    rw [a3 g a (by omega), a3 k c (by omega)] at f
    exact s7 g k a b c d e f
  · rw [a5 p a b] at e
    rw [a5 p a b, a3 g c (by omega)]
    exact s8 p g a b c d e
  · rw [a4 g a (by omega)] at c
    rw [a5 p d e]
    exact (s9 g a b c).1 p d e
  · rw [a4 g a (by omega)] at c
    rw [a3 k d (by omega)]
    exact (s9 g a b c).2 k d e
  · rw [a6 (7 * e + 2) (by omega) (by omega)]; exact h5 e a b
  · rw [a7 c a b]; exact h6 c a b
  · rw [a8 k a b]; exact h7 k a b
def iv (hs gu ev cl ni : Int) (so ki ti mk br ha hb hg er cg cy cn pl we le : Int → Int) (k : Int) : Int :=
  if k = 0 then hs else if k = 1 then gu else if k = 2 then ev else if k = 3 then cl else if k = 4 then ni else
  if k < 117 then (if (k - 5) % 7 = 0 then so ((k - 5) / 7) else if (k - 5) % 7 = 1 then ki ((k - 5) / 7) else if (k - 5) % 7 = 2 then ti ((k - 5) / 7) else if (k - 5) % 7 = 3 then mk ((k - 5) / 7) else if (k - 5) % 7 = 4 then br ((k - 5) / 7) else if (k - 5) % 7 = 5 then ha ((k - 5) / 7) else hb ((k - 5) / 7)) else
  if k < 141 then hg (k - 117) else
  if k < 561 then er (k - 141) else
  if k < 579 then (if (k - 561) % 3 = 0 then cg ((k - 561) / 3) else if (k - 561) % 3 = 1 then cy ((k - 561) / 3) else cn ((k - 561) / 3)) else
  (if (k - 579) % 5 = 0 then pl ((k - 579) / 5) else if (k - 579) % 5 = 1 then we ((k - 579) / 5) else le (3 * ((k - 579) / 5) + ((k - 579) % 5 - 2)))
section IV
variable {hs gu ev cl ni k i : Int} {so ki ti mk br ha hb hg er cg cy cn pl we le : Int → Int}
theorem iv_0 (h : k = 0) : (iv hs gu ev cl ni so ki ti mk br ha hb hg er cg cy cn pl we le) k = hs := by
  unfold iv
  rw [if_pos h]
theorem iv_1 (h : k = 1) : (iv hs gu ev cl ni so ki ti mk br ha hb hg er cg cy cn pl we le) k = gu := by
  unfold iv
  rw [if_neg (by omega), if_pos h]
theorem iv_2 (h : k = 2) : (iv hs gu ev cl ni so ki ti mk br ha hb hg er cg cy cn pl we le) k = ev := by
  unfold iv
  rw [if_neg (by omega), if_neg (by omega), if_pos h]
theorem iv_3 (h : k = 3) : (iv hs gu ev cl ni so ki ti mk br ha hb hg er cg cy cn pl we le) k = cl := by
  unfold iv
  rw [if_neg (by omega), if_neg (by omega), if_neg (by omega), if_pos h]
theorem iv_4 (h : k = 4) : (iv hs gu ev cl ni so ki ti mk br ha hb hg er cg cy cn pl we le) k = ni := by
  unfold iv
  rw [if_neg (by omega), if_neg (by omega), if_neg (by omega), if_neg (by omega), if_pos h]
theorem iv_g0 (h : k = 5 + 7 * i) (h0 : 0 ≤ i) (h1 : i < 16) : (iv hs gu ev cl ni so ki ti mk br ha hb hg er cg cy cn pl we le) k = so i := by
  unfold iv
  rw [if_neg (by omega), if_neg (by omega), if_neg (by omega), if_neg (by omega), if_neg (by omega), if_pos (by omega), if_pos (by omega), show (k - 5) / 7 = i by omega]
theorem iv_g1 (h : k = 5 + 7 * i + 1) (h0 : 0 ≤ i) (h1 : i < 16) : (iv hs gu ev cl ni so ki ti mk br ha hb hg er cg cy cn pl we le) k = ki i := by
  unfold iv
  rw [if_neg (by omega), if_neg (by omega), if_neg (by omega), if_neg (by omega), if_neg (by omega), if_pos (by omega), if_neg (by omega), if_pos (by omega), show (k - 5) / 7 = i by omega]
theorem iv_g2 (h : k = 5 + 7 * i + 2) (h0 : 0 ≤ i) (h1 : i < 16) : (iv hs gu ev cl ni so ki ti mk br ha hb hg er cg cy cn pl we le) k = ti i := by
  unfold iv
  rw [if_neg (by omega), if_neg (by omega), if_neg (by omega), if_neg (by omega), if_neg (by omega), if_pos (by omega), if_neg (by omega), if_neg (by omega), if_pos (by omega), show (k - 5) / 7 = i by omega]
theorem iv_g3 (h : k = 5 + 7 * i + 3) (h0 : 0 ≤ i) (h1 : i < 16) : (iv hs gu ev cl ni so ki ti mk br ha hb hg er cg cy cn pl we le) k = mk i := by
  unfold iv
  rw [if_neg (by omega), if_neg (by omega), if_neg (by omega), if_neg (by omega), if_neg (by omega), if_pos (by omega), if_neg (by omega), if_neg (by omega), if_neg (by omega), if_pos (by omega), show (k - 5) / 7 = i by omega]
theorem iv_g4 (h : k = 5 + 7 * i + 4) (h0 : 0 ≤ i) (h1 : i < 16) : (iv hs gu ev cl ni so ki ti mk br ha hb hg er cg cy cn pl we le) k = br i := by
  unfold iv
  rw [if_neg (by omega), if_neg (by omega), if_neg (by omega), if_neg (by omega), if_neg (by omega), if_pos (by omega), if_neg (by omega), if_neg (by omega), if_neg (by omega), if_neg (by omega), if_pos (by omega), show (k - 5) / 7 = i by omega]
theorem iv_g5 (h : k = 5 + 7 * i + 5) (h0 : 0 ≤ i) (h1 : i < 16) : (iv hs gu ev cl ni so ki ti mk br ha hb hg er cg cy cn pl we le) k = ha i := by
  unfold iv
  rw [if_neg (by omega), if_neg (by omega), if_neg (by omega), if_neg (by omega), if_neg (by omega), if_pos (by omega), if_neg (by omega), if_neg (by omega), if_neg (by omega), if_neg (by omega), if_neg (by omega), if_pos (by omega), show (k - 5) / 7 = i by omega]
theorem iv_g6 (h : k = 5 + 7 * i + 6) (h0 : 0 ≤ i) (h1 : i < 16) : (iv hs gu ev cl ni so ki ti mk br ha hb hg er cg cy cn pl we le) k = hb i := by
  unfold iv
  rw [if_neg (by omega), if_neg (by omega), if_neg (by omega), if_neg (by omega), if_neg (by omega), if_pos (by omega), if_neg (by omega), if_neg (by omega), if_neg (by omega), if_neg (by omega), if_neg (by omega), if_neg (by omega), show (k - 5) / 7 = i by omega]
theorem iv_p (h : k = 117 + i) (h0 : 0 ≤ i) (h1 : i < 24) : (iv hs gu ev cl ni so ki ti mk br ha hb hg er cg cy cn pl we le) k = hg i := by
  unfold iv
  rw [if_neg (by omega), if_neg (by omega), if_neg (by omega), if_neg (by omega), if_neg (by omega), if_neg (by omega), if_pos (by omega), show k - 117 = i by omega]
theorem iv_e (h : k = 141 + i) (h0 : 0 ≤ i) (h1 : i < 420) : (iv hs gu ev cl ni so ki ti mk br ha hb hg er cg cy cn pl we le) k = er i := by
  unfold iv
  rw [if_neg (by omega), if_neg (by omega), if_neg (by omega), if_neg (by omega), if_neg (by omega), if_neg (by omega), if_neg (by omega), if_pos (by omega), show k - 141 = i by omega]
theorem iv_c0 (h : k = 561 + 3 * i) (h0 : 0 ≤ i) (h1 : i < 6) : (iv hs gu ev cl ni so ki ti mk br ha hb hg er cg cy cn pl we le) k = cg i := by
  unfold iv
  rw [if_neg (by omega), if_neg (by omega), if_neg (by omega), if_neg (by omega), if_neg (by omega), if_neg (by omega), if_neg (by omega), if_neg (by omega), if_pos (by omega), if_pos (by omega), show (k - 561) / 3 = i by omega]
theorem iv_c1 (h : k = 561 + 3 * i + 1) (h0 : 0 ≤ i) (h1 : i < 6) : (iv hs gu ev cl ni so ki ti mk br ha hb hg er cg cy cn pl we le) k = cy i := by
  unfold iv
  rw [if_neg (by omega), if_neg (by omega), if_neg (by omega), if_neg (by omega), if_neg (by omega), if_neg (by omega), if_neg (by omega), if_neg (by omega), if_pos (by omega), if_neg (by omega), if_pos (by omega), show (k - 561) / 3 = i by omega]
theorem iv_c2 (h : k = 561 + 3 * i + 2) (h0 : 0 ≤ i) (h1 : i < 6) : (iv hs gu ev cl ni so ki ti mk br ha hb hg er cg cy cn pl we le) k = cn i := by
  unfold iv
  rw [if_neg (by omega), if_neg (by omega), if_neg (by omega), if_neg (by omega), if_neg (by omega), if_neg (by omega), if_neg (by omega), if_neg (by omega), if_pos (by omega), if_neg (by omega), if_neg (by omega), show (k - 561) / 3 = i by omega]
theorem iv_n0 (h : k = 579 + 5 * i) (h0 : 0 ≤ i) : (iv hs gu ev cl ni so ki ti mk br ha hb hg er cg cy cn pl we le) k = pl i := by
  unfold iv
  rw [if_neg (by omega), if_neg (by omega), if_neg (by omega), if_neg (by omega), if_neg (by omega), if_neg (by omega), if_neg (by omega), if_neg (by omega), if_neg (by omega), if_pos (by omega), show (k - 579) / 5 = i by omega]
theorem iv_n1 (h : k = 579 + 5 * i + 1) (h0 : 0 ≤ i) : (iv hs gu ev cl ni so ki ti mk br ha hb hg er cg cy cn pl we le) k = we i := by
  unfold iv
  rw [if_neg (by omega), if_neg (by omega), if_neg (by omega), if_neg (by omega), if_neg (by omega), if_neg (by omega), if_neg (by omega), if_neg (by omega), if_neg (by omega), if_neg (by omega), if_pos (by omega), show (k - 579) / 5 = i by omega]
theorem iv_n2 {j : Int} (h : k = 579 + 5 * i + 2 + j) (h0 : 0 ≤ i) (hj : 0 ≤ j) (hj2 : j < 3) : (iv hs gu ev cl ni so ki ti mk br ha hb hg er cg cy cn pl we le) k = le (3 * i + j) := by
  unfold iv
  rw [if_neg (by omega), if_neg (by omega), if_neg (by omega), if_neg (by omega), if_neg (by omega), if_neg (by omega), if_neg (by omega), if_neg (by omega), if_neg (by omega), if_neg (by omega), if_neg (by omega), show 3 * ((k - 579) / 5) + ((k - 579) % 5 - 2) = 3 * i + j by omega]
theorem iv_n20 (h : k = 579 + 5 * i + 2) (h0 : 0 ≤ i) : (iv hs gu ev cl ni so ki ti mk br ha hb hg er cg cy cn pl we le) k = le (3 * i) := by
  rw [iv_n2 (j := 0) (by omega) h0 (by omega) (by omega), show 3 * i + 0 = 3 * i by omega]
end IV
def wB (b z : Int) (V im0 im : Int → Int) : Prop := (∀ k, 0 ≤ k → k < z - b → im (b + k) = V k) ∧ (∀ q, (q < b ∨ b + 900 ≤ q) → im q = im0 q)
theorem st_note {b z x : Int} {V im0 im : Int → Int} {Q : Int → (Int → Int) → Prop} (hb : 0 ≤ b ∧ b ≤ 900) (hz : b ≤ z ∧ z < b + 879) (hw : wB b z V im0 im) (hx : V (z - b) = x) (h : ∀ im', wB b (z + 1) V im0 im' → Q (z + 1) im') : nf_M_note z im x Q := by
  unfold nf_M_note
  simp only [ci_m1, ci_m10, ci_m1001, ci_m1002, ci_m1003, ci_m1004, ci_0, ci_1, ci_10, ci_100, ci_1000, ci_10000, ci_101, ci_103, ci_104, ci_105, ci_107, ci_108, ci_110, ci_111, ci_114, ci_115, ci_116, ci_118, ci_119, ci_12, ci_122, ci_1431655765, ci_15, ci_16, ci_2, ci_20, ci_23, ci_24, ci_240, ci_252645135, ci_255, ci_256, ci_3, ci_32, ci_4, ci_420, ci_48, ci_5, ci_5040, ci_57, ci_59, ci_6, ci_60, ci_63, ci_64, ci_7, ci_70, ci_8, ci_858993459, ci_9, ci_900, ci_97, ci_99, ci_999, ci_9999, cl_0, cl_1, cl_10, cl_1000000000000, cl_122, cl_2, cl_2000000000000, cl_23, cl_255, cl_27, cl_3, cl_4, cl_48, cl_57, cl_6, cl_8, cl_96, cl_97, cl_99, cl_999, cl_9999]
  refine wO_i (by simp only [inb]; omega) (wO_i (by simp only [iR]; omega) (h _ ⟨fun k a c => ?_, fun q hq => ?_⟩))
  · by_cases e : b + k = z
    · rw [e, ups_s, ← hx, show z - b = k by omega]
    · rw [ups_n e]; exact hw.1 k a (by omega)
  · rw [ups_n (by omega)]; exact hw.2 q hq
theorem st_noted {z : Int} {im : Int → Int} {Q : Int → Int → Prop} (hz : 0 ≤ z ∧ z < 1800) (h : Q (im z) (z + 1)) : nf_M_noted z im Q := by
  unfold nf_M_noted
  simp only [ci_m1, ci_m10, ci_m1001, ci_m1002, ci_m1003, ci_m1004, ci_0, ci_1, ci_10, ci_100, ci_1000, ci_10000, ci_101, ci_103, ci_104, ci_105, ci_107, ci_108, ci_110, ci_111, ci_114, ci_115, ci_116, ci_118, ci_119, ci_12, ci_122, ci_1431655765, ci_15, ci_16, ci_2, ci_20, ci_23, ci_24, ci_240, ci_252645135, ci_255, ci_256, ci_3, ci_32, ci_4, ci_420, ci_48, ci_5, ci_5040, ci_57, ci_59, ci_6, ci_60, ci_63, ci_64, ci_7, ci_70, ci_8, ci_858993459, ci_9, ci_900, ci_97, ci_99, ci_999, ci_9999, cl_0, cl_1, cl_10, cl_1000000000000, cl_122, cl_2, cl_2000000000000, cl_23, cl_255, cl_27, cl_3, cl_4, cl_48, cl_57, cl_6, cl_8, cl_96, cl_97, cl_99, cl_999, cl_9999]
  refine wO_i (by simp only [iR]; omega) (wO_i (by simp only [iR]; omega) (wO_i (by simp only [inb]; omega) ?_))
  rw [show z + 1 - 1 = z by omega]
  exact h
theorem st_mkeep {hs gu ni ev cl ia x1 : Int} {hg so ki ti mk br ha hb pl we le er cg cy cn im ik : Int → Int} {Q : Int → Int → (Int → Int) → (Int → Int) → Prop} (h0 : ¬ (0 ≤ x1 ∧ x1 ≤ 1) → Q (-1001) ia im ik) (h1 : 0 ≤ x1 ∧ x1 ≤ 1 → ∀ z im', wB (900 * x1) (900 * x1 + 879) (iv hs gu ev cl ni so ki ti mk br ha hb hg er cg cy cn pl we le) im im' → Q 1 z im' (ups ik x1 1)) : nf_M_keep hs gu ni ev cl ia hg so ki ti mk br ha hb pl we le er cg cy cn im ik x1 Q := by
  unfold nf_M_keep
  simp only [ci_m1, ci_m10, ci_m1001, ci_m1002, ci_m1003, ci_m1004, ci_0, ci_1, ci_10, ci_100, ci_1000, ci_10000, ci_101, ci_103, ci_104, ci_105, ci_107, ci_108, ci_110, ci_111, ci_114, ci_115, ci_116, ci_118, ci_119, ci_12, ci_122, ci_1431655765, ci_15, ci_16, ci_2, ci_20, ci_23, ci_24, ci_240, ci_252645135, ci_255, ci_256, ci_3, ci_32, ci_4, ci_420, ci_48, ci_5, ci_5040, ci_57, ci_59, ci_6, ci_60, ci_63, ci_64, ci_7, ci_70, ci_8, ci_858993459, ci_9, ci_900, ci_97, ci_99, ci_999, ci_9999, cl_0, cl_1, cl_10, cl_1000000000000, cl_122, cl_2, cl_2000000000000, cl_23, cl_255, cl_27, cl_3, cl_4, cl_48, cl_57, cl_6, cl_8, cl_96, cl_97, cl_99, cl_999, cl_9999]
  refine wL_i (sp_in (cB_i (fun a1 => cB_f (by decide) ?_) (fun a1 => cB_t rfl (h0 a1))))
  have h1 := h1 a1
  refine wO_i (by simp only [iR]; omega) ?_
  have hb9 : 0 ≤ 900 * x1 ∧ 900 * x1 ≤ 900 := by omega
  have hix : inb x1 2 := by simp only [inb]; omega
  generalize 900 * x1 = b at *
  have w0 : wB b b (iv hs gu ev cl ni so ki ti mk br ha hb hg er cg cy cn pl we le) im im := ⟨fun k a c => by omega, fun _ _ => rfl⟩
  refine st_note hb9 ⟨by omega, by omega⟩ w0 (iv_0 (by omega)) (fun im1 w1 => ?_)
  refine st_note hb9 ⟨by omega, by omega⟩ w1 (iv_1 (by omega)) (fun im2 w2 => ?_)
  refine st_note hb9 ⟨by omega, by omega⟩ w2 (iv_2 (by omega)) (fun im3 w3 => ?_)
  refine st_note hb9 ⟨by omega, by omega⟩ w3 (iv_3 (by omega)) (fun im4 w4 => ?_)
  refine st_note hb9 ⟨by omega, by omega⟩ w4 (iv_4 (by omega)) (fun im5 w5 => ?_)
  refine nlp3_i (fun i z I => 0 ≤ i ∧ i ≤ 16 ∧ z = b + 5 + 7 * i ∧ wB b z (iv hs gu ev cl ni so ki ti mk br ha hb hg er cg cy cn pl we le) im I) (fun i _ _ => (16 - i).toNat) ?_ ⟨by omega, by omega, by omega, w5⟩
  intro i z I hi self hself
  obtain ⟨i1, i2, i3, i4⟩ := hi
  refine cB_i (fun _ => ?_) (fun _ => ?_)
  · refine nlp3_i (fun i z I => 0 ≤ i ∧ i ≤ 24 ∧ z = b + 117 + i ∧ wB b z (iv hs gu ev cl ni so ki ti mk br ha hb hg er cg cy cn pl we le) im I) (fun i _ _ => (24 - i).toNat) ?_ ⟨by omega, by omega, by omega, i4⟩
    intro j z2 I2 hj self2 hself2
    obtain ⟨j1, j2, j3, j4⟩ := hj
    refine cB_i (fun _ => ?_) (fun _ => ?_)
    · refine nlp3_i (fun i z I => 0 ≤ i ∧ i ≤ 420 ∧ z = b + 141 + i ∧ wB b z (iv hs gu ev cl ni so ki ti mk br ha hb hg er cg cy cn pl we le) im I) (fun i _ _ => (420 - i).toNat) ?_ ⟨by omega, by omega, by omega, j4⟩
      intro k z3 I3 hk self3 hself3
      obtain ⟨k1, k2, k3, k4⟩ := hk
      refine cB_i (fun _ => ?_) (fun _ => ?_)
      · refine nlp3_i (fun i z I => 0 ≤ i ∧ i ≤ 6 ∧ z = b + 561 + 3 * i ∧ wB b z (iv hs gu ev cl ni so ki ti mk br ha hb hg er cg cy cn pl we le) im I) (fun i _ _ => (6 - i).toNat) ?_ ⟨by omega, by omega, by omega, k4⟩
        intro c z4 I4 hc self4 hself4
        obtain ⟨c1, c2, c3, c4⟩ := hc
        refine cB_i (fun _ => ?_) (fun _ => ?_)
        · refine nlp3_i (fun i z I => 0 ≤ i ∧ i ≤ 60 ∧ z = b + 579 + 5 * i ∧ wB b z (iv hs gu ev cl ni so ki ti mk br ha hb hg er cg cy cn pl we le) im I) (fun i _ _ => (60 - i).toNat) ?_ ⟨by omega, by omega, by omega, c4⟩
          intro n z5 I5 hn self5 hself5
          obtain ⟨n1, n2, n3, n4⟩ := hn
          refine cB_i (fun _ => wO_i ⟨Or.inr rfl, hix⟩ ?_) (fun _ => ?_)
          · have : z5 = b + 879 := by omega
            rw [this] at n4
            exact h1 _ _ n4
          · have q1 : inb n 60 := by simp only [inb]; omega
            have q3 : inb (3 * n) 180 := by simp only [inb]; omega
            have q4 : inb (3 * n + 1) 180 := by simp only [inb]; omega
            have q5 : inb (3 * n + 2) 180 := by simp only [inb]; omega
            refine wO_i q1 (st_note hb9 ⟨by omega, by omega⟩ n4 (iv_n0 (i := n) (by omega) n1) (fun J1 v1 => ?_))
            refine wO_i q1 (st_note hb9 ⟨by omega, by omega⟩ v1 (iv_n1 (i := n) (by omega) n1) (fun J2 v2 => ?_))
            refine wO_i (by simp only [iR]; omega) (wO_i q3 (st_note hb9 ⟨by omega, by omega⟩ v2 (iv_n20 (i := n) (by omega) n1) (fun J3 v3 => ?_)))
            refine wO_i (by simp only [iR]; omega) (wO_i (by simp only [iR]; omega) (wO_i q4 (st_note hb9 ⟨by omega, by omega⟩ v3 (iv_n2 (i := n) (j := 1) (by omega) n1 (by omega) (by omega)) (fun J4 v4 => ?_))))
            refine wO_i (by simp only [iR]; omega) (wO_i (by simp only [iR]; omega) (wO_i q5 (st_note hb9 ⟨by omega, by omega⟩ v4 (iv_n2 (i := n) (j := 2) (by omega) n1 (by omega) (by omega)) (fun J5 v5 => ?_))))
            exact wO_i (by simp only [iR]; omega) (hself5 _ _ _ ⟨by omega, by omega, by omega, v5⟩ (by omega))
        · have q1 : inb c 6 := by simp only [inb]; omega
          refine wO_i q1 (st_note hb9 ⟨by omega, by omega⟩ c4 (iv_c0 (i := c) (by omega) c1 (by omega)) (fun J1 v1 => ?_))
          refine wO_i q1 (st_note hb9 ⟨by omega, by omega⟩ v1 (iv_c1 (i := c) (by omega) c1 (by omega)) (fun J2 v2 => ?_))
          refine wO_i q1 (st_note hb9 ⟨by omega, by omega⟩ v2 (iv_c2 (i := c) (by omega) c1 (by omega)) (fun J3 v3 => ?_))
          exact wO_i (by simp only [iR]; omega) (hself4 _ _ _ ⟨by omega, by omega, by omega, v3⟩ (by omega))
      · refine wO_i (by simp only [inb]; omega) (st_note hb9 ⟨by omega, by omega⟩ k4 (iv_e (i := k) (by omega) k1 (by omega)) (fun J1 v1 => ?_))
        exact wO_i (by simp only [iR]; omega) (hself3 _ _ _ ⟨by omega, by omega, by omega, v1⟩ (by omega))
    · refine wO_i (by simp only [inb]; omega) (st_note hb9 ⟨by omega, by omega⟩ j4 (iv_p (i := j) (by omega) j1 (by omega)) (fun J1 v1 => ?_))
      exact wO_i (by simp only [iR]; omega) (hself2 _ _ _ ⟨by omega, by omega, by omega, v1⟩ (by omega))
  · have q1 : inb i 16 := by simp only [inb]; omega
    refine wO_i q1 (st_note hb9 ⟨by omega, by omega⟩ i4 (iv_g0 (i := i) (by omega) i1 (by omega)) (fun J1 v1 => ?_))
    refine wO_i q1 (st_note hb9 ⟨by omega, by omega⟩ v1 (iv_g1 (i := i) (by omega) i1 (by omega)) (fun J2 v2 => ?_))
    refine wO_i q1 (st_note hb9 ⟨by omega, by omega⟩ v2 (iv_g2 (i := i) (by omega) i1 (by omega)) (fun J3 v3 => ?_))
    refine wO_i q1 (st_note hb9 ⟨by omega, by omega⟩ v3 (iv_g3 (i := i) (by omega) i1 (by omega)) (fun J4 v4 => ?_))
    refine wO_i q1 (st_note hb9 ⟨by omega, by omega⟩ v4 (iv_g4 (i := i) (by omega) i1 (by omega)) (fun J5 v5 => ?_))
    refine wO_i q1 (st_note hb9 ⟨by omega, by omega⟩ v5 (iv_g5 (i := i) (by omega) i1 (by omega)) (fun J6 v6 => ?_))
    refine wO_i q1 (st_note hb9 ⟨by omega, by omega⟩ v6 (iv_g6 (i := i) (by omega) i1 (by omega)) (fun J7 v7 => ?_))
    exact wO_i (by simp only [iR]; omega) (hself _ _ _ ⟨by omega, by omega, by omega, v7⟩ (by omega))
def mIm (b : Int) (im : Int → Int) : Prop := mF (im (b + 1)) (im (b + 2)) (im (b + 3)) (im (b + 4)) (fun g => im (b + 5 + 7 * g)) (fun g => im (b + 5 + 7 * g + 2)) (fun g => im (b + 5 + 7 * g + 5)) (fun g => im (b + 5 + 7 * g + 6)) (fun p => im (b + 117 + p)) (fun k => im (b + 141 + k)) (fun c => im (b + 561 + 3 * c)) (fun k => im (b + 579 + 5 * (k / 3) + 2 + k % 3))
theorem mIm_w {b hs gu ev cl ni : Int} {so ki ti mk br ha hb hg er cg cy cn pl we le im0 im : Int → Int} (hm : mF gu ev cl ni so ti ha hb hg er cg le) (hw : wB b (b + 879) (iv hs gu ev cl ni so ki ti mk br ha hb hg er cg cy cn pl we le) im0 im) : mIm b im := by
  obtain ⟨w, _⟩ := hw
  refine mF_c hm ?_ ?_ ?_ ?_ (fun g a c => ?_) (fun g a c => ?_) (fun g a c => ?_) (fun g a c => ?_) (fun g a c => ?_) (fun g a c => ?_) (fun g a c => ?_) (fun g a c => ?_)
  · rw [w 1 (by omega) (by omega), iv_1 rfl]
  · rw [w 2 (by omega) (by omega), iv_2 rfl]
  · rw [w 3 (by omega) (by omega), iv_3 rfl]
  · rw [w 4 (by omega) (by omega), iv_4 rfl]
  · show im (b + 5 + 7 * g) = so g
    rw [show b + 5 + 7 * g = b + (5 + 7 * g) by omega, w _ (by omega) (by omega), iv_g0 (i := g) rfl a c]
  · show im (b + 5 + 7 * g + 2) = ti g
    rw [show b + 5 + 7 * g + 2 = b + (5 + 7 * g + 2) by omega, w _ (by omega) (by omega), iv_g2 (i := g) rfl a c]
  · show im (b + 5 + 7 * g + 5) = ha g
    rw [show b + 5 + 7 * g + 5 = b + (5 + 7 * g + 5) by omega, w _ (by omega) (by omega), iv_g5 (i := g) rfl a c]
  · show im (b + 5 + 7 * g + 6) = hb g
    rw [show b + 5 + 7 * g + 6 = b + (5 + 7 * g + 6) by omega, w _ (by omega) (by omega), iv_g6 (i := g) rfl a c]
  · show im (b + 117 + g) = hg g
    rw [show b + 117 + g = b + (117 + g) by omega, w _ (by omega) (by omega), iv_p (i := g) rfl a c]
  · show im (b + 141 + g) = er g
    rw [show b + 141 + g = b + (141 + g) by omega, w _ (by omega) (by omega), iv_e (i := g) rfl a c]
  · show im (b + 561 + 3 * g) = cg g
    rw [show b + 561 + 3 * g = b + (561 + 3 * g) by omega, w _ (by omega) (by omega), iv_c0 (i := g) rfl a c]
  · show im (b + 579 + 5 * (g / 3) + 2 + g % 3) = le g
    rw [show b + 579 + 5 * (g / 3) + 2 + g % 3 = b + (579 + 5 * (g / 3) + 2 + g % 3) by omega, w _ (by omega) (by omega), iv_n2 (i := g / 3) (j := g % 3) rfl (by omega) (by omega) (by omega), show 3 * (g / 3) + g % 3 = g by omega]
theorem mIm_o {b : Int} {im im' : Int → Int} (hm : mIm b im) (hw : ∀ q, b ≤ q → q < b + 900 → im' q = im q) : mIm b im' :=
  mF_c hm (hw _ (by omega) (by omega)) (hw _ (by omega) (by omega)) (hw _ (by omega) (by omega)) (hw _ (by omega) (by omega)) (fun g a c => hw _ (by omega) (by omega)) (fun g a c => hw _ (by omega) (by omega)) (fun g a c => hw _ (by omega) (by omega)) (fun g a c => hw _ (by omega) (by omega)) (fun g a c => hw _ (by omega) (by omega)) (fun g a c => hw _ (by omega) (by omega)) (fun g a c => hw _ (by omega) (by omega)) (fun g a c => hw _ (by omega) (by omega))
theorem st_mgoBack {hs gu ni ev cl ia x1 : Int} {hg so ki ti mk br ha hb pl we le er cg cy cn im ik : Int → Int} {Q : Int → Int → Int → Int → Int → Int → (Int → Int) → (Int → Int) → (Int → Int) → (Int → Int) → (Int → Int) → (Int → Int) → (Int → Int) → (Int → Int) → (Int → Int) → (Int → Int) → (Int → Int) → (Int → Int) → (Int → Int) → (Int → Int) → (Int → Int) → Prop} (hm : mF gu ev cl ni so ti ha hb hg er cg le) (hk : ∀ x, 0 ≤ x → x ≤ 1 → ik x ≠ 0 → mIm (900 * x) im) (h : ∀ r gu' ni' ev' cl' z hg' so' ki' ti' mk' br' ha' hb' pl' we' le' er' cg' cy' cn', mF gu' ev' cl' ni' so' ti' ha' hb' hg' er' cg' le' → Q r gu' ni' ev' cl' z hg' so' ki' ti' mk' br' ha' hb' pl' we' le' er' cg' cy' cn') : nf_M_goBack hs gu ni ev cl ia hg so ki ti mk br ha hb pl we le er cg cy cn im ik x1 Q := by
  unfold nf_M_goBack
  simp only [ci_m1, ci_m10, ci_m1001, ci_m1002, ci_m1003, ci_m1004, ci_0, ci_1, ci_10, ci_100, ci_1000, ci_10000, ci_101, ci_103, ci_104, ci_105, ci_107, ci_108, ci_110, ci_111, ci_114, ci_115, ci_116, ci_118, ci_119, ci_12, ci_122, ci_1431655765, ci_15, ci_16, ci_2, ci_20, ci_23, ci_24, ci_240, ci_252645135, ci_255, ci_256, ci_3, ci_32, ci_4, ci_420, ci_48, ci_5, ci_5040, ci_57, ci_59, ci_6, ci_60, ci_63, ci_64, ci_7, ci_70, ci_8, ci_858993459, ci_9, ci_900, ci_97, ci_99, ci_999, ci_9999, cl_0, cl_1, cl_10, cl_1000000000000, cl_122, cl_2, cl_2000000000000, cl_23, cl_255, cl_27, cl_3, cl_4, cl_48, cl_57, cl_6, cl_8, cl_96, cl_97, cl_99, cl_999, cl_9999]
  refine wL_i (sp_in (cB_i (fun a1 => cB_f (by decide) ?_) (fun a1 => cB_t rfl (h _ _ _ _ _ _ _ _ _ _ _ _ _ _ _ _ _ _ _ _ _ hm))))
  refine wO_i (by simp only [iR]; omega) (wO_i (by simp only [inb]; omega) (cB_i (fun _ => h _ _ _ _ _ _ _ _ _ _ _ _ _ _ _ _ _ _ _ _ _ hm) (fun hne => ?_)))
  have hI := hk x1 a1.1 a1.2 hne
  have hb9 : 0 ≤ 900 * x1 ∧ 900 * x1 ≤ 900 := by omega
  generalize 900 * x1 = b at *
  refine st_noted ⟨by omega, by omega⟩ (cB_i (fun _ => ?_) (fun _ => h _ _ _ _ _ _ _ _ _ _ _ _ _ _ _ _ _ _ _ _ _ hm))
  refine st_noted ⟨by omega, by omega⟩ (st_noted ⟨by omega, by omega⟩ (st_noted ⟨by omega, by omega⟩ (st_noted ⟨by omega, by omega⟩ ?_)))
  refine nlp9_i (fun i z so' _ ti' _ _ ha' hb' => 0 ≤ i ∧ i ≤ 16 ∧ z = b + 5 + 7 * i ∧ (∀ g, 0 ≤ g → g < i → so' g = im (b + 5 + 7 * g)) ∧ (∀ g, 0 ≤ g → g < i → ti' g = im (b + 5 + 7 * g + 2)) ∧ (∀ g, 0 ≤ g → g < i → ha' g = im (b + 5 + 7 * g + 5)) ∧ (∀ g, 0 ≤ g → g < i → hb' g = im (b + 5 + 7 * g + 6))) (fun i _ _ _ _ _ _ _ _ => (16 - i).toNat) ?_ ⟨by omega, by omega, by omega, by omega, by omega, by omega, by omega⟩
  intro i z so1 ki1 ti1 mk1 br1 ha1 hb1 hi self hself
  obtain ⟨i1, i2, i3, i4, i5, i6, i7⟩ := hi
  refine cB_i (fun _ => ?_) (fun _ => ?_)
  · refine nlp3_i (fun i z hg' => 0 ≤ i ∧ i ≤ 24 ∧ z = b + 117 + i ∧ ∀ p, 0 ≤ p → p < i → hg' p = im (b + 117 + p)) (fun i _ _ => (24 - i).toNat) ?_ ⟨by omega, by omega, by omega, by omega⟩
    intro j z2 hg2 hj self2 hself2
    obtain ⟨j1, j2, j3, j4⟩ := hj
    refine cB_i (fun _ => ?_) (fun _ => ?_)
    · refine nlp3_i (fun i z er' => 0 ≤ i ∧ i ≤ 420 ∧ z = b + 141 + i ∧ ∀ p, 0 ≤ p → p < i → er' p = im (b + 141 + p)) (fun i _ _ => (420 - i).toNat) ?_ ⟨by omega, by omega, by omega, by omega⟩
      intro k z3 er3 hk3 self3 hself3
      obtain ⟨k1, k2, k3, k4⟩ := hk3
      refine cB_i (fun _ => ?_) (fun _ => ?_)
      · refine nlp5_i (fun i z cg' _ _ => 0 ≤ i ∧ i ≤ 6 ∧ z = b + 561 + 3 * i ∧ ∀ p, 0 ≤ p → p < i → cg' p = im (b + 561 + 3 * p)) (fun i _ _ _ _ => (6 - i).toNat) ?_ ⟨by omega, by omega, by omega, by omega⟩
        intro c z4 cg4 cy4 cn4 hc self4 hself4
        obtain ⟨c1, c2, c3, c4⟩ := hc
        refine cB_i (fun _ => ?_) (fun _ => ?_)
        · refine nlp5_i (fun i z _ _ le' => 0 ≤ i ∧ i ≤ 60 ∧ z = b + 579 + 5 * i ∧ ∀ p, 0 ≤ p → p < 3 * i → le' p = im (b + 579 + 5 * (p / 3) + 2 + p % 3)) (fun i _ _ _ _ => (60 - i).toNat) ?_ ⟨by omega, by omega, by omega, by omega⟩
          intro n z5 pl5 we5 le5 hn self5 hself5
          obtain ⟨n1, n2, n3, n4⟩ := hn
          refine cB_i (fun _ => ?_) (fun _ => ?_)
          · exact h _ _ _ _ _ _ _ _ _ _ _ _ _ _ _ _ _ _ _ _ _ (mF_c hI rfl (im_e (by omega)) (im_e (by omega)) (im_e (by omega)) (fun g a d => i4 g a (by omega)) (fun g a d => i5 g a (by omega)) (fun g a d => i6 g a (by omega)) (fun g a d => i7 g a (by omega)) (fun g a d => j4 g a (by omega)) (fun g a d => k4 g a (by omega)) (fun g a d => c4 g a (by omega)) (fun g a d => n4 g a (by omega)))
          · have q1 : inb n 60 := by simp only [inb]; omega
            have q3 : inb (3 * n) 180 := by simp only [inb]; omega
            have q4 : inb (3 * n + 1) 180 := by simp only [inb]; omega
            have q5 : inb (3 * n + 2) 180 := by simp only [inb]; omega
            refine st_noted ⟨by omega, by omega⟩ (wO_i q1 (st_noted ⟨by omega, by omega⟩ (wO_i q1 (wO_i (by simp only [iR]; omega) (st_noted ⟨by omega, by omega⟩ (wO_i q3 ?_))))))
            refine wO_i (by simp only [iR]; omega) (wO_i (by simp only [iR]; omega) (st_noted ⟨by omega, by omega⟩ (wO_i q4 ?_)))
            refine wO_i (by simp only [iR]; omega) (wO_i (by simp only [iR]; omega) (st_noted ⟨by omega, by omega⟩ (wO_i q5 ?_)))
            refine wO_i (by simp only [iR]; omega) (hself5 _ _ _ _ _ ⟨by omega, by omega, by omega, fun p a d => ?_⟩ (by omega))
            by_cases e2 : p = 3 * n + 2
            · rw [e2, ups_s]; exact im_e (by omega)
            · rw [ups_n e2]
              by_cases e1 : p = 3 * n + 1
              · rw [e1, ups_s]; exact im_e (by omega)
              · rw [ups_n e1]
                by_cases e0 : p = 3 * n
                · rw [e0, ups_s]; exact im_e (by omega)
                · rw [ups_n e0]; exact n4 p a (by omega)
        · have q1 : inb c 6 := by simp only [inb]; omega
          refine st_noted ⟨by omega, by omega⟩ (wO_i q1 (st_noted ⟨by omega, by omega⟩ (wO_i q1 (st_noted ⟨by omega, by omega⟩ (wO_i q1 ?_)))))
          refine wO_i (by simp only [iR]; omega) (hself4 _ _ _ _ _ ⟨by omega, by omega, by omega, fun p a d => ?_⟩ (by omega))
          by_cases e : p = c
          · rw [e, ups_s]; exact im_e (by omega)
          · rw [ups_n e]; exact c4 p a (by omega)
      · refine st_noted ⟨by omega, by omega⟩ (wO_i (by simp only [inb]; omega) (wO_i (by simp only [iR]; omega) (hself3 _ _ _ ⟨by omega, by omega, by omega, fun p a d => ?_⟩ (by omega))))
        by_cases e : p = k
        · rw [e, ups_s]; exact im_e (by omega)
        · rw [ups_n e]; exact k4 p a (by omega)
    · refine st_noted ⟨by omega, by omega⟩ (wO_i (by simp only [inb]; omega) (wO_i (by simp only [iR]; omega) (hself2 _ _ _ ⟨by omega, by omega, by omega, fun p a d => ?_⟩ (by omega))))
      by_cases e : p = j
      · rw [e, ups_s]; exact im_e (by omega)
      · rw [ups_n e]; exact j4 p a (by omega)
  · have q1 : inb i 16 := by simp only [inb]; omega
    refine st_noted ⟨by omega, by omega⟩ (wO_i q1 (st_noted ⟨by omega, by omega⟩ (wO_i q1 (st_noted ⟨by omega, by omega⟩ (wO_i q1 ?_)))))
    refine st_noted ⟨by omega, by omega⟩ (wO_i q1 (st_noted ⟨by omega, by omega⟩ (wO_i q1 (st_noted ⟨by omega, by omega⟩ (wO_i q1 (st_noted ⟨by omega, by omega⟩ (wO_i q1 ?_)))))))
    refine wO_i (by simp only [iR]; omega) (hself _ _ _ _ _ _ _ _ _ ⟨by omega, by omega, by omega, fun p a d => ?_, fun p a d => ?_, fun p a d => ?_, fun p a d => ?_⟩ (by omega))
    · by_cases e : p = i
      · rw [e, ups_s]; exact im_e (by omega)
      · rw [ups_n e]; exact i4 p a (by omega)
    · by_cases e : p = i
      · rw [e, ups_s]; exact im_e (by omega)
      · rw [ups_n e]; exact i5 p a (by omega)
    · by_cases e : p = i
      · rw [e, ups_s]; exact im_e (by omega)
      · rw [ups_n e]; exact i6 p a (by omega)
    · by_cases e : p = i
      · rw [e, ups_s]; exact im_e (by omega)
      · rw [ups_n e]; exact i7 p a (by omega)
theorem mIm_k {hs gu ev cl ni x1 : Int} {so ki ti mk br ha hb hg er cg cy cn pl we le im im' ik : Int → Int} (hx : 0 ≤ x1 ∧ x1 ≤ 1) (hm : mF gu ev cl ni so ti ha hb hg er cg le) (hw : wB (900 * x1) (900 * x1 + 879) (iv hs gu ev cl ni so ki ti mk br ha hb hg er cg cy cn pl we le) im im') (hk : ∀ x, 0 ≤ x → x ≤ 1 → ik x ≠ 0 → mIm (900 * x) im) : ∀ x, 0 ≤ x → x ≤ 1 → ups ik x1 1 x ≠ 0 → mIm (900 * x) im' := by
  intro x a b c
  by_cases e : x = x1
  · rw [e]; exact mIm_w hm hw
  · rw [ups_n e] at c
    exact mIm_o (hk x a b c) (fun q q0 q1 => hw.2 q (by omega))
