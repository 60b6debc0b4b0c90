/-! IN STEP 20: images; the hall told anew -/
theorem RS_c {pg gn en cn nn gu ev cl ni gu' ev' cl' ni' : Int} {pk gs gk gt gm gb gp gh ef cg cy cz nl so ki ti mk br ha hb hg er mg my mz pl we le so' ki' ti' mk' br' ha' hb' hg' er' mg' my' mz' pl' we' le' : Int → Int} (hb0 : gu ≤ 16 ∧ ev ≤ 60 ∧ cl ≤ 6 ∧ 0 ≤ ni ∧ ni ≤ 60) (hs : RS pg pk gn gs gk gt gm gb gp gh en ef cn cg cy cz nn nl gu so ki ti mk br ha hb hg ev er cl mg my mz ni pl we le) (e1 : gu' = gu) (e2 : ev' = ev) (e3 : cl' = cl) (e4 : ni' = ni) (a1 : ∀ g, 0 ≤ g → g < 16 → so' g = so g) (a2 : ∀ g, 0 ≤ g → g < 16 → ki' g = ki g) (a3 : ∀ g, 0 ≤ g → g < 16 → ti' g = ti g) (a4 : ∀ g, 0 ≤ g → g < 16 → mk' g = mk g) (a5 : ∀ g, 0 ≤ g → g < 16 → br' g = br g) (a6 : ∀ g, 0 ≤ g → g < 16 → ha' g = ha g) (a7 : ∀ g, 0 ≤ g → g < 16 → hb' g = hb g) (a8 : ∀ p, 0 ≤ p → p < 24 → hg' p = hg p) (a9 : ∀ k, 0 ≤ k → k < 420 → er' k = er k) (b1 : ∀ c, 0 ≤ c → c < 6 → mg' c = mg c) (b2 : ∀ c, 0 ≤ c → c < 6 → my' c = my c) (b3 : ∀ c, 0 ≤ c → c < 6 → mz' c = mz c) (b4 : ∀ n, 0 ≤ n → n < 60 → pl' n = pl n) (b5 : ∀ n, 0 ≤ n → n < 60 → we' n = we n) (b6 : ∀ k, 0 ≤ k → k < 180 → le' k = le k) : RS pg pk gn gs gk gt gm gb gp gh en ef cn cg cy cz nn nl gu' so' ki' ti' mk' br' ha' hb' hg' ev' er' cl' mg' my' mz' ni' pl' we' le' := by
  subst e1 e2 e3 e4
  obtain ⟨E0, G, ⟨P1, P2⟩, ⟨E1, E2, E3, E4, E5⟩, F, C, N⟩ := hs
  refine ⟨E0, fun g a b => ?_, ⟨fun g p a b c d => ?_, fun g a b => ?_⟩, ⟨fun g a b => ?_, fun e a b => ?_, fun e g a b c d => ?_, fun e a b c => ?_, fun e e' a b c d f1 f2 f3 => ?_⟩, fun k a b => ?_, fun c a b => ?_, fun p w k p0 p1 w0 w1 k0 k1 => ?_⟩
  · rw [a1 g a (by omega), a2 g a (by omega), a3 g a (by omega), a4 g a (by omega), a5 g a (by omega), a6 g a (by omega)]; exact G g a b
  · rw [a8 p c d]; exact P1 g p a b c d
  · rw [a2 g a (by omega)]; exact P2 g a b
  · rw [a7 g a (by omega)]; exact E1 g a b
  · rw [a9 _ (by omega) (by omega), a9 _ (by omega) (by omega), a9 _ (by omega) (by omega)]; exact E2 e a b
  · rw [a9 _ (by omega) (by omega), a9 _ (by omega) (by omega), a7 g c (by omega)]; exact E3 e g a b c d
  · rw [a9 _ (by omega) (by omega)] at c
    rw [a9 _ (by omega) (by omega)]
    have e2 := (E2 e a b).2.2.2.2 (by omega)
    have q := E4 e a b c
    exact ⟨by rw [a7 _ e2.1 (by omega)]; exact q.1, fun p p0 p1 => by rw [a8 p p0 p1]; exact q.2 p p0 p1⟩
  · rw [a9 _ (by omega) (by omega)] at f1 f2
    rw [a9 _ (by omega) (by omega), a9 _ (by omega) (by omega)] at f3
    exact E5 e e' a b c d f1 f2 f3
  · rw [a9 k a (by omega)]; exact F k a b
  · rw [b1 c a (by omega), b2 c a (by omega), b3 c a (by omega)]; exact C c a b
  · rw [N p w k p0 p1 w0 w1 k0 k1]
    refine sumN_c _ (fun n hn => ?_)
    rw [b4 n (by omega) (by omega), b5 n (by omega) (by omega), b6 _ (by omega) (by omega)]
theorem RS_hall {pg pg' gn en cn nn gu ev cl ni : Int} {pk pk' gs gk gt gm gb gp gh ef cg cy cz nl so ki ti mk br ha hb hg er mg my mz pl we le : Int → Int} (hpg : pg ≤ 24) (hm : mS gu so ti ha hb hg) (hev : ev ≤ 0) (hs : RS pg pk gn gs gk gt gm gb gp gh en ef cn cg cy cz nn nl gu so ki ti mk br ha hb hg ev er cl mg my mz ni pl we le) : RS pg' pk' gn gs gk gt gm gb gp gh en ef cn cg cy cz nn nl gu so ki ti mk br ha hb hg ev er cl mg my mz ni pl we le := by
  obtain ⟨E0, G, ⟨P1, P2⟩, ⟨E1, E2, E3, E4, E5⟩, F, C, N⟩ := hs
  refine ⟨E0, G, ⟨P1, fun g a b => ?_⟩, ⟨E1, E2, E3, E4, E5⟩, F, C, N⟩
  rcases P2 g a b with q | ⟨q1, q2, _⟩
  · exact Or.inl q
  · have h1 := (P1 g (gp g) a b q1 (by omega)).mp rfl
    have h2 := E1 g a b
    exact absurd h1 ((hm.2.2.2.2.2.2.2.2 g a b (by omega)).1 (gp g) q1 (by omega))
def RSb (pg : Int) (pk : Int → Int) (gn : Int) (gs gk gt gm gb gp gh : Int → Int) (en : Int) (ef : Int → Int) (cn : Int) (cg cy cz : Int → Int) (nn : Int) (nl : Int → Int) (b : Int) (im : Int → Int) : Prop := RS pg pk gn gs gk gt gm gb gp gh en ef cn cg cy cz nn nl (im (b + 1)) (fun g => im (b + 5 + 7 * g)) (fun g => im (b + 5 + 7 * g + 1)) (fun g => im (b + 5 + 7 * g + 2)) (fun g => im (b + 5 + 7 * g + 3)) (fun g => im (b + 5 + 7 * g + 4)) (fun g => im (b + 5 + 7 * g + 5)) (fun g => im (b + 5 + 7 * g + 6)) (fun p => im (b + 117 + p)) (im (b + 2)) (fun k => im (b + 141 + k)) (im (b + 3)) (fun c => im (b + 561 + 3 * c)) (fun c => im (b + 561 + 3 * c + 1)) (fun c => im (b + 561 + 3 * c + 2)) (im (b + 4)) (fun n => im (b + 579 + 5 * n)) (fun n => im (b + 579 + 5 * n + 1)) (fun k => im (b + 579 + 5 * (k / 3) + 2 + k % 3))
theorem mF_b {gu ev cl ni : Int} {so ti ha hb hg er cg le : Int → Int} (hm : mF gu ev cl ni so ti ha hb hg er cg le) : gu ≤ 16 ∧ ev ≤ 60 ∧ cl ≤ 6 ∧ 0 ≤ ni ∧ ni ≤ 60 := ⟨hm.1.2.1, hm.2.1.2, hm.2.2.1.2, hm.2.2.2.1.1, hm.2.2.2.1.2⟩
theorem RSb_w {pg gn en cn nn b hs gu ev cl ni : Int} {pk gs gk gt gm gb gp gh ef cg' cy' cz' nl so ki ti mk br ha hb hg er cg cy cn1 pl we le im0 im : Int → Int} (hm : mF gu ev cl ni so ti ha hb hg er cg le) (hR : RS pg pk gn gs gk gt gm gb gp gh en ef cn cg' cy' cz' nn nl gu so ki ti mk br ha hb hg ev er cl cg cy cn1 ni pl we le) (hw : wB b (b + 879) (iv hs gu ev cl ni so ki ti mk br ha hb hg er cg cy cn1 pl we le) im0 im) : RSb pg pk gn gs gk gt gm gb gp gh en ef cn cg' cy' cz' nn nl b im := by
  obtain ⟨w, _⟩ := hw
  refine RS_c (mF_b hm) hR ?_ ?_ ?_ ?_ (fun g a c => ?_) (fun g a c => ?_) (fun g a c => ?_) (fun g a c => ?_) (fun g a c => ?_) (fun g a c => ?_) (fun g a c => ?_) (fun g a c => ?_) (fun g a c => ?_) (fun g a c => ?_) (fun g a c => ?_) (fun g a c => ?_) (fun g a c => ?_) (fun g a c => ?_) (fun g a c => ?_)
  · rw [w 1 (by omega) (by omega), iv_1 rfl]
  · rw [w 2 (by omega) (by omega), iv_2 rfl]
  · rw [w 3 (by omega) (by omega), iv_3 rfl]
  · rw [w 4 (by omega) (by omega), iv_4 rfl]
  · show im (b + 5 + 7 * g) = so g
    rw [show b + 5 + 7 * g = b + (5 + 7 * g) by omega, w _ (by omega) (by omega), iv_g0 (i := g) rfl a c]
  · show im (b + 5 + 7 * g + 1) = ki g
    rw [show b + 5 + 7 * g + 1 = b + (5 + 7 * g + 1) by omega, w _ (by omega) (by omega), iv_g1 (i := g) rfl a c]
  · show im (b + 5 + 7 * g + 2) = ti g
    rw [show b + 5 + 7 * g + 2 = b + (5 + 7 * g + 2) by omega, w _ (by omega) (by omega), iv_g2 (i := g) rfl a c]
  · show im (b + 5 + 7 * g + 3) = mk g
    rw [show b + 5 + 7 * g + 3 = b + (5 + 7 * g + 3) by omega, w _ (by omega) (by omega), iv_g3 (i := g) rfl a c]
  · show im (b + 5 + 7 * g + 4) = br g
    rw [show b + 5 + 7 * g + 4 = b + (5 + 7 * g + 4) by omega, w _ (by omega) (by omega), iv_g4 (i := g) rfl a c]
  · show im (b + 5 + 7 * g + 5) = ha g
    rw [show b + 5 + 7 * g + 5 = b + (5 + 7 * g + 5) by omega, w _ (by omega) (by omega), iv_g5 (i := g) rfl a c]
  · show im (b + 5 + 7 * g + 6) = hb g
    rw [show b + 5 + 7 * g + 6 = b + (5 + 7 * g + 6) by omega, w _ (by omega) (by omega), iv_g6 (i := g) rfl a c]
  · show im (b + 117 + g) = hg g
    rw [show b + 117 + g = b + (117 + g) by omega, w _ (by omega) (by omega), iv_p (i := g) rfl a c]
  · show im (b + 141 + g) = er g
    rw [show b + 141 + g = b + (141 + g) by omega, w _ (by omega) (by omega), iv_e (i := g) rfl a c]
  · show im (b + 561 + 3 * g) = cg g
    rw [show b + 561 + 3 * g = b + (561 + 3 * g) by omega, w _ (by omega) (by omega), iv_c0 (i := g) rfl a c]
  · show im (b + 561 + 3 * g + 1) = cy g
    rw [show b + 561 + 3 * g + 1 = b + (561 + 3 * g + 1) by omega, w _ (by omega) (by omega), iv_c1 (i := g) rfl a c]
  · show im (b + 561 + 3 * g + 2) = cn1 g
    rw [show b + 561 + 3 * g + 2 = b + (561 + 3 * g + 2) by omega, w _ (by omega) (by omega), iv_c2 (i := g) rfl a c]
  · show im (b + 579 + 5 * g) = pl g
    rw [show b + 579 + 5 * g = b + (579 + 5 * g) by omega, w _ (by omega) (by omega), iv_n0 (i := g) rfl a]
  · show im (b + 579 + 5 * g + 1) = we g
    rw [show b + 579 + 5 * g + 1 = b + (579 + 5 * g + 1) by omega, w _ (by omega) (by omega), iv_n1 (i := g) rfl a]
  · show im (b + 579 + 5 * (g / 3) + 2 + g % 3) = le g
    rw [show b + 579 + 5 * (g / 3) + 2 + g % 3 = b + (579 + 5 * (g / 3) + 2 + g % 3) by omega, w _ (by omega) (by omega), iv_n2 (i := g / 3) (j := g % 3) rfl (by omega) (by omega) (by omega), show 3 * (g / 3) + g % 3 = g by omega]
theorem RSb_o {pg gn en cn nn b : Int} {pk gs gk gt gm gb gp gh ef cg' cy' cz' nl im im' : Int → Int} (hm : mIm b im) (hR : RSb pg pk gn gs gk gt gm gb gp gh en ef cn cg' cy' cz' nn nl b im) (hw : ∀ q, b ≤ q → q < b + 900 → im' q = im q) : RSb pg pk gn gs gk gt gm gb gp gh en ef cn cg' cy' cz' nn nl b im' :=
  RS_c (mF_b hm) hR (hw _ (by omega) (by omega)) (hw _ (by omega) (by omega)) (hw _ (by omega) (by omega)) (hw _ (by omega) (by omega)) (fun g a c => hw _ (by omega) (by omega)) (fun g a c => hw _ (by omega) (by omega)) (fun g a c => hw _ (by omega) (by omega)) (fun g a c => hw _ (by omega) (by omega)) (fun g a c => hw _ (by omega) (by omega)) (fun g a c => hw _ (by omega) (by omega)) (fun g a c => hw _ (by omega) (by omega)) (fun g a c => hw _ (by omega) (by omega)) (fun g a c => hw _ (by omega) (by omega)) (fun g a c => hw _ (by omega) (by omega)) (fun g a c => hw _ (by omega) (by omega)) (fun g a c => hw _ (by omega) (by omega)) (fun g a c => hw _ (by omega) (by omega)) (fun g a c => hw _ (by omega) (by omega)) (fun g a c => hw _ (by omega) (by omega))
def RI (kept ik v0 hs : Int) (P : Prop) : Prop := (kept ≠ 0 → P) ∧ (kept ≠ 0 ↔ (ik ≠ 0 ∧ v0 = hs))
theorem im_k {im : Int → Int} {a b : Int} (h : a = b) : im a = im b := by rw [h]
abbrev gbQ : Type := Int → Int → Int → Int → Int → Int → (Int → Int) → (Int → Int) → (Int → Int) → (Int → Int) → (Int → Int) → (Int → Int) → (Int → Int) → (Int → Int) → (Int → Int) → (Int → Int) → (Int → Int) → (Int → Int) → (Int → Int) → (Int → Int) → (Int → Int) → Prop
theorem sm_goBack {hs gu ni ev cl ia x1 : Int} {hg so ki ti mk br ha hb pl we le er cg cy cn im ik : Int → Int} {Q : gbQ} (h0 : ¬ (0 ≤ x1 ∧ x1 ≤ 1) → Q (-1001) gu ni ev cl ia hg so ki ti mk br ha hb pl we le er cg cy cn) (h1 : 0 ≤ x1 ∧ x1 ≤ 1 → ¬ (ik x1 ≠ 0 ∧ im (900 * x1) = hs) → ∀ ia', Q (-1003) gu ni ev cl ia' hg so ki ti mk br ha hb pl we le er cg cy cn) (h2 : 0 ≤ x1 ∧ x1 ≤ 1 → ik x1 ≠ 0 → im (900 * x1) = hs → ∀ z hg' so' ki' ti' mk' br' ha' hb' pl' we' le' er' cg' cy' cn', (∀ g, 0 ≤ g → g < 16 → so' g = im (900 * x1 + 5 + 7 * g)) → (∀ g, 0 ≤ g → g < 16 → ki' g = im (900 * x1 + 5 + 7 * g + 1)) → (∀ g, 0 ≤ g → g < 16 → ti' g = im (900 * x1 + 5 + 7 * g + 2)) → (∀ g, 0 ≤ g → g < 16 → mk' g = im (900 * x1 + 5 + 7 * g + 3)) → (∀ g, 0 ≤ g → g < 16 → br' g = im (900 * x1 + 5 + 7 * g + 4)) → (∀ g, 0 ≤ g → g < 16 → ha' g = im (900 * x1 + 5 + 7 * g + 5)) → (∀ g, 0 ≤ g → g < 16 → hb' g = im (900 * x1 + 5 + 7 * g + 6)) → (∀ p, 0 ≤ p → p < 24 → hg' p = im (900 * x1 + 117 + p)) → (∀ k, 0 ≤ k → k < 420 → er' k = im (900 * x1 + 141 + k)) → (∀ c, 0 ≤ c → c < 6 → cg' c = im (900 * x1 + 561 + 3 * c)) → (∀ c, 0 ≤ c → c < 6 → cy' c = im (900 * x1 + 561 + 3 * c + 1)) → (∀ c, 0 ≤ c → c < 6 → cn' c = im (900 * x1 + 561 + 3 * c + 2)) → (∀ n, 0 ≤ n → n < 60 → pl' n = im (900 * x1 + 579 + 5 * n)) → (∀ n, 0 ≤ n → n < 60 → we' n = im (900 * x1 + 579 + 5 * n + 1)) → (∀ k, 0 ≤ k → k < 180 → le' k = im (900 * x1 + 579 + 5 * (k / 3) + 2 + k % 3)) → Q 1 (im (900 * x1 + 1)) (im (900 * x1 + 4)) (im (900 * x1 + 2)) (im (900 * x1 + 3)) z hg' so' ki' ti' mk' br' ha' hb' pl' we' le' er' cg' cy' cn') : nf_M_goBack hs gu ni ev cl ia hg so ki ti mk br ha hb pl we le er cg cy cn im ik x1 Q := by
  unfold nf_M_goBack
  simp only [ci_m1, ci_m10, ci_m1001, ci_m1002, ci_m1003, ci_m1004, ci_0, ci_1, ci_10, ci_100, ci_1000, ci_10000, ci_101, ci_103, ci_104, ci_105, ci_107, ci_108, ci_110, ci_111, ci_114, ci_115, ci_116, ci_118, ci_119, ci_12, ci_122, ci_1431655765, ci_15, ci_16, ci_2, ci_20, ci_23, ci_24, ci_240, ci_252645135, ci_255, ci_256, ci_3, ci_32, ci_4, ci_420, ci_48, ci_5, ci_5040, ci_57, ci_59, ci_6, ci_60, ci_63, ci_64, ci_7, ci_70, ci_8, ci_858993459, ci_9, ci_900, ci_97, ci_99, ci_999, ci_9999, cl_0, cl_1, cl_10, cl_1000000000000, cl_122, cl_2, cl_2000000000000, cl_23, cl_255, cl_27, cl_3, cl_4, cl_48, cl_57, cl_6, cl_8, cl_96, cl_97, cl_99, cl_999, cl_9999]
  refine wL_i (sp_in (cB_i (fun a1 => cB_f (by decide) ?_) (fun a1 => cB_t rfl (h0 a1))))
  refine wO_i (by simp only [iR]; omega) (wO_i (by simp only [inb]; omega) (cB_i (fun e => h1 a1 (fun q => q.1 e) _) (fun hne => ?_)))
  have hb9 : 0 ≤ 900 * x1 ∧ 900 * x1 ≤ 900 := by omega
  have h1 := h1 a1
  have h2 := h2 a1 hne
  clear h0
  generalize 900 * x1 = b at *
  refine st_noted ⟨by omega, by omega⟩ (cB_i (fun hv => ?_) (fun hv => h1 (fun q => hv q.2) _))
  have h2 := h2 hv
  refine st_noted ⟨by omega, by omega⟩ (st_noted ⟨by omega, by omega⟩ (st_noted ⟨by omega, by omega⟩ (st_noted ⟨by omega, by omega⟩ ?_)))
  refine nlp9_i (fun i z so' ki' ti' mk' br' ha' hb' => 0 ≤ i ∧ i ≤ 16 ∧ z = b + 5 + 7 * i ∧ (∀ g, 0 ≤ g → g < i → so' g = im (b + 5 + 7 * g)) ∧ (∀ g, 0 ≤ g → g < i → ki' g = im (b + 5 + 7 * g + 1)) ∧ (∀ g, 0 ≤ g → g < i → ti' g = im (b + 5 + 7 * g + 2)) ∧ (∀ g, 0 ≤ g → g < i → mk' g = im (b + 5 + 7 * g + 3)) ∧ (∀ g, 0 ≤ g → g < i → br' g = im (b + 5 + 7 * g + 4)) ∧ (∀ g, 0 ≤ g → g < i → ha' g = im (b + 5 + 7 * g + 5)) ∧ (∀ g, 0 ≤ g → g < i → hb' g = im (b + 5 + 7 * g + 6))) (fun i _ _ _ _ _ _ _ _ => (16 - i).toNat) ?_ ⟨by omega, by omega, by omega, by omega, by omega, by omega, by omega, by omega, by omega, by omega⟩
  intro i z so1 ki1 ti1 mk1 br1 ha1 hb1 hi self hself
  obtain ⟨i1, i2, i3, s0, s1, s2, s3, s4, s5, s6⟩ := hi
  refine cB_i (fun _ => ?_) (fun _ => ?_)
  · refine nlp3_i (fun i z hg' => 0 ≤ i ∧ i ≤ 24 ∧ z = b + 117 + i ∧ ∀ p, 0 ≤ p → p < i → hg' p = im (b + 117 + p)) (fun i _ _ => (24 - i).toNat) ?_ ⟨by omega, by omega, by omega, by omega⟩
    intro j z2 hg2 hj self2 hself2
    obtain ⟨j1, j2, j3, j4⟩ := hj
    refine cB_i (fun _ => ?_) (fun _ => ?_)
    · refine nlp3_i (fun i z er' => 0 ≤ i ∧ i ≤ 420 ∧ z = b + 141 + i ∧ ∀ p, 0 ≤ p → p < i → er' p = im (b + 141 + p)) (fun i _ _ => (420 - i).toNat) ?_ ⟨by omega, by omega, by omega, by omega⟩
      intro k z3 er3 hk3 self3 hself3
      obtain ⟨k1, k2, k3, k4⟩ := hk3
      refine cB_i (fun _ => ?_) (fun _ => ?_)
      · refine nlp5_i (fun i z cg' cy' cn' => 0 ≤ i ∧ i ≤ 6 ∧ z = b + 561 + 3 * i ∧ (∀ p, 0 ≤ p → p < i → cg' p = im (b + 561 + 3 * p)) ∧ (∀ p, 0 ≤ p → p < i → cy' p = im (b + 561 + 3 * p + 1)) ∧ (∀ p, 0 ≤ p → p < i → cn' p = im (b + 561 + 3 * p + 2))) (fun i _ _ _ _ => (6 - i).toNat) ?_ ⟨by omega, by omega, by omega, by omega, by omega, by omega⟩
        intro c z4 cg4 cy4 cn4 hc self4 hself4
        obtain ⟨c1, c2, c3, c4, c5, c6⟩ := hc
        refine cB_i (fun _ => ?_) (fun _ => ?_)
        · refine nlp5_i (fun i z pl' we' le' => 0 ≤ i ∧ i ≤ 60 ∧ z = b + 579 + 5 * i ∧ (∀ p, 0 ≤ p → p < i → pl' p = im (b + 579 + 5 * p)) ∧ (∀ p, 0 ≤ p → p < i → we' p = im (b + 579 + 5 * p + 1)) ∧ ∀ p, 0 ≤ p → p < 3 * i → le' p = im (b + 579 + 5 * (p / 3) + 2 + p % 3)) (fun i _ _ _ _ => (60 - i).toNat) ?_ ⟨by omega, by omega, by omega, by omega, by omega, by omega⟩
          intro n z5 pl5 we5 le5 hn self5 hself5
          obtain ⟨n1, n2, n3, n4, n5, n6⟩ := hn
          refine cB_i (fun _ => ?_) (fun _ => ?_)
          · have g := h2 z5 hg2 so1 ki1 ti1 mk1 br1 ha1 hb1 pl5 we5 le5 er3 cg4 cy4 cn4 (fun g a d => s0 g a (by omega)) (fun g a d => s1 g a (by omega)) (fun g a d => s2 g a (by omega)) (fun g a d => s3 g a (by omega)) (fun g a d => s4 g a (by omega)) (fun g a d => s5 g a (by omega)) (fun g a d => s6 g a (by omega)) (fun g a d => j4 g a (by omega)) (fun g a d => k4 g a (by omega)) (fun g a d => c4 g a (by omega)) (fun g a d => c5 g a (by omega)) (fun g a d => c6 g a (by omega)) (fun g a d => n4 g a (by omega)) (fun g a d => n5 g a (by omega)) (fun g a d => n6 g a (by omega))
            rw [show b + 1 + 1 = b + 2 by omega, show b + 2 + 1 = b + 3 by omega, show b + 3 + 1 = b + 4 by omega]
            exact g
          · have q1 : inb n 60 := by simp only [inb]; omega
            have q3 : inb (3 * n) 180 := by simp only [inb]; omega
            have q4 : inb (3 * n + 1) 180 := by simp only [inb]; omega
            have q5 : inb (3 * n + 2) 180 := by simp only [inb]; omega
            refine st_noted ⟨by omega, by omega⟩ (wO_i q1 (st_noted ⟨by omega, by omega⟩ (wO_i q1 (wO_i (by simp only [iR]; omega) (st_noted ⟨by omega, by omega⟩ (wO_i q3 ?_))))))
            refine wO_i (by simp only [iR]; omega) (wO_i (by simp only [iR]; omega) (st_noted ⟨by omega, by omega⟩ (wO_i q4 ?_)))
            refine wO_i (by simp only [iR]; omega) (wO_i (by simp only [iR]; omega) (st_noted ⟨by omega, by omega⟩ (wO_i q5 ?_)))
            refine wO_i (by simp only [iR]; omega) (hself5 _ _ _ _ _ ⟨by omega, by omega, by omega, fun p a d => ?_, fun p a d => ?_, fun p a d => ?_⟩ (by omega))
            · by_cases e : p = n
              · rw [e, ups_s]; exact im_k (by omega)
              · rw [ups_n e]; exact n4 p a (by omega)
            · by_cases e : p = n
              · rw [e, ups_s]; exact im_k (by omega)
              · rw [ups_n e]; exact n5 p a (by omega)
            · by_cases e2 : p = 3 * n + 2
              · rw [e2, ups_s]; exact im_k (by omega)
              · rw [ups_n e2]
                by_cases e1 : p = 3 * n + 1
                · rw [e1, ups_s]; exact im_k (by omega)
                · rw [ups_n e1]
                  by_cases e0 : p = 3 * n
                  · rw [e0, ups_s]; exact im_k (by omega)
                  · rw [ups_n e0]; exact n6 p a (by omega)
        · have q1 : inb c 6 := by simp only [inb]; omega
          refine st_noted ⟨by omega, by omega⟩ (wO_i q1 (st_noted ⟨by omega, by omega⟩ (wO_i q1 (st_noted ⟨by omega, by omega⟩ (wO_i q1 ?_)))))
          refine wO_i (by simp only [iR]; omega) (hself4 _ _ _ _ _ ⟨by omega, by omega, by omega, fun p a d => ?_, fun p a d => ?_, fun p a d => ?_⟩ (by omega))
          · by_cases e : p = c
            · rw [e, ups_s]; exact im_k (by omega)
            · rw [ups_n e]; exact c4 p a (by omega)
          · by_cases e : p = c
            · rw [e, ups_s]; exact im_k (by omega)
            · rw [ups_n e]; exact c5 p a (by omega)
          · by_cases e : p = c
            · rw [e, ups_s]; exact im_k (by omega)
            · rw [ups_n e]; exact c6 p a (by omega)
      · refine st_noted ⟨by omega, by omega⟩ (wO_i (by simp only [inb]; omega) (wO_i (by simp only [iR]; omega) (hself3 _ _ _ ⟨by omega, by omega, by omega, fun p a d => ?_⟩ (by omega))))
        by_cases e : p = k
        · rw [e, ups_s]; exact im_k (by omega)
        · rw [ups_n e]; exact k4 p a (by omega)
    · refine st_noted ⟨by omega, by omega⟩ (wO_i (by simp only [inb]; omega) (wO_i (by simp only [iR]; omega) (hself2 _ _ _ ⟨by omega, by omega, by omega, fun p a d => ?_⟩ (by omega))))
      by_cases e : p = j
      · rw [e, ups_s]; exact im_k (by omega)
      · rw [ups_n e]; exact j4 p a (by omega)
  · have q1 : inb i 16 := by simp only [inb]; omega
    refine st_noted ⟨by omega, by omega⟩ (wO_i q1 (st_noted ⟨by omega, by omega⟩ (wO_i q1 (st_noted ⟨by omega, by omega⟩ (wO_i q1 ?_)))))
    refine st_noted ⟨by omega, by omega⟩ (wO_i q1 (st_noted ⟨by omega, by omega⟩ (wO_i q1 (st_noted ⟨by omega, by omega⟩ (wO_i q1 (st_noted ⟨by omega, by omega⟩ (wO_i q1 ?_)))))))
    refine wO_i (by simp only [iR]; omega) (hself _ _ _ _ _ _ _ _ _ ⟨by omega, by omega, by omega, fun p a d => ?_, fun p a d => ?_, fun p a d => ?_, fun p a d => ?_, fun p a d => ?_, fun p a d => ?_, fun p a d => ?_⟩ (by omega))
    · by_cases e : p = i
      · rw [e, ups_s]; exact im_k (by omega)
      · rw [ups_n e]; exact s0 p a (by omega)
    · by_cases e : p = i
      · rw [e, ups_s]; exact im_k (by omega)
      · rw [ups_n e]; exact s1 p a (by omega)
    · by_cases e : p = i
      · rw [e, ups_s]; exact im_k (by omega)
      · rw [ups_n e]; exact s2 p a (by omega)
    · by_cases e : p = i
      · rw [e, ups_s]; exact im_k (by omega)
      · rw [ups_n e]; exact s3 p a (by omega)
    · by_cases e : p = i
      · rw [e, ups_s]; exact im_k (by omega)
      · rw [ups_n e]; exact s4 p a (by omega)
    · by_cases e : p = i
      · rw [e, ups_s]; exact im_k (by omega)
      · rw [ups_n e]; exact s5 p a (by omega)
    · by_cases e : p = i
      · rw [e, ups_s]; exact im_k (by omega)
      · rw [ups_n e]; exact s6 p a (by omega)
theorem sx_goBack {hs gu ni ev cl ia x1 : Int} {hg so ki ti mk br ha hb pl we le er cg cy cn im ik : Int → Int} {Q : gbQ} {pg gn en cn' nn : Int} {pk gs gk gt gm gb gp gh ef cg' cy' cz' nl : Int → Int} (hx : 0 ≤ x1 ∧ x1 ≤ 1) (hik : ik x1 ≠ 0) (hv : im (900 * x1) = hs) (hm : mIm (900 * x1) im) (hR : RSb pg pk gn gs gk gt gm gb gp gh en ef cn' cg' cy' cz' nn nl (900 * x1) im) (h : ∀ gu' ni' ev' cl' z hg' so' ki' ti' mk' br' ha' hb' pl' we' le' er' mg' my' mz', mF gu' ev' cl' ni' so' ti' ha' hb' hg' er' mg' le' → RS pg pk gn gs gk gt gm gb gp gh en ef cn' cg' cy' cz' nn nl gu' so' ki' ti' mk' br' ha' hb' hg' ev' er' cl' mg' my' mz' ni' pl' we' le' → Q 1 gu' ni' ev' cl' z hg' so' ki' ti' mk' br' ha' hb' pl' we' le' er' mg' my' mz') : nf_M_goBack hs gu ni ev cl ia hg so ki ti mk br ha hb pl we le er cg cy cn im ik x1 Q := by
  refine sm_goBack (fun a => absurd hx a) (fun _ b => absurd ⟨hik, hv⟩ b) (fun _ _ _ z hg' so' ki' ti' mk' br' ha' hb' pl' we' le' er' mg' my' mz' a1 a2 a3 a4 a5 a6 a7 a8 a9 b1 b2 b3 b4 b5 b6 => ?_)
  exact h _ _ _ _ _ _ _ _ _ _ _ _ _ _ _ _ _ _ _ _ (mF_c hm rfl rfl rfl rfl a1 a3 a6 a7 a8 a9 b1 b6) (RS_c (mF_b hm) hR rfl rfl rfl rfl a1 a2 a3 a4 a5 a6 a7 a8 a9 b1 b2 b3 b4 b5 b6)
