/-! IN STEP 13: hang, give, lose -/
def EVN (er : Int → Int) (ev a b c d e f g : Int) : Int → Int := ups (ups (ups (ups (ups (ups (ups er (7 * ev) a) (7 * ev + 1) b) (7 * ev + 2) c) (7 * ev + 3) d) (7 * ev + 4) e) (7 * ev + 5) f) (7 * ev + 6) g
section EVS
variable {er ef : Int → Int} {ev a b c d e f g : Int}
theorem EVN_l {k : Int} (h : k < 7 * ev) : EVN er ev a b c d e f g k = er k := by
  unfold EVN
  rw [ups_n (by omega), ups_n (by omega), ups_n (by omega), ups_n (by omega), ups_n (by omega), ups_n (by omega), ups_n (by omega)]
theorem EVN_0 : EVN er ev a b c d e f g (7 * ev) = a := by
  unfold EVN
  rw [ups_n (by omega), ups_n (by omega), ups_n (by omega), ups_n (by omega), ups_n (by omega), ups_n (by omega), ups_s]
theorem EVN_1 : EVN er ev a b c d e f g (7 * ev + 1) = b := by
  unfold EVN
  rw [ups_n (by omega), ups_n (by omega), ups_n (by omega), ups_n (by omega), ups_n (by omega), ups_s]
theorem EVN_2 : EVN er ev a b c d e f g (7 * ev + 2) = c := by
  unfold EVN
  rw [ups_n (by omega), ups_n (by omega), ups_n (by omega), ups_n (by omega), ups_s]
theorem EVN_3 : EVN er ev a b c d e f g (7 * ev + 3) = d := by
  unfold EVN
  rw [ups_n (by omega), ups_n (by omega), ups_n (by omega), ups_s]
theorem EVN_4 : EVN er ev a b c d e f g (7 * ev + 4) = e := by
  unfold EVN
  rw [ups_n (by omega), ups_n (by omega), ups_s]
theorem EVN_5 : EVN er ev a b c d e f g (7 * ev + 5) = f := by
  unfold EVN
  rw [ups_n (by omega), ups_s]
theorem EVN_6 : EVN er ev a b c d e f g (7 * ev + 6) = g := by
  unfold EVN
  rw [ups_s]
theorem RF_add (h : RF ev ef er) : RF (ev + 1) (EVN ef ev a b c d e f g) (EVN er ev a b c d e f g) := by
  intro k k0 k1
  by_cases q : k < 7 * ev
  · rw [EVN_l q, EVN_l q]; exact h k k0 q
  · rcases (show k = 7 * ev ∨ k = 7 * ev + 1 ∨ k = 7 * ev + 2 ∨ k = 7 * ev + 3 ∨ k = 7 * ev + 4 ∨ k = 7 * ev + 5 ∨ k = 7 * ev + 6 by omega) with r | r | r | r | r | r | r <;> subst r
    · rw [EVN_0, EVN_0]
    · rw [EVN_1, EVN_1]
    · rw [EVN_2, EVN_2]
    · rw [EVN_3, EVN_3]
    · rw [EVN_4, EVN_4]
    · rw [EVN_5, EVN_5]
    · rw [EVN_6, EVN_6]
end EVS
theorem so_Eadd {en a b c d e f : Int} {F : Int → Int} {Q : Int → Int → (Int → Int) → Prop} (hE : 0 ≤ en ∧ en < 60) (h : Q en (en + 1) (EVN F en a b c d e f (if a = 2 ∨ d = e then 0 else 1))) : nf_Events_add en F a b c d e f Q := by
  unfold nf_Events_add
  simp only [ci_m1, ci_m10, ci_m1001, ci_m1002, ci_m1003, ci_m1004, ci_0, ci_1, ci_10, ci_100, ci_1000, ci_10000, ci_101, ci_103, ci_104, ci_105, ci_107, ci_108, ci_110, ci_111, ci_114, ci_115, ci_116, ci_118, ci_119, ci_12, ci_122, ci_1431655765, ci_15, ci_16, ci_2, ci_20, ci_23, ci_24, ci_240, ci_252645135, ci_255, ci_256, ci_3, ci_32, ci_4, ci_420, ci_48, ci_5, ci_5040, ci_57, ci_59, ci_6, ci_60, ci_63, ci_64, ci_7, ci_70, ci_8, ci_858993459, ci_9, ci_900, ci_97, ci_99, ci_999, ci_9999, cl_0, cl_1, cl_10, cl_1000000000000, cl_122, cl_2, cl_2000000000000, cl_23, cl_255, cl_27, cl_3, cl_4, cl_48, cl_57, cl_6, cl_8, cl_96, cl_97, cl_99, cl_999, cl_9999]
  have e7 : en * 7 = 7 * en := by omega
  simp only [e7]
  refine cB_f (by omega) (sp_isFull (cB_f (by omega) (cB_t rfl ?_)))
  refine wO_i (by simp only [iR]; omega) (wO_i (by simp only [inb]; omega) (wO_i (by simp only [iR]; omega) (wO_i (by simp only [inb]; omega) (wO_i (by simp only [iR]; omega) (wO_i (by simp only [inb]; omega) (wO_i (by simp only [iR]; omega) (wO_i (by simp only [inb]; omega) (wO_i (by simp only [iR]; omega) (wO_i (by simp only [inb]; omega) (wO_i (by simp only [iR]; omega) (wO_i (by simp only [inb]; omega) (wO_i (by simp only [iR]; omega) ?_))))))))))))
  refine jn1_s (fun t => t = if a = 2 ∨ d = e then 0 else 1) (fun t ht => wO_i (by simp only [inb]; omega) (wO_i (by simp only [iR]; omega) (by rw [ht]; exact h))) ?_
  exact jn0_s (a = 2 ∨ d = e) (fun q => by rw [if_pos q]) (cB_i (fun q => Or.inl q) (fun q1 => cB_i (fun q => Or.inr q) (fun q2 => by rw [if_neg (by omega)])))
theorem sm_addEvent {ev a b c d e f g : Int} {er : Int → Int} {Q : Int → Int → (Int → Int) → Prop} (hev : 0 ≤ ev ∧ ev < 60) (h : Q ev (ev + 1) (EVN er ev a b c d e f (if g = 0 then 0 else 1))) : nf_M_addEvent ev er a b c d e f g Q := by
  unfold nf_M_addEvent
  simp only [ci_m1, ci_m10, ci_m1001, ci_m1002, ci_m1003, ci_m1004, ci_0, ci_1, ci_10, ci_100, ci_1000, ci_10000, ci_101, ci_103, ci_104, ci_105, ci_107, ci_108, ci_110, ci_111, ci_114, ci_115, ci_116, ci_118, ci_119, ci_12, ci_122, ci_1431655765, ci_15, ci_16, ci_2, ci_20, ci_23, ci_24, ci_240, ci_252645135, ci_255, ci_256, ci_3, ci_32, ci_4, ci_420, ci_48, ci_5, ci_5040, ci_57, ci_59, ci_6, ci_60, ci_63, ci_64, ci_7, ci_70, ci_8, ci_858993459, ci_9, ci_900, ci_97, ci_99, ci_999, ci_9999, cl_0, cl_1, cl_10, cl_1000000000000, cl_122, cl_2, cl_2000000000000, cl_23, cl_255, cl_27, cl_3, cl_4, cl_48, cl_57, cl_6, cl_8, cl_96, cl_97, cl_99, cl_999, cl_9999]
  refine wO_i (by simp only [iR]; omega) (wO_i (by simp only [inb]; omega) (wO_i (by simp only [iR]; omega) (wO_i (by simp only [inb]; omega) (wO_i (by simp only [iR]; omega) (wO_i (by simp only [inb]; omega) (wO_i (by simp only [iR]; omega) (wO_i (by simp only [inb]; omega) (wO_i (by simp only [iR]; omega) (wO_i (by simp only [inb]; omega) (wO_i (by simp only [iR]; omega) (wO_i (by simp only [inb]; omega) (wO_i (by simp only [iR]; omega) ?_))))))))))))
  refine jn1_s (fun t => t = if g = 0 then 0 else 1) (fun t ht => wO_i (by simp only [inb]; omega) (wO_i (by simp only [iR]; omega) (wO_i (by simp only [iR]; omega) (by rw [ht, show ev + 1 - 1 = ev by omega]; exact h)))) ?_
  exact cB_i (fun q => by rw [if_pos q]) (fun q => by rw [if_neg q])
theorem sm_isBrassOut {gu x : Int} {br : Int → Int} {Q : Int → Prop} (hgu : 0 ≤ gu ∧ gu ≤ 16) (h1 : (∃ q, 0 ≤ q ∧ q < gu ∧ br q = x) → Q 1) (h0 : (∀ q, 0 ≤ q → q < gu → br q ≠ x) → Q 0) : nf_M_isBrassOut gu br x Q := by
  unfold nf_M_isBrassOut
  simp only [ci_m1, ci_m10, ci_m1001, ci_m1002, ci_m1003, ci_m1004, ci_0, ci_1, ci_10, ci_100, ci_1000, ci_10000, ci_101, ci_103, ci_104, ci_105, ci_107, ci_108, ci_110, ci_111, ci_114, ci_115, ci_116, ci_118, ci_119, ci_12, ci_122, ci_1431655765, ci_15, ci_16, ci_2, ci_20, ci_23, ci_24, ci_240, ci_252645135, ci_255, ci_256, ci_3, ci_32, ci_4, ci_420, ci_48, ci_5, ci_5040, ci_57, ci_59, ci_6, ci_60, ci_63, ci_64, ci_7, ci_70, ci_8, ci_858993459, ci_9, ci_900, ci_97, ci_99, ci_999, ci_9999, cl_0, cl_1, cl_10, cl_1000000000000, cl_122, cl_2, cl_2000000000000, cl_23, cl_255, cl_27, cl_3, cl_4, cl_48, cl_57, cl_6, cl_8, cl_96, cl_97, cl_99, cl_999, cl_9999]
  refine nlp2_i (fun l i => 0 ≤ i ∧ i ≤ gu ∧ ((l = 1 ∧ ∃ q, 0 ≤ q ∧ q < gu ∧ br q = x) ∨ (l = 0 ∧ ∀ q, 0 ≤ q → q < i → br q ≠ x))) (fun _ i => (gu - i).toNat) ?_ ⟨by omega, by omega, Or.inr ⟨rfl, by omega⟩⟩
  intro l i hi self hself
  obtain ⟨i1, i2, i3⟩ := hi
  refine cB_i (fun _ => wO_i (by simp only [bZ]; omega) ?_) (fun _ => ?_)
  · rcases i3 with ⟨rfl, q⟩ | ⟨rfl, q⟩
    · exact h1 q
    · exact h0 (fun z a b => q z a (by omega))
  · refine jn1_s (fun t => (t = 1 ∧ ∃ q, 0 ≤ q ∧ q < gu ∧ br q = x) ∨ (t = 0 ∧ ∀ q, 0 ≤ q → q < i + 1 → br q ≠ x)) (fun t ht => wO_i (by simp only [iR]; omega) (hself _ _ ⟨by omega, by omega, ht⟩ (by omega))) ?_
    refine jn0_s (∃ q, 0 ≤ q ∧ q < gu ∧ br q = x) (fun q => Or.inl ⟨rfl, q⟩) (cB_i (fun e => wO_i (by simp only [inb]; omega) (cB_i (fun e2 => ⟨i, i1, by omega, e2⟩) (fun e2 => Or.inr ⟨rfl, fun q a b => ?_⟩))) (fun e => ?_))
    · rcases i3 with ⟨z, _⟩ | ⟨_, z⟩
      · omega
      · by_cases eq : q = i
        · rw [eq]; exact e2
        · exact z q a (by omega)
    · rcases i3 with ⟨_, z⟩ | ⟨z, _⟩
      · exact z
      · exact absurd z e
theorem sm_hasClaim {gu x : Int} {br : Int → Int} {Q : Int → Prop} (hgu : 0 ≤ gu ∧ gu ≤ 6) (h1 : (∃ q, 0 ≤ q ∧ q < gu ∧ br q = x) → Q 1) (h0 : (∀ q, 0 ≤ q → q < gu → br q ≠ x) → Q 0) : nf_M_hasClaim gu br x Q := by
  unfold nf_M_hasClaim
  simp only [ci_m1, ci_m10, ci_m1001, ci_m1002, ci_m1003, ci_m1004, ci_0, ci_1, ci_10, ci_100, ci_1000, ci_10000, ci_101, ci_103, ci_104, ci_105, ci_107, ci_108, ci_110, ci_111, ci_114, ci_115, ci_116, ci_118, ci_119, ci_12, ci_122, ci_1431655765, ci_15, ci_16, ci_2, ci_20, ci_23, ci_24, ci_240, ci_252645135, ci_255, ci_256, ci_3, ci_32, ci_4, ci_420, ci_48, ci_5, ci_5040, ci_57, ci_59, ci_6, ci_60, ci_63, ci_64, ci_7, ci_70, ci_8, ci_858993459, ci_9, ci_900, ci_97, ci_99, ci_999, ci_9999, cl_0, cl_1, cl_10, cl_1000000000000, cl_122, cl_2, cl_2000000000000, cl_23, cl_255, cl_27, cl_3, cl_4, cl_48, cl_57, cl_6, cl_8, cl_96, cl_97, cl_99, cl_999, cl_9999]
  refine nlp2_i (fun l i => 0 ≤ i ∧ i ≤ gu ∧ ((l = 1 ∧ ∃ q, 0 ≤ q ∧ q < gu ∧ br q = x) ∨ (l = 0 ∧ ∀ q, 0 ≤ q → q < i → br q ≠ x))) (fun _ i => (gu - i).toNat) ?_ ⟨by omega, by omega, Or.inr ⟨rfl, by omega⟩⟩
  intro l i hi self hself
  obtain ⟨i1, i2, i3⟩ := hi
  refine cB_i (fun _ => wO_i (by simp only [bZ]; omega) ?_) (fun _ => ?_)
  · rcases i3 with ⟨rfl, q⟩ | ⟨rfl, q⟩
    · exact h1 q
    · exact h0 (fun z a b => q z a (by omega))
  · refine jn1_s (fun t => (t = 1 ∧ ∃ q, 0 ≤ q ∧ q < gu ∧ br q = x) ∨ (t = 0 ∧ ∀ q, 0 ≤ q → q < i + 1 → br q ≠ x)) (fun t ht => wO_i (by simp only [iR]; omega) (hself _ _ ⟨by omega, by omega, ht⟩ (by omega))) ?_
    refine jn0_s (∃ q, 0 ≤ q ∧ q < gu ∧ br q = x) (fun q => Or.inl ⟨rfl, q⟩) (cB_i (fun e => wO_i (by simp only [inb]; omega) (cB_i (fun e2 => ⟨i, i1, by omega, e2⟩) (fun e2 => Or.inr ⟨rfl, fun q a b => ?_⟩))) (fun e => ?_))
    · rcases i3 with ⟨z, _⟩ | ⟨_, z⟩
      · omega
      · by_cases eq : q = i
        · rw [eq]; exact e2
        · exact z q a (by omega)
    · rcases i3 with ⟨_, z⟩ | ⟨z, _⟩
      · exact z
      · exact absurd z e
abbrev uA3 (gn hp x1 x2 x3 : Int) : Prop := (0 ≤ x1 ∧ x1 ≤ 3) ∧ (0 ≤ x2 ∧ x2 < gn) ∧ (0 ≤ x3 ∧ x3 < hp)
def hC (gn en cn : Int) (gk gb gp ef cg hk : Int → Int) (x2 x3 x4 : Int) : Prop := (∀ q, 0 ≤ q → q < en → ¬ (ef (7 * q) = 0 ∧ ef (7 * q + 5) = x2)) ∧ (∀ c, 0 ≤ c → c < cn → cg c ≠ x2) ∧ hk x3 = gk x2 ∧ (∀ q, 0 ≤ q → q < gn → gp q ≠ x3) ∧ (∀ q, 0 ≤ q → q < gn → gb q ≠ x4)
def hM (gu cl : Int) (ki br hb hg mg pk : Int → Int) (x2 x3 x4 : Int) : Prop := hb x2 < 0 ∧ (∀ c, 0 ≤ c → c < cl → mg c ≠ x2) ∧ pk x3 = ki x2 ∧ hg x3 < 0 ∧ (∀ q, 0 ≤ q → q < gu → br q ≠ x4)
theorem so_Hhang {gn en cn hp x1 x2 x3 x4 : Int} {gk gb gp ef cg hk : Int → Int} {Q : Int → (Int → Int) → (Int → Int) → Int → (Int → Int) → Prop} (hg : 0 ≤ gn ∧ gn ≤ 16) (hE : 0 ≤ en ∧ en ≤ 60) (hCn : 0 ≤ cn ∧ cn ≤ 6) (hP : 0 ≤ hp ∧ hp ≤ 24) (h0 : ¬ uA3 gn hp x1 x2 x3 → Q (-1001) gb gp en ef) (h1 : uA3 gn hp x1 x2 x3 → ¬ (0 ≤ x4 ∧ x4 ≤ 23) → Q (-1002) gb gp en ef) (h2 : uA3 gn hp x1 x2 x3 → (0 ≤ x4 ∧ x4 ≤ 23) → ¬ hC gn en cn gk gb gp ef cg hk x2 x3 x4 → Q (-1003) gb gp en ef) (h3 : uA3 gn hp x1 x2 x3 → (0 ≤ x4 ∧ x4 ≤ 23) → hC gn en cn gk gb gp ef cg hk x2 x3 x4 → en = 60 → Q (-1004) gb gp en ef) (h4 : uA3 gn hp x1 x2 x3 → (0 ≤ x4 ∧ x4 ≤ 23) → hC gn en cn gk gb gp ef cg hk x2 x3 x4 → en < 60 → Q en (ups gb x2 x4) (ups gp x2 x3) (en + 1) (EVN ef en 0 x1 x2 x3 x4 x2 (if x3 = x4 then 0 else 1))) : nf_H_hang gn gk gb gp en ef cn cg hp hk x1 x2 x3 x4 Q := by
  unfold nf_H_hang nf_H_mayHang
  simp only [ci_m1, ci_m10, ci_m1001, ci_m1002, ci_m1003, ci_m1004, ci_0, ci_1, ci_10, ci_100, ci_1000, ci_10000, ci_101, ci_103, ci_104, ci_105, ci_107, ci_108, ci_110, ci_111, ci_114, ci_115, ci_116, ci_118, ci_119, ci_12, ci_122, ci_1431655765, ci_15, ci_16, ci_2, ci_20, ci_23, ci_24, ci_240, ci_252645135, ci_255, ci_256, ci_3, ci_32, ci_4, ci_420, ci_48, ci_5, ci_5040, ci_57, ci_59, ci_6, ci_60, ci_63, ci_64, ci_7, ci_70, ci_8, ci_858993459, ci_9, ci_900, ci_97, ci_99, ci_999, ci_9999, cl_0, cl_1, cl_10, cl_1000000000000, cl_122, cl_2, cl_2000000000000, cl_23, cl_255, cl_27, cl_3, cl_4, cl_48, cl_57, cl_6, cl_8, cl_96, cl_97, cl_99, cl_999, cl_9999]
  refine sp_isHand (cB_i (fun a1 => cB_f (by decide) ?_) (fun a1 => cB_t rfl (h0 (fun v => a1 v.1))))
  refine sp_knows (cB_i (fun a2 => cB_f (by decide) ?_) (fun a2 => cB_t rfl (h0 (fun v => a2 ⟨v.2.1.1, v.2.1.2, by omega⟩))))
  refine sp_hasPeg (cB_i (fun a3 => cB_f (by decide) ?_) (fun a3 => cB_t rfl (h0 (fun v => a3 ⟨v.2.2.1, v.2.2.2, by omega⟩))))
  have v : uA3 gn hp x1 x2 x3 := ⟨a1, ⟨a2.1, a2.2.1⟩, a3.1, a3.2.1⟩
  refine sp_within (cB_i (fun a4 => cB_f (by decide) ?_) (fun a4 => cB_t rfl (h1 v a4)))
  have no := h2 v a4
  refine sp_find hE (fun r r1 r2 r3 r4 => cB_i (fun e1 => ?_) (fun e1 => cB_t trivial (no (fun q => ?_))))
  · have f1 := r4 e1
    refine sp_isOf hCn (fun e2 => cB_f (by decide) (cB_t trivial (no (fun q => by obtain ⟨c, c0, c1, c2⟩ := e2; exact q.2.1 c c0 c1 c2)))) (fun f2 => cB_t rfl ?_)
    refine sp_kindOf (cB_t a2 (sp_isOfKind (cB_i (fun e3 => cB_f (by decide) ?_) (fun e3 => cB_t rfl (cB_t trivial (no (fun q => e3 ⟨a3.1, a3.2.1, a3.2.2, q.2.2.1⟩)))))))
    refine sp_ownerOn hg (fun o o1 o2 o3 o4 => cB_i (fun e4 => cB_f (by decide) ?_) (fun e4 => cB_t trivial (no (fun q => q.2.2.2.1 o (by omega) o2 (o3 (by omega)).1))))
    refine sp_brassIsOut hg (fun e5 => cB_f (by decide) (no (fun q => by obtain ⟨c, c0, c1, c2⟩ := e5; exact q.2.2.2.2 c c0 c1 c2))) (fun f5 => cB_t rfl ?_)
    have hc : hC gn en cn gk gb gp ef cg hk x2 x3 x4 := ⟨fun q q0 q1 q2 => f1 q q0 q1 (by rw [show q * 7 + 0 = 7 * q by omega, show q * 7 + 5 = 7 * q + 5 by omega]; exact q2), f2, e3.2.2.2, o4 e4, f5⟩
    refine sp_isFull (cB_i (fun e => cB_f (by decide) (h3 v a4 hc (by omega))) (fun e => cB_t rfl ?_))
    refine wO_i (by simp only [inb]; omega) (wO_i (by simp only [inb]; omega) (so_Eadd ⟨by omega, by omega⟩ ?_))
    have g := h4 v a4 hc (by omega)
    by_cases c : x3 = x4
    · rw [if_pos (Or.inr c)]; rw [if_pos c] at g; exact g
    · rw [if_neg (by omega)]; rw [if_neg c] at g; exact g
  · have r5 := r3 (by omega)
    refine q.1 r (by omega) r2 ⟨?_, ?_⟩
    · rw [← r5.1, show r * 7 + 0 = 7 * r by omega]
    · rw [← r5.2.1, show r * 7 + 5 = 7 * r + 5 by omega]
theorem sm_hang {pg gu ev cl x1 x2 x3 x4 : Int} {pk hg ki br hb er mg : Int → Int} {Q : Int → Int → (Int → Int) → (Int → Int) → (Int → Int) → (Int → Int) → Prop} (hgu : 0 ≤ gu ∧ gu ≤ 16) (hE : 0 ≤ ev ∧ ev ≤ 60) (hCn : 0 ≤ cl ∧ cl ≤ 6) (hP : 0 ≤ pg ∧ pg ≤ 24) (h0 : ¬ uA3 gu pg x1 x2 x3 → Q (-1001) ev hg br hb er) (h1 : uA3 gu pg x1 x2 x3 → ¬ (0 ≤ x4 ∧ x4 ≤ 23) → Q (-1002) ev hg br hb er) (h2 : uA3 gu pg x1 x2 x3 → (0 ≤ x4 ∧ x4 ≤ 23) → ¬ hM gu cl ki br hb hg mg pk x2 x3 x4 → Q (-1003) ev hg br hb er) (h3 : uA3 gu pg x1 x2 x3 → (0 ≤ x4 ∧ x4 ≤ 23) → hM gu cl ki br hb hg mg pk x2 x3 x4 → ev = 60 → Q (-1004) ev hg br hb er) (h4 : uA3 gu pg x1 x2 x3 → (0 ≤ x4 ∧ x4 ≤ 23) → hM gu cl ki br hb hg mg pk x2 x3 x4 → ev < 60 → Q ev (ev + 1) (ups hg x3 x2) (ups br x2 x4) (ups hb x2 ev) (EVN er ev 0 x1 x2 x3 x4 x2 (if x3 = x4 then 0 else 1))) : nf_M_hang pg gu ev cl pk hg ki br hb er mg x1 x2 x3 x4 Q := by
  unfold nf_M_hang
  simp only [ci_m1, ci_m10, ci_m1001, ci_m1002, ci_m1003, ci_m1004, ci_0, ci_1, ci_10, ci_100, ci_1000, ci_10000, ci_101, ci_103, ci_104, ci_105, ci_107, ci_108, ci_110, ci_111, ci_114, ci_115, ci_116, ci_118, ci_119, ci_12, ci_122, ci_1431655765, ci_15, ci_16, ci_2, ci_20, ci_23, ci_24, ci_240, ci_252645135, ci_255, ci_256, ci_3, ci_32, ci_4, ci_420, ci_48, ci_5, ci_5040, ci_57, ci_59, ci_6, ci_60, ci_63, ci_64, ci_7, ci_70, ci_8, ci_858993459, ci_9, ci_900, ci_97, ci_99, ci_999, ci_9999, cl_0, cl_1, cl_10, cl_1000000000000, cl_122, cl_2, cl_2000000000000, cl_23, cl_255, cl_27, cl_3, cl_4, cl_48, cl_57, cl_6, cl_8, cl_96, cl_97, cl_99, cl_999, cl_9999]
  refine sp_mHand (cB_i (fun a1 => cB_f (by decide) ?_) (fun a1 => cB_t rfl (h0 (fun v => a1 v.1))))
  refine sp_isGuest hgu (cB_i (fun a2 => cB_f (by decide) ?_) (fun a2 => cB_t rfl (h0 (fun v => a2 v.2.1))))
  refine sp_isPeg hP (cB_i (fun a3 => cB_f (by decide) ?_) (fun a3 => cB_t rfl (h0 (fun v => a3 v.2.2))))
  have v : uA3 gu pg x1 x2 x3 := ⟨a1, a2, a3⟩
  refine wL_i (sp_in (cB_i (fun a4 => cB_f (by decide) ?_) (fun a4 => cB_t rfl (h1 v a4))))
  have no := h2 v a4
  have ig : inb x2 16 := by simp only [inb]; omega
  have ip : inb x3 24 := by simp only [inb]; omega
  refine wO_i ig (cB_i (fun e => no (fun q => by have := q.1; omega)) (fun e1 => sm_hasClaim hCn (fun e2 => cB_f (by decide) (no (fun q => by obtain ⟨c, c0, c1, c2⟩ := e2; exact q.2.1 c c0 c1 c2))) (fun f2 => cB_t rfl ?_)))
  refine wO_i ip (wO_i ig (cB_i (fun e3 => wO_i ip (cB_i (fun e => no (fun q => by have := q.2.2.2.1; omega)) (fun e4 => ?_))) (fun e => no (fun q => e q.2.2.1))))
  refine sm_isBrassOut hgu (fun e5 => cB_f (by decide) (no (fun q => by obtain ⟨c, c0, c1, c2⟩ := e5; exact q.2.2.2.2 c c0 c1 c2))) (fun f5 => cB_t rfl ?_)
  have hc : hM gu cl ki br hb hg mg pk x2 x3 x4 := ⟨by omega, f2, e3, by omega, f5⟩
  refine cB_i (fun e => h3 v a4 hc e) (fun e => ?_)
  have g := h4 v a4 hc (by omega)
  refine wO_i ip (wO_i ig (wO_i ig (jn1_i (cB_i (fun c => sm_addEvent ⟨by omega, by omega⟩ ?_) (fun c => sm_addEvent ⟨by omega, by omega⟩ ?_)))))
  · rw [if_pos c.symm] at g; rw [if_pos rfl]; exact g
  · rw [if_neg (fun q => c q.symm)] at g; rw [if_neg (by decide)]; exact g
theorem hCM {pg gn en cn nn gu ev cl ni x1 x2 x3 x4 : Int} {pk hk gs gk gt gm gb gp gh ef cg cy cz nl so ki ti mk br ha hb hg er mg my mz pl we le : Int → Int} (hs : RS pg pk gn gs gk gt gm gb gp gh en ef cn cg cy cz nn nl gu so ki ti mk br ha hb hg ev er cl mg my mz ni pl we le) (hm : mF gu ev cl ni so ti ha hb hg er mg le) (hpg : 0 ≤ pg ∧ pg ≤ 24) (hk2 : hk x3 = pk x3) (hv : uA3 gu pg x1 x2 x3) : hC gn en cn gk gb gp ef cg hk x2 x3 x4 ↔ hM gu cl ki br hb hg mg pk x2 x3 x4 := by
  obtain ⟨⟨rfl, rfl, rfl, rfl⟩, G, ⟨P1, P2⟩, ⟨E1, E2, E3, E4, E5⟩, F, C, N⟩ := hs
  obtain ⟨v1, v2, v3⟩ := hv
  have h5 := hm.1.2.2.2.2.1 x3 v3.1 (by omega)
  have g2 := G x2 v2.1 v2.2
  have h3 := hm.1.2.2.1 x2 v2.1 (by have := hm.1.2.1; omega)
  constructor
  · rintro ⟨a, b, c, d, e⟩
    refine ⟨?_, fun q q0 q1 => ?_, ?_, ?_, fun q q0 q1 => ?_⟩
    · rcases Int.lt_or_le (hb x2) 0 with z | z
      · exact z
      · have e1 := E1 x2 v2.1 v2.2
        have e3 := (E3 (hb x2) x2 z e1 v2.1 v2.2).mpr rfl
        exact absurd ⟨by rw [F _ (by omega) (by omega)]; exact e3.1, by rw [F _ (by omega) (by omega)]; exact e3.2⟩ (a (hb x2) z e1)
    · rw [← (C q q0 q1).1.1]; exact b q q0 q1
    · rw [← hk2, c, g2.1.2.1]
    · rcases Int.lt_or_le (hg x3) 0 with z | z
      · exact z
      · exact absurd ((P1 (hg x3) x3 z (by omega) v3.1 (by omega)).mpr rfl) (d _ z (by omega))
    · rw [← (G q q0 q1).1.2.2.2.2.1]; exact e q q0 q1
  · rintro ⟨a, b, c, d, e⟩
    refine ⟨fun q q0 q1 q2 => ?_, fun q q0 q1 => ?_, ?_, fun q q0 q1 q2 => ?_, fun q q0 q1 => ?_⟩
    · rw [F _ (by omega) (by omega), F _ (by omega) (by omega)] at q2
      have := (E3 q x2 q0 q1 v2.1 v2.2).mp q2
      omega
    · rw [(C q q0 q1).1.1]; exact b q q0 q1
    · rw [hk2, c, g2.1.2.1]
    · have := (P1 q x3 q0 q1 v3.1 (by omega)).mp q2
      omega
    · rw [(G q q0 q1).1.2.2.2.2.1]; exact e q q0 q1
