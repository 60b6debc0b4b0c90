/-! ANSWERS 2: astray, wrong, chain, ring, exchanges -/
theorem sm_isAstray {x : Int} {ha : Int → Int} {Q : Int → Prop} (hx : 0 ≤ x ∧ x < 16) (h1 : 0 ≤ ha x ∧ ha x ≠ x → Q 1) (h0 : ¬ (0 ≤ ha x ∧ ha x ≠ x) → Q 0) : nf_M_isAstray ha x Q := by
  unfold nf_M_isAstray
  simp only [ci_m1, ci_m10, ci_m1001, ci_m1002, ci_m1003, ci_m1004, ci_0, ci_1, ci_10, ci_100, ci_1000, ci_10000, ci_101, ci_103, ci_104, ci_105, ci_107, ci_108, ci_110, ci_111, ci_114, ci_115, ci_116, ci_118, ci_119, ci_12, ci_122, ci_1431655765, ci_15, ci_16, ci_2, ci_20, ci_23, ci_24, ci_240, ci_252645135, ci_255, ci_256, ci_3, ci_32, ci_4, ci_420, ci_48, ci_5, ci_5040, ci_57, ci_59, ci_6, ci_60, ci_63, ci_64, ci_7, ci_70, ci_8, ci_858993459, ci_9, ci_900, ci_97, ci_99, ci_999, ci_9999, cl_0, cl_1, cl_10, cl_1000000000000, cl_122, cl_2, cl_2000000000000, cl_23, cl_255, cl_27, cl_3, cl_4, cl_48, cl_57, cl_6, cl_8, cl_96, cl_97, cl_99, cl_999, cl_9999]
  have i : inb x 16 := by simp only [inb]; omega
  exact wO_i i (cB_i (fun e => h0 (fun q => by omega)) (fun e => wO_i i (cB_i (fun e2 => h0 (fun q => q.2 e2)) (fun e2 => h1 ⟨by omega, e2⟩))))
theorem so_Hastray {gn : Int} {gh : Int → Int} {Q : Int → Prop} (hg : 0 ≤ gn ∧ gn ≤ 16) (h : ∀ r, iR r → (∀ t, 0 ≤ t → t < 32 → (bit r t = true ↔ (t < gn ∧ gh t ≠ -1 ∧ gh t ≠ t))) → Q r) : nf_H_astray gn gh Q := by
  unfold nf_H_astray
  simp only [ci_m1, ci_m10, ci_m1001, ci_m1002, ci_m1003, ci_m1004, ci_0, ci_1, ci_10, ci_100, ci_1000, ci_10000, ci_101, ci_103, ci_104, ci_105, ci_107, ci_108, ci_110, ci_111, ci_114, ci_115, ci_116, ci_118, ci_119, ci_12, ci_122, ci_1431655765, ci_15, ci_16, ci_2, ci_20, ci_23, ci_24, ci_240, ci_252645135, ci_255, ci_256, ci_3, ci_32, ci_4, ci_420, ci_48, ci_5, ci_5040, ci_57, ci_59, ci_6, ci_60, ci_63, ci_64, ci_7, ci_70, ci_8, ci_858993459, ci_9, ci_900, ci_97, ci_99, ci_999, ci_9999, cl_0, cl_1, cl_10, cl_1000000000000, cl_122, cl_2, cl_2000000000000, cl_23, cl_255, cl_27, cl_3, cl_4, cl_48, cl_57, cl_6, cl_8, cl_96, cl_97, cl_99, cl_999, cl_9999]
  refine nlp2_i (fun l i => 0 ≤ i ∧ i ≤ gn ∧ iR l ∧ ∀ t, 0 ≤ t → t < 32 → (bit l t = true ↔ (t < i ∧ gh t ≠ -1 ∧ gh t ≠ t))) (fun _ i => (gn - i).toNat) ?_ ⟨by omega, by omega, by simp only [iR]; omega, fun t t0 t1 => by rw [bt_0]; exact ⟨fun q => absurd q (by decide), fun q => by omega⟩⟩
  intro l i hi self hself
  obtain ⟨i1, i2, i3, i4⟩ := hi
  refine cB_i (fun _ => h l i3 (fun t t0 t1 => ?_)) (fun _ => ?_)
  · rw [show gn = i by omega]; exact i4 t t0 t1
  · refine sp_isAstray (cB_i (fun a => jn1_i (cB_f (by decide) (wL_i (wL_i (wO_i (by simp only [iR]; omega) (hself _ _ ⟨by omega, by omega, iR_ior, fun t t0 t1 => ?_⟩ (by omega))))))) (fun a => jn1_i (cB_t rfl (wO_i (by simp only [iR]; omega) (hself _ _ ⟨by omega, by omega, i3, fun t t0 t1 => ?_⟩ (by omega))))))
    · rw [bt_ior, bt_shl i1 (by omega) t0 t1, Bool.or_eq_true_iff, i4 t t0 t1, decide_eq_true_eq]
      constructor
      · rintro (q | q)
        · exact ⟨by omega, q.2⟩
        · rw [← q]; exact ⟨by omega, a.2.2.2.1, a.2.2.2.2⟩
      · rintro ⟨q1, q2⟩
        by_cases e : i = t
        · exact Or.inr e
        · exact Or.inl ⟨by omega, q2⟩
    · rw [i4 t t0 t1]
      by_cases e : t = i
      · subst e
        exact ⟨fun q => by omega, fun q => absurd ⟨by omega, by omega, by omega, q.2.1, q.2.2⟩ a⟩
      · exact ⟨fun q => ⟨by omega, q.2⟩, fun q => ⟨by omega, q.2⟩⟩
theorem sm_astray {gu : Int} {ha : Int → Int} {Q : Int → Prop} (hgu : 0 ≤ gu ∧ gu ≤ 16) (h : ∀ r, iR r → (∀ t, 0 ≤ t → t < 32 → (bit r t = true ↔ (t < gu ∧ 0 ≤ ha t ∧ ha t ≠ t))) → Q r) : nf_M_astray gu ha Q := by
  unfold nf_M_astray
  simp only [ci_m1, ci_m10, ci_m1001, ci_m1002, ci_m1003, ci_m1004, ci_0, ci_1, ci_10, ci_100, ci_1000, ci_10000, ci_101, ci_103, ci_104, ci_105, ci_107, ci_108, ci_110, ci_111, ci_114, ci_115, ci_116, ci_118, ci_119, ci_12, ci_122, ci_1431655765, ci_15, ci_16, ci_2, ci_20, ci_23, ci_24, ci_240, ci_252645135, ci_255, ci_256, ci_3, ci_32, ci_4, ci_420, ci_48, ci_5, ci_5040, ci_57, ci_59, ci_6, ci_60, ci_63, ci_64, ci_7, ci_70, ci_8, ci_858993459, ci_9, ci_900, ci_97, ci_99, ci_999, ci_9999, cl_0, cl_1, cl_10, cl_1000000000000, cl_122, cl_2, cl_2000000000000, cl_23, cl_255, cl_27, cl_3, cl_4, cl_48, cl_57, cl_6, cl_8, cl_96, cl_97, cl_99, cl_999, cl_9999]
  refine nlp2_i (fun l i => 0 ≤ i ∧ i ≤ gu ∧ iR l ∧ ∀ t, 0 ≤ t → t < 32 → (bit l t = true ↔ (t < i ∧ 0 ≤ ha t ∧ ha t ≠ t))) (fun _ i => (gu - i).toNat) ?_ ⟨by omega, by omega, by simp only [iR]; omega, fun t t0 t1 => by rw [bt_0]; exact ⟨fun q => absurd q (by decide), fun q => by omega⟩⟩
  intro l i hi self hself
  obtain ⟨i1, i2, i3, i4⟩ := hi
  refine cB_i (fun _ => h l i3 (fun t t0 t1 => ?_)) (fun _ => ?_)
  · rw [show gu = i by omega]; exact i4 t t0 t1
  · refine sm_isAstray ⟨by omega, by omega⟩ (fun a => jn1_i (cB_f (by decide) (wL_i (wL_i (wO_i (by simp only [iR]; omega) (hself _ _ ⟨by omega, by omega, iR_ior, fun t t0 t1 => ?_⟩ (by omega))))))) (fun a => jn1_i (cB_t rfl (wL_i (wO_i (by simp only [iR]; omega) (hself _ _ ⟨by omega, by omega, iR_ior, fun t t0 t1 => ?_⟩ (by omega))))))
    · rw [bt_ior, bt_shl i1 (by omega) t0 t1, Bool.or_eq_true_iff, i4 t t0 t1, decide_eq_true_eq]
      constructor
      · rintro (q | q)
        · exact ⟨by omega, q.2⟩
        · rw [← q]; exact ⟨by omega, a⟩
      · rintro ⟨q1, q2⟩
        by_cases e : i = t
        · exact Or.inr e
        · exact Or.inl ⟨by omega, q2⟩
    · rw [bt_ior, bt_0, Bool.or_false, i4 t t0 t1]
      by_cases e : t = i
      · subst e
        exact ⟨fun q => by omega, fun q => absurd q.2 a⟩
      · exact ⟨fun q => ⟨by omega, q.2⟩, fun q => ⟨by omega, q.2⟩⟩
theorem bit_e {a b : Bool} (h : a = true ↔ b = true) : a = b := by
  cases a <;> cases b
  · rfl
  · exact absurd (h.mpr rfl) (by decide)
  · exact absurd (h.mp rfl) (by decide)
  · rfl
theorem sim_astray {gn gu : Int} {gh ha : Int → Int} {K : Int → Int → Prop} (hgu : 0 ≤ gu ∧ gu ≤ 16) (e : gn = gu) (hh : ∀ g, 0 ≤ g → g < gu → gh g = ha g ∧ -1 ≤ ha g) (h : ∀ r r', r = r' → K r r') : nf_H_astray gn gh fun r => nf_M_astray gu ha fun r' => K r r' := by
  subst e
  refine so_Hastray hgu (fun r i1 b1 => sm_astray hgu (fun r' i2 b2 => h _ _ (bit_x i1 i2 (fun t t0 t1 => bit_e ?_))))
  rw [b1 t t0 t1, b2 t t0 t1]
  constructor
  · rintro ⟨q1, q2, q3⟩
    have := hh t t0 q1
    exact ⟨q1, by omega, by omega⟩
  · rintro ⟨q1, q2, q3⟩
    have := hh t t0 q1
    exact ⟨q1, by omega, by omega⟩
/-! the first wrong hand -/
def fw (hb er : Int → Int) (gv g : Int) : Int := if 0 ≤ hb g ∧ er (7 * hb g + 6) = 1 then hb g else if gv < 0 then -1 else if er (7 * gv + 6) = 1 then gv else if 0 ≤ hb (er (7 * gv + 2)) ∧ er (7 * hb (er (7 * gv + 2)) + 6) = 1 then hb (er (7 * gv + 2)) else -1
def GV (ev : Int) (er : Int → Int) (g gv : Int) : Prop := (gv = -1 ∧ ∀ q, 0 ≤ q → q < ev → ¬ (er (7 * q) = 1 ∧ er (7 * q + 5) = g)) ∨ (0 ≤ gv ∧ gv < ev ∧ er (7 * gv) = 1 ∧ er (7 * gv + 5) = g)
theorem so_find0 {gu ev t : Int} {ef er hb hg : Int → Int} {Q : Int → Prop} (hev : 0 ≤ ev ∧ ev ≤ 60) (hF : RF ev ef er) (hE : RE gu ev er hb hg) (ht : 0 ≤ t ∧ t < gu) (hb1 : -1 ≤ hb t) (h : Q (hb t)) : nf_Events_find ev ef 0 t Q := by
  obtain ⟨E1, E2, E3, E4, E5⟩ := hE
  refine sp_find hev (fun r r1 r2 r3 r4 => ?_)
  have e : r = hb t := by
    rcases Int.lt_or_le r 0 with z | z
    · rcases Int.lt_or_le (hb t) 0 with w | w
      · omega
      · have l := E1 t ht.1 ht.2
        have q := (E3 (hb t) t w l ht.1 ht.2).mpr rfl
        refine absurd ⟨?_, ?_⟩ (r4 (by omega) (hb t) w l)
        · rw [hF _ (by omega) (by omega), show hb t * 7 + 0 = 7 * hb t by omega]; exact q.1
        · rw [hF _ (by omega) (by omega), show hb t * 7 + 5 = 7 * hb t + 5 by omega]; exact q.2
    · have q := r3 z
      rw [hF _ (by omega) (by omega), show r * 7 + 0 = 7 * r by omega] at q
      have q2 := q.2.1
      rw [hF _ (by omega) (by omega), show r * 7 + 5 = 7 * r + 5 by omega] at q2
      exact ((E3 r t z r2 ht.1 ht.2).mp ⟨q.1, q2⟩).symm
  rw [e]; exact h
theorem so_find1 {ev t : Int} {ef er : Int → Int} {Q : Int → Prop} (hev : 0 ≤ ev ∧ ev ≤ 60) (hF : RF ev ef er) (h : ∀ r, GV ev er t r → Q r) : nf_Events_find ev ef 1 t Q := by
  refine sp_find hev (fun r r1 r2 r3 r4 => h r ?_)
  rcases Int.lt_or_le r 0 with z | z
  · refine Or.inl ⟨by omega, fun q q0 q1 q2 => r4 (by omega) q q0 q1 ?_⟩
    rw [hF _ (by omega) (by omega), hF _ (by omega) (by omega), show q * 7 + 0 = 7 * q by omega, show q * 7 + 5 = 7 * q + 5 by omega]
    exact q2
  · have q := r3 z
    rw [hF _ (by omega) (by omega), show r * 7 + 0 = 7 * r by omega] at q
    have q2 := q.2.1
    rw [hF _ (by omega) (by omega), show r * 7 + 5 = 7 * r + 5 by omega] at q2
    exact Or.inr ⟨z, r2, q.1, q2⟩
theorem so_wasWrong {ev e : Int} {ef er : Int → Int} {Q : Int → Prop} (hev : 0 ≤ ev ∧ ev ≤ 60) (hF : RF ev ef er) (he : e < ev) (h : cB (0 ≤ e ∧ er (7 * e + 6) = 1) (Q 1) (Q 0)) : nf_Events_wasWrong ev ef e Q := by
  refine sp_wasWrong (cB_i (fun a => h.1 ⟨a.1, ?_⟩) (fun a => h.2 (fun b => a ⟨b.1, he, by omega, ?_⟩)))
  · have := a.2.2.2
    rw [hF _ (by omega) (by omega), show e * 7 + 6 = 7 * e + 6 by omega] at this
    exact this
  · rw [hF _ (by omega) (by omega), show e * 7 + 6 = 7 * e + 6 by omega]; exact b.2
theorem so_firstWrong {gu ev g : Int} {ef er hb hg : Int → Int} {Q : Int → Prop} (hev : 0 ≤ ev ∧ ev ≤ 60) (hF : RF ev ef er) (hE : RE gu ev er hb hg) (hb1 : ∀ t, 0 ≤ t → t < gu → -1 ≤ hb t) (ht : 0 ≤ g ∧ g < gu) (h : ∀ gv, GV ev er g gv → Q (fw hb er gv g)) : nf_Events_firstWrong ev ef g Q := by
  unfold nf_Events_firstWrong
  simp only [ci_m1, ci_m10, ci_m1001, ci_m1002, ci_m1003, ci_m1004, ci_0, ci_1, ci_10, ci_100, ci_1000, ci_10000, ci_101, ci_103, ci_104, ci_105, ci_107, ci_108, ci_110, ci_111, ci_114, ci_115, ci_116, ci_118, ci_119, ci_12, ci_122, ci_1431655765, ci_15, ci_16, ci_2, ci_20, ci_23, ci_24, ci_240, ci_252645135, ci_255, ci_256, ci_3, ci_32, ci_4, ci_420, ci_48, ci_5, ci_5040, ci_57, ci_59, ci_6, ci_60, ci_63, ci_64, ci_7, ci_70, ci_8, ci_858993459, ci_9, ci_900, ci_97, ci_99, ci_999, ci_9999, cl_0, cl_1, cl_10, cl_1000000000000, cl_122, cl_2, cl_2000000000000, cl_23, cl_255, cl_27, cl_3, cl_4, cl_48, cl_57, cl_6, cl_8, cl_96, cl_97, cl_99, cl_999, cl_9999]
  have E1 := hE.1
  have E2 := hE.2.1
  refine so_find0 hev hF hE ht (hb1 g ht.1 ht.2) (so_wasWrong hev hF (E1 g ht.1 ht.2) (cB_i (fun a => cB_f (by decide) ?_) (fun a => cB_t rfl ?_)))
  · rcases Classical.em (∃ gv, GV ev er g gv) with ⟨gv, q⟩ | q
    · have := h gv q
      unfold fw at this
      rw [if_pos a] at this
      exact this
    · refine absurd ⟨-1, Or.inl ⟨rfl, fun e e0 e1 e2 => q ⟨e, Or.inr ⟨e0, e1, e2.1, e2.2⟩⟩⟩⟩ q
  · refine so_find1 hev hF (fun gv hgv => ?_)
    have h2 := h gv hgv
    unfold fw at h2
    rw [if_neg a] at h2
    rcases hgv with ⟨q, _⟩ | ⟨q0, q1, q2, q3⟩
    · rw [if_pos (by omega)] at h2
      exact cB_t q h2
    · rw [if_neg (by omega)] at h2
      refine cB_f (by omega) (so_wasWrong hev hF q1 (cB_i (fun b => cB_f (by decide) ?_) (fun b => cB_t rfl ?_)))
      · rw [if_pos b.2] at h2; exact h2
      · rw [if_neg (fun w => b ⟨q0, w⟩)] at h2
        have e2 := E2 gv q0 q1
        refine sp_factOf (cB_t ⟨q0, q1, by omega, by omega, by omega⟩ ?_)
        rw [hF _ (by omega) (by omega), show gv * 7 + 2 = 7 * gv + 2 by omega]
        refine so_find0 hev hF hE ⟨e2.2.2.1, e2.2.2.2.1⟩ (hb1 _ e2.2.2.1 e2.2.2.2.1) (so_wasWrong hev hF (E1 _ e2.2.2.1 e2.2.2.2.1) (cB_i (fun c => cB_f (by decide) ?_) (fun c => cB_t rfl ?_)))
        · rw [if_pos c] at h2; exact h2
        · rw [if_neg c] at h2; exact h2
theorem sm_wrong {gu ev x y : Int} {so ti ha hb hg er : Int → Int} {Q : Int → Prop} (hm : mS gu so ti ha hb hg) (hev : 0 ≤ ev ∧ ev ≤ 60) (he : mE er) (hE : RE gu ev er hb hg) (h0 : ¬ (0 ≤ x ∧ x < gu) → Q (-1001)) (h1 : 0 ≤ x ∧ x < gu → ¬ (0 ≤ y ∧ y ≤ 1) → Q (-1002)) (h : 0 ≤ x ∧ x < gu → 0 ≤ y ∧ y ≤ 1 → ∀ gv, GV ev er x gv → Q (if fw hb er gv x < 0 then -1 else if y = 0 then er (7 * fw hb er gv x + 1) else fw hb er gv x)) : nf_M_wrong gu ev hb er x y Q := by
  unfold nf_M_wrong
  simp only [ci_m1, ci_m10, ci_m1001, ci_m1002, ci_m1003, ci_m1004, ci_0, ci_1, ci_10, ci_100, ci_1000, ci_10000, ci_101, ci_103, ci_104, ci_105, ci_107, ci_108, ci_110, ci_111, ci_114, ci_115, ci_116, ci_118, ci_119, ci_12, ci_122, ci_1431655765, ci_15, ci_16, ci_2, ci_20, ci_23, ci_24, ci_240, ci_252645135, ci_255, ci_256, ci_3, ci_32, ci_4, ci_420, ci_48, ci_5, ci_5040, ci_57, ci_59, ci_6, ci_60, ci_63, ci_64, ci_7, ci_70, ci_8, ci_858993459, ci_9, ci_900, ci_97, ci_99, ci_999, ci_9999, cl_0, cl_1, cl_10, cl_1000000000000, cl_122, cl_2, cl_2000000000000, cl_23, cl_255, cl_27, cl_3, cl_4, cl_48, cl_57, cl_6, cl_8, cl_96, cl_97, cl_99, cl_999, cl_9999]
  have g0 := hm.1
  have g1 := hm.2.1
  have E1 := hE.1
  have E2 := hE.2.1
  refine sp_isGuest ⟨g0, g1⟩ (cB_i (fun a1 => cB_f (by decide) ?_) (fun a1 => cB_t rfl (h0 a1)))
  refine wL_i (sp_in (cB_i (fun a2 => cB_f (by decide) ?_) (fun a2 => cB_t rfl (h1 a1 a2))))
  have h := h a1 a2
  have b1 := hm.2.2.1 x a1.1 (by omega)
  refine nlp2_i (fun l i => 0 ≤ i ∧ i ≤ ev ∧ ((l = -1 ∧ ∀ q, 0 ≤ q → q < i → ¬ (er (7 * q) = 1 ∧ er (7 * q + 5) = x)) ∨ (0 ≤ l ∧ l < i ∧ er (7 * l) = 1 ∧ er (7 * l + 5) = x))) (fun _ i => (ev - i).toNat) ?_ ⟨by omega, by omega, Or.inl ⟨rfl, by omega⟩⟩
  intro l i hi self hself
  obtain ⟨i1, i2, i3⟩ := hi
  have ix : inb x 16 := by simp only [inb]; omega
  refine cB_i (fun e0 => wO_i ix ?_) (fun _ => wO_i (by simp only [iR]; omega) (wO_i (by simp only [inb]; omega) ?_))
  · have ei : i = ev := by omega
    subst ei
    have hl : -1 ≤ l ∧ l < i := by rcases i3 with q | q <;> omega
    have h := h l i3
    have hx1 := E1 x a1.1 a1.2
    refine jn1_s (fun t => t = fw hb er l x) (fun t ht => ?_) ?_
    · have tb : t < 60 := by
        rw [ht]; unfold fw
        split
        · omega
        · split
          · omega
          · split
            · omega
            · split
              · have e2 := E2 l (by omega) (by omega)
                have := E1 _ e2.2.2.1 e2.2.2.2.1
                omega
              · omega
      rw [← ht] at h
      refine cB_i (fun e => cB_i (fun e2 => wO_i (by simp only [iR]; omega) (wO_i (by simp only [iR]; omega) (wO_i (by simp only [inb]; omega) ?_))) (fun e2 => ?_)) (fun e => ?_)
      · rw [if_neg (by omega), if_pos e2] at h; exact h
      · rw [if_neg (by omega), if_neg e2] at h; exact h
      · rw [if_pos (by omega)] at h; exact h
    · refine jn0_s (¬ (0 ≤ hb x ∧ er (7 * hb x + 6) = 1)) (fun nA => ?_) ?_
      · have e1 : fw hb er l x = if l < 0 then -1 else if er (7 * l + 6) = 1 then l else if 0 ≤ hb (er (7 * l + 2)) ∧ er (7 * hb (er (7 * l + 2)) + 6) = 1 then hb (er (7 * l + 2)) else -1 := if_neg nA
        refine cB_i (fun e => by rw [e1, if_pos e]) (fun e => ?_)
        rw [if_neg e] at e1
        have e2 := he l (by omega) (by omega)
        have b2 := hm.2.2.1 (er (7 * l + 2)) e2.1 e2.2
        refine wO_i (by simp only [iR]; omega) (wO_i (by simp only [iR]; omega) (wO_i (by simp only [inb]; omega) (wO_i (by simp only [inb]; omega) (wO_i (by simp only [iR]; omega) (wO_i (by simp only [iR]; omega) (wO_i (by simp only [inb]; omega) ?_))))))
        refine jn1_s (fun t => t = fw hb er l x) (fun t ht => ht) (cB_i (fun e3 => by rw [e1, if_pos e3]) (fun e3 => ?_))
        rw [if_neg e3] at e1
        refine jn0_s (¬ (0 ≤ hb (er (7 * l + 2)) ∧ er (7 * hb (er (7 * l + 2)) + 6) = 1)) (fun nB => by rw [e1, if_neg nB]) (cB_i (fun e4 => fun q => by omega) (fun e4 => wO_i (by simp only [iR]; omega) (wO_i (by simp only [iR]; omega) (wO_i (by simp only [inb]; omega) (cB_i (fun e5 => by rw [e1, if_pos ⟨by omega, e5⟩]) (fun e5 => fun q => e5 q.2))))))
      · exact cB_i (fun e => fun q => by omega) (fun e => wO_i ix (wO_i (by simp only [iR]; omega) (wO_i (by simp only [iR]; omega) (wO_i (by simp only [inb]; omega) (cB_i (fun e5 => wO_i ix (if_pos ⟨by omega, e5⟩).symm) (fun e5 => fun q => e5 q.2))))))
  · refine jn1_s (fun t => ((t = -1 ∧ ∀ q, 0 ≤ q → q < i + 1 → ¬ (er (7 * q) = 1 ∧ er (7 * q + 5) = x)) ∨ (0 ≤ t ∧ t < i + 1 ∧ er (7 * t) = 1 ∧ er (7 * t + 5) = x))) (fun t ht => wO_i (by simp only [iR]; omega) (hself _ _ ⟨by omega, by omega, ht⟩ (by omega))) ?_
    refine jn0_s (¬ (er (7 * i) = 1 ∧ er (7 * i + 5) = x)) (fun nq => ?_) (cB_i (fun e1 => wO_i (by simp only [iR]; omega) (wO_i (by simp only [iR]; omega) (wO_i (by simp only [inb]; omega) (cB_i (fun e2 => Or.inr ⟨i1, by omega, e1, e2⟩) (fun e2 => fun q => e2 q.2))))) (fun e1 => fun q => e1 q.1))
    rcases i3 with ⟨q1, q2⟩ | q
    · refine Or.inl ⟨q1, fun q q0 q3 => ?_⟩
      by_cases e : q = i
      · rw [e]; exact nq
      · exact q2 q q0 (by omega)
    · exact Or.inr ⟨q.1, by omega, q.2.2⟩
theorem sim_wrong {gn gu en ev x y : Int} {ef so ti ha hb hg er : Int → Int} {K : Int → Int → Prop} (hm : mS gu so ti ha hb hg) (hev : 0 ≤ ev ∧ ev ≤ 60) (he : mE er) (hE : RE gu ev er hb hg) (hF : RF ev ef er) (e1 : gn = gu) (e2 : en = ev) (h : ∀ r r', r = r' → K r r') : nf_H_wrong gn en ef x y fun r => nf_M_wrong gu ev hb er x y fun r' => K r r' := by
  subst e1 e2
  unfold nf_H_wrong
  simp only [ci_m1, ci_m10, ci_m1001, ci_m1002, ci_m1003, ci_m1004, ci_0, ci_1, ci_10, ci_100, ci_1000, ci_10000, ci_101, ci_103, ci_104, ci_105, ci_107, ci_108, ci_110, ci_111, ci_114, ci_115, ci_116, ci_118, ci_119, ci_12, ci_122, ci_1431655765, ci_15, ci_16, ci_2, ci_20, ci_23, ci_24, ci_240, ci_252645135, ci_255, ci_256, ci_3, ci_32, ci_4, ci_420, ci_48, ci_5, ci_5040, ci_57, ci_59, ci_6, ci_60, ci_63, ci_64, ci_7, ci_70, ci_8, ci_858993459, ci_9, ci_900, ci_97, ci_99, ci_999, ci_9999, cl_0, cl_1, cl_10, cl_1000000000000, cl_122, cl_2, cl_2000000000000, cl_23, cl_255, cl_27, cl_3, cl_4, cl_48, cl_57, cl_6, cl_8, cl_96, cl_97, cl_99, cl_999, cl_9999]
  have g1 := hm.2.1
  refine sp_knows (cB_i (fun a => cB_f (by decide) ?_) (fun a => cB_t rfl (sm_wrong hm hev he hE (fun _ => h _ _ rfl) (fun v => absurd ⟨v.1, v.2, by omega⟩ a) (fun v => absurd ⟨v.1, v.2, by omega⟩ a))))
  have v : 0 ≤ x ∧ x < gn := ⟨a.1, a.2.1⟩
  refine sp_within (cB_i (fun b => cB_f (by decide) ?_) (fun b => cB_t rfl (sm_wrong hm hev he hE (fun w => absurd v w) (fun _ _ => h _ _ rfl) (fun _ w => absurd w b))))
  refine so_firstWrong hev hF hE (fun t t0 t1 => (hm.2.2.1 t t0 (by omega)).2.2.2.2.1) v (fun gv hgv => ?_)
  have uniq : ∀ gv', GV en er x gv' → gv' = gv := fun gv' q => by
    rcases hgv with ⟨p1, p2⟩ | ⟨p1, p2, p3, p4⟩ <;> rcases q with ⟨q1, q2⟩ | ⟨q1, q2, q3, q4⟩
    · omega
    · exact absurd ⟨q3, q4⟩ (p2 gv' q1 q2)
    · exact absurd ⟨p3, p4⟩ (q2 gv p1 p2)
    · exact hE.2.2.2.2 gv' gv q1 q2 p1 p2 q3 p3 (by rw [q4, p4])
  have fb : fw hb er gv x < en := by
    have hx1 := hE.1 x v.1 v.2
    unfold fw
    split
    · omega
    · split
      · omega
      · rcases hgv with q | q
        · omega
        · split
          · omega
          · split
            · have e2 := hE.2.1 gv q.1 q.2.1
              exact hE.1 _ e2.2.2.1 e2.2.2.2.1
            · omega
  have fb0 : -1 ≤ fw hb er gv x := by
    unfold fw
    split
    · omega
    · split
      · omega
      · split
        · omega
        · split <;> omega
  refine cB_i (fun e => sp_factOf (cB_i (fun c => sm_wrong hm hev he hE (fun w => absurd v w) (fun _ w => absurd b w) (fun _ _ gv' q => h _ _ ?_)) (fun c => sm_wrong hm hev he hE (fun w => absurd v w) (fun _ w => absurd b w) (fun _ _ gv' q => h _ _ ?_)))) (fun e => sm_wrong hm hev he hE (fun w => absurd v w) (fun _ w => absurd b w) (fun _ _ gv' q => h _ _ ?_))
  · rw [uniq gv' q, if_neg (by omega), if_pos e, hF _ (by omega) (by omega), show fw hb er gv x * 7 + 1 = 7 * fw hb er gv x + 1 by omega]
  · rw [uniq gv' q, if_pos (by omega)]
  · rw [uniq gv' q, if_neg e]
    by_cases z : fw hb er gv x < 0
    · rw [if_pos z]; omega
    · rw [if_neg z]
/-! chains -/
def cs (ha : Int → Int) (x : Int) : Nat → Int
  | 0 => x
  | n + 1 => if cs ha x n < 0 then -1 else if ha (cs ha x n) = x then -1 else ha (cs ha x n)
theorem cs_s (ha : Int → Int) (x : Int) (n : Nat) : cs ha x (n + 1) = if cs ha x n < 0 then -1 else if ha (cs ha x n) = x then -1 else ha (cs ha x n) := rfl
theorem cs_b {gu x : Int} {ha : Int → Int} (hha : ∀ g, 0 ≤ g → g < gu → -1 ≤ ha g ∧ ha g < gu) (hx : 0 ≤ x ∧ x < gu) : ∀ n, -1 ≤ cs ha x n ∧ cs ha x n < gu := by
  intro n
  induction n with
  | zero => exact ⟨by show -1 ≤ x; omega, hx.2⟩
  | succ n ih =>
    rw [cs_s]
    split
    · omega
    · split
      · omega
      · exact hha _ (by omega) ih.2
theorem cs_m (ha : Int → Int) (x : Int) {n : Nat} (h : cs ha x n < 0) : ∀ m, n < m → cs ha x m = -1 := by
  intro m
  induction m with
  | zero => omega
  | succ m ih =>
    intro hm
    rw [cs_s]
    by_cases e : n = m
    · subst e; rw [if_pos h]
    · rw [if_pos (by rw [ih (by omega)]; decide)]
theorem so_next {gn a : Int} {gh ha : Int → Int} {n : Nat} {Q : Int → Prop} (hg : 0 ≤ gn ∧ gn ≤ 16) (hh : ∀ g, 0 ≤ g → g < gn → gh g = ha g) (hb : cs ha a n < gn) (h : Q (cs ha a (n + 1))) : nf_Guests_nextInChain gn gh a (cs ha a n) Q := by
  rw [cs_s] at h
  refine sp_nextInChain (cB_i (fun q => ?_) (fun q => ?_))
  · rw [hh _ q.1 q.2.1]
    have q2 := q.2.2.2
    rw [hh _ q.1 q.2.1] at q2
    rw [if_neg (by omega), if_neg q2] at h
    exact h
  · by_cases e : cs ha a n < 0
    · rw [if_pos e] at h; exact h
    · rw [if_neg e] at h
      by_cases e2 : ha (cs ha a n) = a
      · rw [if_pos e2] at h; exact h
      · exact absurd ⟨by omega, hb, by omega, by rw [hh _ (by omega) hb]; exact e2⟩ q
theorem so_chainLength {gn a : Int} {gh ha : Int → Int} {Q : Int → Prop} (hg : 0 ≤ gn ∧ gn ≤ 16) (hha : ∀ g, 0 ≤ g → g < gn → -1 ≤ ha g ∧ ha g < gn) (hh : ∀ g, 0 ≤ g → g < gn → gh g = ha g) (hx : 0 ≤ a ∧ a < gn) (h : ∀ n : Nat, n ≤ 16 → (cs ha a n < 0 ∨ n = 16) → (∀ j, j < n → 0 ≤ cs ha a j) → Q n) : nf_Guests_chainLength gn gh a Q := by
  unfold nf_Guests_chainLength
  simp only [ci_m1, ci_m10, ci_m1001, ci_m1002, ci_m1003, ci_m1004, ci_0, ci_1, ci_10, ci_100, ci_1000, ci_10000, ci_101, ci_103, ci_104, ci_105, ci_107, ci_108, ci_110, ci_111, ci_114, ci_115, ci_116, ci_118, ci_119, ci_12, ci_122, ci_1431655765, ci_15, ci_16, ci_2, ci_20, ci_23, ci_24, ci_240, ci_252645135, ci_255, ci_256, ci_3, ci_32, ci_4, ci_420, ci_48, ci_5, ci_5040, ci_57, ci_59, ci_6, ci_60, ci_63, ci_64, ci_7, ci_70, ci_8, ci_858993459, ci_9, ci_900, ci_97, ci_99, ci_999, ci_9999, cl_0, cl_1, cl_10, cl_1000000000000, cl_122, cl_2, cl_2000000000000, cl_23, cl_255, cl_27, cl_3, cl_4, cl_48, cl_57, cl_6, cl_8, cl_96, cl_97, cl_99, cl_999, cl_9999]
  refine nlp2_i (fun g l => 0 ≤ l ∧ l ≤ 16 ∧ g = cs ha a l.toNat ∧ ∀ j, j < l.toNat → 0 ≤ cs ha a j) (fun _ l => (16 - l).toNat) ?_ ⟨by omega, by omega, rfl, by omega⟩
  intro g l hi self hself
  obtain ⟨i1, i2, i3, i4⟩ := hi
  have hb := cs_b hha hx l.toNat
  have el : ((l.toNat : Nat) : Int) = l := by omega
  have fin : (cs ha a l.toNat < 0 ∨ l.toNat = 16) → Q l := fun q => by
    have := h l.toNat (by omega) q i4
    rwa [el] at this
  refine cB_i (fun e => fin (Or.inl (by omega))) (fun e => cB_i (fun e2 => fin (Or.inr (by omega))) (fun e2 => ?_))
  rw [i3]
  refine so_next hg hh hb.2 (wO_i (by simp only [iR]; omega) (hself _ _ ⟨by omega, by omega, by rw [show (l + 1).toNat = l.toNat + 1 by omega], fun j hj => ?_⟩ (by omega)))
  by_cases ej : j = l.toNat
  · rw [ej]; omega
  · exact i4 j (by omega)
theorem so_chainMember {gn a i : Int} {gh ha : Int → Int} {Q : Int → Prop} (hi : i ≤ 2147483647) (hg : 0 ≤ gn ∧ gn ≤ 16) (hha : ∀ g, 0 ≤ g → g < gn → -1 ≤ ha g ∧ ha g < gn) (hh : ∀ g, 0 ≤ g → g < gn → gh g = ha g) (hx : 0 ≤ a ∧ a < gn) (h0 : i < 0 → Q (-1)) (h : 0 ≤ i → Q (cs ha a i.toNat)) : nf_Guests_chainMember gn gh a i Q := by
  unfold nf_Guests_chainMember
  simp only [ci_m1, ci_m10, ci_m1001, ci_m1002, ci_m1003, ci_m1004, ci_0, ci_1, ci_10, ci_100, ci_1000, ci_10000, ci_101, ci_103, ci_104, ci_105, ci_107, ci_108, ci_110, ci_111, ci_114, ci_115, ci_116, ci_118, ci_119, ci_12, ci_122, ci_1431655765, ci_15, ci_16, ci_2, ci_20, ci_23, ci_24, ci_240, ci_252645135, ci_255, ci_256, ci_3, ci_32, ci_4, ci_420, ci_48, ci_5, ci_5040, ci_57, ci_59, ci_6, ci_60, ci_63, ci_64, ci_7, ci_70, ci_8, ci_858993459, ci_9, ci_900, ci_97, ci_99, ci_999, ci_9999, cl_0, cl_1, cl_10, cl_1000000000000, cl_122, cl_2, cl_2000000000000, cl_23, cl_255, cl_27, cl_3, cl_4, cl_48, cl_57, cl_6, cl_8, cl_96, cl_97, cl_99, cl_999, cl_9999]
  refine cB_i (fun i0 => ?_) (fun i0 => h0 (by omega))
  refine nlp2_i (fun g l => 0 ≤ l ∧ l ≤ i ∧ g = cs ha a l.toNat) (fun _ l => (i - l).toNat) ?_ ⟨by omega, by omega, rfl⟩
  intro g l hi2 self hself
  obtain ⟨i1, i2, i3⟩ := hi2
  have hb := cs_b hha hx l.toNat
  refine cB_i (fun e => ?_) (fun e => cB_i (fun e2 => ?_) (fun e2 => ?_))
  · rw [i3, show l = i by omega]; exact h i0
  · have := h i0
    rw [cs_m ha a (n := l.toNat) (by omega) i.toNat (by omega)] at this
    rw [e2]; exact this
  · rw [i3]
    exact so_next hg hh hb.2 (wO_i (by simp only [iR]; omega) (hself _ _ ⟨by omega, by omega, by rw [show (l + 1).toNat = l.toNat + 1 by omega]⟩ (by omega)))
theorem sm_findChain {gu cm ir x : Int} {ha ch : Int → Int} {Q : Int → Int → (Int → Int) → Prop} (hgu : 0 ≤ gu ∧ gu ≤ 16) (hha : ∀ g, 0 ≤ g → g < gu → -1 ≤ ha g ∧ ha g < gu) (hinj : ∀ g k, 0 ≤ g → g < gu → 0 ≤ k → k < gu → 0 ≤ ha g → ha g = ha k → g = k) (hx : 0 ≤ x ∧ x < gu) (h : ∀ (n : Nat) r c, 1 ≤ n → n ≤ 16 → (∀ j : Nat, j < n → c j = cs ha x j ∧ 0 ≤ cs ha x j) → (∀ j : Nat, 1 ≤ j → j < n → cs ha x j ≠ x) → cs ha x n < 0 → ((r = 1 ∧ ha (cs ha x (n - 1)) = x) ∨ (r = 0 ∧ ha (cs ha x (n - 1)) ≠ x)) → Q n r c) : nf_M_findChain cm ir ha ch x Q := by
  unfold nf_M_findChain
  simp only [ci_m1, ci_m10, ci_m1001, ci_m1002, ci_m1003, ci_m1004, ci_0, ci_1, ci_10, ci_100, ci_1000, ci_10000, ci_101, ci_103, ci_104, ci_105, ci_107, ci_108, ci_110, ci_111, ci_114, ci_115, ci_116, ci_118, ci_119, ci_12, ci_122, ci_1431655765, ci_15, ci_16, ci_2, ci_20, ci_23, ci_24, ci_240, ci_252645135, ci_255, ci_256, ci_3, ci_32, ci_4, ci_420, ci_48, ci_5, ci_5040, ci_57, ci_59, ci_6, ci_60, ci_63, ci_64, ci_7, ci_70, ci_8, ci_858993459, ci_9, ci_900, ci_97, ci_99, ci_999, ci_9999, cl_0, cl_1, cl_10, cl_1000000000000, cl_122, cl_2, cl_2000000000000, cl_23, cl_255, cl_27, cl_3, cl_4, cl_48, cl_57, cl_6, cl_8, cl_96, cl_97, cl_99, cl_999, cl_9999]
  refine wO_i (by simp only [inb]; omega) (wO_i (by simp only [inb]; omega) ?_)
  have hx2 := hha x hx.1 hx.2
  refine nlp3_i (fun l n C => 1 ≤ n ∧ n ≤ gu ∧ -1 ≤ l ∧ l < gu ∧ C 0 = x ∧ (∀ i, 0 ≤ i → i < n → 0 ≤ C i ∧ C i < gu) ∧ (∀ i j, 0 ≤ i → i < n → 0 ≤ j → j < n → C i = C j → i = j) ∧ (∀ i, 0 ≤ i → i + 1 < n → C (i + 1) = ha (C i)) ∧ l = ha (C (n - 1))) (fun _ n _ => (17 - n).toNat) ?_ ⟨by omega, by omega, hx2.1, hx2.2, by rw [ups_s], fun i a b => ?_, by omega, by omega, ?_⟩
  · intro l n C hi self hself
    obtain ⟨i1, i2, i3, i4, i5, i6, i7, i8, i9⟩ := hi
    refine jn0_s (l < 0 ∨ l = x) (fun hl => ?_) ?_
    · have hc : ∀ j : Nat, j < n.toNat → C j = cs ha x j := fun j => by
        induction j with
        | zero => intro _; exact i5
        | succ j ih =>
          intro hj
          have q := i8 j (by omega) (by omega)
          have e := ih (by omega)
          have b := i6 j (by omega) (by omega)
          have b2 := i6 ((j : Int) + 1) (by omega) (by omega)
          have ne : C ((j : Int) + 1) ≠ x := fun w => by
            have := i7 ((j : Int) + 1) 0 (by omega) (by omega) (by omega) (by omega) (by rw [w, i5])
            omega
          rw [cs_s, ← e, if_neg (by omega), if_neg (by rw [← q]; exact ne), ← q]
          rfl
      have en : ((n.toNat : Nat) : Int) = n := by omega
      have last := hc (n.toNat - 1) (by omega)
      rw [show ((n.toNat - 1 : Nat) : Int) = n - 1 by omega] at last
      have lb := i6 (n - 1) (by omega) (by omega)
      have hend : cs ha x n.toNat < 0 := by
        rw [show n.toNat = (n.toNat - 1) + 1 by omega, cs_s, ← last, if_neg (by omega), ← i9]
        by_cases e : l = x
        · rw [if_pos e]; decide
        · rw [if_neg e]; omega
      refine jn1_s (fun t => (t = 1 ∧ l = x) ∨ (t = 0 ∧ l ≠ x)) (fun t ht => wO_i (by simp only [bZ]; omega) ?_) (cB_i (fun e => Or.inl ⟨rfl, e⟩) (fun e => Or.inr ⟨rfl, e⟩))
      have g := h n.toNat t C (by omega) (by omega) (fun j hj => ⟨hc j hj, by rw [← hc j hj]; exact (i6 j (by omega) (by omega)).1⟩) (fun j j1 hj w => by
        rw [← hc j hj] at w
        have := i7 j 0 (by omega) (by omega) (by omega) (by omega) (by rw [w, i5])
        omega) hend (by rw [← last, ← i9]; exact ht)
      rwa [en] at g
    · refine cB_i (fun e => Or.inl e) (fun e => cB_i (fun e2 => Or.inr e2) (fun hlx => ?_))
      have c1 := i6 (n - 1) (by omega) (by omega)
      have hnew : ∀ j, 0 ≤ j → j < n → C j ≠ l := by
        intro j j0 j1 e
        by_cases e0 : j = 0
        · subst e0; omega
        · have q := i8 (j - 1) (by omega) (by omega)
          rw [show j - 1 + 1 = j by omega] at q
          have c2 := i6 (j - 1) (by omega) (by omega)
          have q2 := hinj (C (n - 1)) (C (j - 1)) c1.1 c1.2 c2.1 c2.2 (by omega) (by omega)
          have q3 := i7 (n - 1) (j - 1) (by omega) (by omega) (by omega) (by omega) q2
          omega
      have hl2 := hha l (by omega) i4
      have ng : n + 1 ≤ gu := by
        refine pgn (f := ups C n l) (by omega) hgu.1 (fun i a b => ?_) (fun i j a b c d e => ?_)
        · by_cases ei : i = n
          · subst ei; rw [ups_s]; omega
          · rw [ups_n ei]; exact i6 i a (by omega)
        · by_cases ei : i = n <;> by_cases ej : j = n
          · omega
          · subst ei; rw [ups_s, ups_n ej] at e; exact absurd e.symm (hnew j c (by omega))
          · subst ej; rw [ups_n ei, ups_s] at e; exact absurd e (hnew i a (by omega))
          · rw [ups_n ei, ups_n ej] at e; exact i7 i j a (by omega) c (by omega) e
      refine wO_i (by simp only [inb]; omega) (wO_i (by simp only [iR]; omega) (wO_i (by simp only [inb]; omega) (hself _ _ _ ⟨by omega, by omega, hl2.1, hl2.2, by rw [ups_n (by omega)]; exact i5, fun i a b => ?_, fun i j a b c d e => ?_, fun i a b => ?_, ?_⟩ (by omega))))
      · by_cases ei : i = n
        · subst ei; rw [ups_s]; omega
        · rw [ups_n ei]; exact i6 i a (by omega)
      · by_cases ei : i = n <;> by_cases ej : j = n
        · omega
        · subst ei; rw [ups_s, ups_n ej] at e; exact absurd e.symm (hnew j c (by omega))
        · subst ej; rw [ups_n ei, ups_s] at e; exact absurd e (hnew i a (by omega))
        · rw [ups_n ei, ups_n ej] at e; exact i7 i j a (by omega) c (by omega) e
      · by_cases ei : i + 1 = n
        · subst ei; rw [ups_s, ups_n (by omega), i9, show i + 1 - 1 = i by omega]
        · rw [ups_n ei, ups_n (by omega)]; exact i8 i a (by omega)
      · rw [show n + 1 - 1 = n by omega, ups_s]
  · have : i = 0 := by omega
    subst this; rw [ups_s]; exact hx
  · show ha x = ha (ups ch 0 x (1 - 1))
    rw [show (1 : Int) - 1 = 0 by omega, ups_s]
theorem ch_len {ha : Int → Int} {x : Int} {n m : Nat} (h1 : cs ha x n < 0) (h2 : ∀ j, j < n → 0 ≤ cs ha x j) (hn : n ≤ 16) (h3 : cs ha x m < 0 ∨ m = 16) (h4 : ∀ j, j < m → 0 ≤ cs ha x j) (hm : m ≤ 16) : m = n := by
  rcases Nat.lt_trichotomy m n with z | z | z
  · rcases h3 with q | q
    · have := h2 m z; omega
    · omega
  · exact z
  · have := h4 n z; omega
theorem sim_chain {gn gu cm ir x y : Int} {gh so ti ha hb hg ch : Int → Int} {K : Int → Int → Int → Int → (Int → Int) → Prop} (hy : y ≤ 2147483647) (hm : mS gu so ti ha hb hg) (e : gn = gu) (hh : ∀ g, 0 ≤ g → g < gu → gh g = ha g) (h : ∀ r r' a b c, r = r' → K r r' a b c) : nf_H_chain gn gh x y fun r => nf_M_chain gu cm ir ha ch x y fun r' a b c => K r r' a b c := by
  subst e
  have hgu : 0 ≤ gn ∧ gn ≤ 16 := ⟨hm.1, hm.2.1⟩
  unfold nf_H_chain nf_M_chain
  simp only [ci_m1, ci_m10, ci_m1001, ci_m1002, ci_m1003, ci_m1004, ci_0, ci_1, ci_10, ci_100, ci_1000, ci_10000, ci_101, ci_103, ci_104, ci_105, ci_107, ci_108, ci_110, ci_111, ci_114, ci_115, ci_116, ci_118, ci_119, ci_12, ci_122, ci_1431655765, ci_15, ci_16, ci_2, ci_20, ci_23, ci_24, ci_240, ci_252645135, ci_255, ci_256, ci_3, ci_32, ci_4, ci_420, ci_48, ci_5, ci_5040, ci_57, ci_59, ci_6, ci_60, ci_63, ci_64, ci_7, ci_70, ci_8, ci_858993459, ci_9, ci_900, ci_97, ci_99, ci_999, ci_9999, cl_0, cl_1, cl_10, cl_1000000000000, cl_122, cl_2, cl_2000000000000, cl_23, cl_255, cl_27, cl_3, cl_4, cl_48, cl_57, cl_6, cl_8, cl_96, cl_97, cl_99, cl_999, cl_9999]
  refine sp_knows (cB_i (fun a => cB_f (by decide) ?_) (fun a => cB_t rfl (sp_isGuest hgu (cB_f (fun v => a ⟨v.1, v.2, by omega⟩) (cB_t rfl (h _ _ _ _ _ rfl))))))
  have v : 0 ≤ x ∧ x < gn := ⟨a.1, a.2.1⟩
  have hx := hh x v.1 v.2
  have hx2 := hm.2.2.2.1 x v.1 v.2
  refine sp_isAstray (cB_i (fun b => cB_f (by decide) ?_) (fun b => cB_t rfl (sp_isGuest hgu (cB_t v (cB_f (by decide) (sm_isAstray ⟨v.1, a.2.2⟩ (fun w => absurd ⟨a.1, a.2.1, a.2.2, by omega, by omega⟩ b) (fun _ => cB_t rfl (h _ _ _ _ _ rfl))))))))
  have mrun : ∀ {Q : Int → Int → Int → (Int → Int) → Prop}, (∀ (n : Nat) r c, 1 ≤ n → n ≤ 16 → (∀ j : Nat, j < n → c j = cs ha x j ∧ 0 ≤ cs ha x j) → cs ha x n < 0 → (y = -1 → Q n n r c) ∧ (y ≠ -1 → 0 ≤ y → y < n → Q (cs ha x y.toNat) n r c) ∧ (y ≠ -1 → ¬ (0 ≤ y ∧ y < n) → Q (-1) n r c)) → nf_M_isGuest gn x fun r1 => cB (r1 = 0) (Q (-1001) cm ir ch) (nf_M_isAstray ha x fun r2 => cB (r2 = 0) (Q (-1003) cm ir ch) (nf_M_findChain cm ir ha ch x fun z3 z4 f5 => cB (y = -1) (Q z3 z3 z4 f5) (wL y fun v6 => wO (iR (z3 - 1)) (z3 - 1) fun v7 => wL v7 fun v8 => nf_M_in v6 0 v8 fun r9 => cB (r9 = 0) (Q (-1) z3 z4 f5) (wO (inb y 17) (f5 y) fun v10 => Q v10 z3 z4 f5)))) := fun {Q} hQ => by
    refine sp_isGuest hgu (cB_t v (cB_f (by decide) (sm_isAstray ⟨v.1, a.2.2⟩ (fun _ => cB_f (by decide) ?_) (fun w => absurd ⟨by omega, by omega⟩ w))))
    refine sm_findChain hgu hm.2.2.2.1 hm.2.2.2.2.2.2.1 v (fun n r c n1 n2 hc _ hend _ => ?_)
    obtain ⟨q1, q2, q3⟩ := hQ n r c n1 n2 hc hend
    refine cB_i (fun e => q1 e) (fun e => wL_i (wO_i (by simp only [iR]; omega) (wL_i (sp_in (cB_i (fun w => cB_f (by decide) (wO_i (by simp only [inb]; omega) ?_)) (fun w => cB_t rfl (q3 e (fun z => w ⟨z.1, by omega⟩))))))))
    have := q2 e w.1 (by omega)
    rw [← (hc y.toNat (by omega)).1, Int.toNat_of_nonneg w.1] at this
    exact this
  refine cB_i (fun e => ?_) (fun e => ?_)
  · refine so_chainLength hgu hm.2.2.2.1 hh v (fun m m1 m2 m3 => mrun (fun n r c n1 n2 hc hend => ⟨fun _ => h _ _ _ _ _ ?_, fun w => absurd e w, fun w => absurd e w⟩))
    rw [ch_len hend (fun j hj => (hc j hj).2) n2 m2 m3 m1]
  · refine so_chainMember hy hgu hm.2.2.2.1 hh v (fun i0 => mrun (fun n r c n1 n2 hc hend => ⟨fun w => absurd w e, fun _ w => by omega, fun _ _ => h _ _ _ _ _ rfl⟩)) (fun i0 => mrun (fun n r c n1 n2 hc hend => ⟨fun w => absurd w e, fun _ _ _ => h _ _ _ _ _ rfl, fun _ w => h _ _ _ _ _ ?_⟩))
    by_cases z : y.toNat = n
    · have := cs_b hm.2.2.2.1 v n
      rw [z]; omega
    · exact cs_m ha x hend y.toNat (by omega)
theorem so_comesRound {gn a : Int} {gh so ti ha hb hg : Int → Int} {Q : Int → Prop} (hm : mS gn so ti ha hb hg) (hh : ∀ g, 0 ≤ g → g < gn → gh g = ha g) (hx : 0 ≤ a ∧ a < gn) {n : Nat} (n1 : 1 ≤ n) (n2 : n ≤ 16) (hc : ∀ j, j < n → 0 ≤ cs ha a j) (hend : cs ha a n < 0) (h1 : ha (cs ha a (n - 1)) = a → Q 1) (h0 : ha (cs ha a (n - 1)) ≠ a → Q 0) : nf_Guests_comesRound gn gh a Q := by
  have hgu : 0 ≤ gn ∧ gn ≤ 16 := ⟨hm.1, hm.2.1⟩
  unfold nf_Guests_comesRound
  simp only [ci_m1, ci_m10, ci_m1001, ci_m1002, ci_m1003, ci_m1004, ci_0, ci_1, ci_10, ci_100, ci_1000, ci_10000, ci_101, ci_103, ci_104, ci_105, ci_107, ci_108, ci_110, ci_111, ci_114, ci_115, ci_116, ci_118, ci_119, ci_12, ci_122, ci_1431655765, ci_15, ci_16, ci_2, ci_20, ci_23, ci_24, ci_240, ci_252645135, ci_255, ci_256, ci_3, ci_32, ci_4, ci_420, ci_48, ci_5, ci_5040, ci_57, ci_59, ci_6, ci_60, ci_63, ci_64, ci_7, ci_70, ci_8, ci_858993459, ci_9, ci_900, ci_97, ci_99, ci_999, ci_9999, cl_0, cl_1, cl_10, cl_1000000000000, cl_122, cl_2, cl_2000000000000, cl_23, cl_255, cl_27, cl_3, cl_4, cl_48, cl_57, cl_6, cl_8, cl_96, cl_97, cl_99, cl_999, cl_9999]
  refine so_chainLength hgu hm.2.2.2.1 hh hx (fun m m1 m2 m3 => ?_)
  have e := ch_len hend hc n2 m2 m3 m1
  subst e
  refine wO_i (by simp only [iR]; omega) (so_chainMember (by omega) hgu hm.2.2.2.1 hh hx (fun w => by omega) (fun w => ?_))
  rw [show ((m : Int) - 1).toNat = m - 1 by omega]
  have b := cs_b hm.2.2.2.1 hx (m - 1)
  have b2 := hc (m - 1) (by omega)
  refine sp_knows (cB_t ⟨b2, b.2, by omega⟩ (cB_f (by decide) (wO_i (by simp only [inb]; omega) ?_)))
  rw [hh _ b2 b.2]
  exact cB_i (fun e => h1 e) (fun e => h0 e)
/-- how long the chain is -/
theorem ch_ex {gu x : Int} {so ti ha hb hg : Int → Int} (hm : mS gu so ti ha hb hg) (hx : 0 ≤ x ∧ x < gu) : ∃ n : Nat, 1 ≤ n ∧ n ≤ 16 ∧ (∀ j, j < n → 0 ≤ cs ha x j) ∧ cs ha x n < 0 ∧ (∀ j, 1 ≤ j → j < n → cs ha x j ≠ x) := by
  have g : nf_M_findChain 0 0 ha (fun _ => 0) x (fun _ _ _ => ∃ n : Nat, 1 ≤ n ∧ n ≤ 16 ∧ (∀ j, j < n → 0 ≤ cs ha x j) ∧ cs ha x n < 0 ∧ (∀ j, 1 ≤ j → j < n → cs ha x j ≠ x)) := sm_findChain ⟨hm.1, hm.2.1⟩ hm.2.2.2.1 hm.2.2.2.2.2.2.1 hx (fun n r c n1 n2 hc hd hend _ => ⟨n, n1, n2, fun j hj => (hc j hj).2, hend, hd⟩)
  unfold nf_M_findChain at g
  have g2 := g.2.2
  refine g2 (fun _ _ _ => ∃ n : Nat, 1 ≤ n ∧ n ≤ 16 ∧ (∀ j, j < n → 0 ≤ cs ha x j) ∧ cs ha x n < 0 ∧ (∀ j, 1 ≤ j → j < n → cs ha x j ≠ x)) (fun l n C hF => ?_)
  obtain ⟨j, hj, hB⟩ := hF
  have hJ : j → ∃ n : Nat, 1 ≤ n ∧ n ≤ 16 ∧ (∀ j, j < n → 0 ≤ cs ha x j) ∧ cs ha x n < 0 ∧ (∀ j, 1 ≤ j → j < n → cs ha x j ≠ x) := fun q => by
    obtain ⟨k, hk, hB2⟩ := hj q
    by_cases e : l = x
    · exact (hk _ (hB2.1 e)).2
    · exact (hk _ (hB2.2 e)).2
  by_cases e1 : l < 0
  · exact hJ (hB.1 e1)
  · have hB := hB.2 e1
    by_cases e2 : l = x
    · exact hJ (hB.1 e2)
    · exact (hB.2 e2).2.2.2
theorem sim_ring {gn gu cm ir x : Int} {gh so ti ha hb hg ch : Int → Int} {K : Int → Int → Int → Int → (Int → Int) → Prop} (hm : mS gu so ti ha hb hg) (e : gn = gu) (hh : ∀ g, 0 ≤ g → g < gu → gh g = ha g) (h : ∀ r r' a b c, r = r' → K r r' a b c) : nf_H_ring gn gh x fun r => nf_M_ring gu cm ir ha ch x fun r' a b c => K r r' a b c := by
  subst e
  have hgu : 0 ≤ gn ∧ gn ≤ 16 := ⟨hm.1, hm.2.1⟩
  unfold nf_H_ring nf_M_ring
  simp only [ci_m1, ci_m10, ci_m1001, ci_m1002, ci_m1003, ci_m1004, ci_0, ci_1, ci_10, ci_100, ci_1000, ci_10000, ci_101, ci_103, ci_104, ci_105, ci_107, ci_108, ci_110, ci_111, ci_114, ci_115, ci_116, ci_118, ci_119, ci_12, ci_122, ci_1431655765, ci_15, ci_16, ci_2, ci_20, ci_23, ci_24, ci_240, ci_252645135, ci_255, ci_256, ci_3, ci_32, ci_4, ci_420, ci_48, ci_5, ci_5040, ci_57, ci_59, ci_6, ci_60, ci_63, ci_64, ci_7, ci_70, ci_8, ci_858993459, ci_9, ci_900, ci_97, ci_99, ci_999, ci_9999, cl_0, cl_1, cl_10, cl_1000000000000, cl_122, cl_2, cl_2000000000000, cl_23, cl_255, cl_27, cl_3, cl_4, cl_48, cl_57, cl_6, cl_8, cl_96, cl_97, cl_99, cl_999, cl_9999]
  refine sp_knows (cB_i (fun a => cB_f (by decide) ?_) (fun a => cB_t rfl (sp_isGuest hgu (cB_f (fun v => a ⟨v.1, v.2, by omega⟩) (cB_t rfl (h _ _ _ _ _ rfl))))))
  have v : 0 ≤ x ∧ x < gn := ⟨a.1, a.2.1⟩
  have hx := hh x v.1 v.2
  have hx2 := hm.2.2.2.1 x v.1 v.2
  refine sp_isAstray (cB_i (fun b => cB_f (by decide) ?_) (fun b => cB_t rfl (sp_isGuest hgu (cB_t v (cB_f (by decide) (sm_isAstray ⟨v.1, a.2.2⟩ (fun w => absurd ⟨a.1, a.2.1, a.2.2, by omega, by omega⟩ b) (fun _ => cB_t rfl (h _ _ _ _ _ rfl))))))))
  obtain ⟨n, n1, n2, hc, hend, hd⟩ := ch_ex hm v
  have mrun : ∀ (r0 : Int), ((r0 = 1 ∧ ha (cs ha x (n - 1)) = x) ∨ (r0 = 0 ∧ ha (cs ha x (n - 1)) ≠ x)) → nf_M_isGuest gn x fun r1 => cB (r1 = 0) (K r0 (-1001) cm ir ch) (nf_M_isAstray ha x fun r2 => cB (r2 = 0) (K r0 (-1003) cm ir ch) (nf_M_findChain cm ir ha ch x fun z3 z4 f5 => cB (z4 = 0) (K r0 0 z3 z4 f5) (K r0 1 z3 z4 f5))) := fun r0 h0 => by
    refine sp_isGuest hgu (cB_t v (cB_f (by decide) (sm_isAstray ⟨v.1, a.2.2⟩ (fun _ => cB_f (by decide) ?_) (fun w => absurd ⟨by omega, by omega⟩ w))))
    refine sm_findChain hgu hm.2.2.2.1 hm.2.2.2.2.2.2.1 v (fun m r c m1 m2 hc2 _ hend2 hr => ?_)
    have e := ch_len hend hc n2 (Or.inl hend2) (fun j hj => (hc2 j hj).2) m2
    subst e
    refine cB_i (fun e => h _ _ _ _ _ ?_) (fun e => h _ _ _ _ _ ?_)
    · rcases h0 with ⟨q1, q2⟩ | ⟨q1, q2⟩
      · rcases hr with w | w
        · omega
        · exact absurd q2 w.2
      · exact q1
    · rcases h0 with ⟨q1, q2⟩ | ⟨q1, q2⟩
      · exact q1
      · rcases hr with w | w
        · exact absurd w.2 q2
        · omega
  exact so_comesRound hm hh v n1 n2 hc hend (fun q => cB_f (by decide) (mrun 1 (Or.inl ⟨rfl, q⟩))) (fun q => cB_t rfl (mrun 0 (Or.inr ⟨rfl, q⟩)))
