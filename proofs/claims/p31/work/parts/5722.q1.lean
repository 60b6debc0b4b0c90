/-! ANSWERS 1: peg, odds, count, learnt, event, fits, ways, sure, apart -/
theorem sm_peg {pg x y : Int} {pk pw hg : Int → Int} {Q : Int → Prop} (hpg : 0 ≤ pg ∧ pg ≤ 24) (h0 : ¬ (0 ≤ x ∧ x < pg) → Q (-1001)) (h1 : 0 ≤ x ∧ x < pg → y = 0 → Q (pk x)) (h2 : 0 ≤ x ∧ x < pg → y = 1 → Q (pw x)) (h3 : 0 ≤ x ∧ x < pg → y = 2 → Q (hg x)) (h4 : 0 ≤ x ∧ x < pg → y ≠ 0 → y ≠ 1 → y ≠ 2 → Q (-1002)) : nf_M_peg pg pk pw hg x y Q := by
  unfold nf_M_peg
  simp only [ci_m1, ci_m10, ci_m1001, ci_m1002, ci_m1003, ci_m1004, ci_0, ci_1, ci_10, ci_100, ci_1000, ci_10000, ci_101, ci_103, ci_104, ci_105, ci_107, ci_108, ci_110, ci_111, ci_114, ci_115, ci_116, ci_118, ci_119, ci_12, ci_122, ci_1431655765, ci_15, ci_16, ci_2, ci_20, ci_23, ci_24, ci_240, ci_252645135, ci_255, ci_256, ci_3, ci_32, ci_4, ci_420, ci_48, ci_5, ci_5040, ci_57, ci_59, ci_6, ci_60, ci_63, ci_64, ci_7, ci_70, ci_8, ci_858993459, ci_9, ci_900, ci_97, ci_99, ci_999, ci_9999, cl_0, cl_1, cl_10, cl_1000000000000, cl_122, cl_2, cl_2000000000000, cl_23, cl_255, cl_27, cl_3, cl_4, cl_48, cl_57, cl_6, cl_8, cl_96, cl_97, cl_99, cl_999, cl_9999]
  refine sp_isPeg hpg (cB_i (fun v => cB_f (by decide) ?_) (fun v => cB_t rfl (h0 v)))
  have ip : inb x 24 := by simp only [inb]; omega
  exact cB_i (fun e => wO_i ip (h1 v e)) (fun e0 => cB_i (fun e => wO_i ip (h2 v e)) (fun e1 => cB_i (fun e => wO_i ip (h3 v e)) (fun e2 => h4 v e0 e1 e2)))
theorem sim_peg {pg gn en cn nn gu ev cl ni x y : Int} {pk pw hk hw gs gk gt gm gb gp gh ef cg cy cz nl so ki ti mk br ha hb hg er mg my mz pl we le : Int → Int} {K : Int → Int → Prop} (hpg : 0 ≤ pg ∧ pg ≤ 24) (hkk : ∀ q, 0 ≤ q → q < pg → hk q = pk q ∧ hw q = pw q) (hm : mF gu ev cl ni so ti ha hb hg er mg le) (hs : RS pg pk gn gs gk gt gm gb gp gh en ef cn cg cy cz nn nl gu so ki ti mk br ha hb hg ev er cl mg my mz ni pl we le) (h : ∀ r r', r = r' → K r r') : nf_H_peg gn gp pg hk hw x y fun r => nf_M_peg pg pk pw hg x y fun r' => K r r' := by
  unfold nf_H_peg
  simp only [ci_m1, ci_m10, ci_m1001, ci_m1002, ci_m1003, ci_m1004, ci_0, ci_1, ci_10, ci_100, ci_1000, ci_10000, ci_101, ci_103, ci_104, ci_105, ci_107, ci_108, ci_110, ci_111, ci_114, ci_115, ci_116, ci_118, ci_119, ci_12, ci_122, ci_1431655765, ci_15, ci_16, ci_2, ci_20, ci_23, ci_24, ci_240, ci_252645135, ci_255, ci_256, ci_3, ci_32, ci_4, ci_420, ci_48, ci_5, ci_5040, ci_57, ci_59, ci_6, ci_60, ci_63, ci_64, ci_7, ci_70, ci_8, ci_858993459, ci_9, ci_900, ci_97, ci_99, ci_999, ci_9999, cl_0, cl_1, cl_10, cl_1000000000000, cl_122, cl_2, cl_2000000000000, cl_23, cl_255, cl_27, cl_3, cl_4, cl_48, cl_57, cl_6, cl_8, cl_96, cl_97, cl_99, cl_999, cl_9999]
  have hgu : 0 ≤ gu ∧ gu ≤ 16 := ⟨hm.1.1, hm.1.2.1⟩
  obtain ⟨⟨rfl, rfl, rfl, rfl⟩, G, ⟨P1, P2⟩, E, F, C, N⟩ := hs
  refine sp_hasPeg (cB_i (fun a => cB_f (by decide) ?_) (fun a => cB_t rfl (sm_peg hpg (fun _ => h _ _ rfl) (fun v => absurd ⟨v.1, v.2, by omega⟩ a) (fun v => absurd ⟨v.1, v.2, by omega⟩ a) (fun v => absurd ⟨v.1, v.2, by omega⟩ a) (fun v => absurd ⟨v.1, v.2, by omega⟩ a))))
  have v : 0 ≤ x ∧ x < pg := ⟨a.1, a.2.1⟩
  have hx := hkk x v.1 v.2
  have ip : inb x 24 := by simp only [inb]; omega
  refine cB_i (fun e => wO_i ip ?_) (fun e0 => cB_i (fun e => wO_i ip ?_) (fun e1 => cB_i (fun e => ?_) (fun e2 => ?_)))
  · exact sm_peg hpg (fun w => absurd v w) (fun _ _ => h _ _ hx.1) (fun _ _ => by omega) (fun _ _ => by omega) (fun _ _ => by omega)
  · exact sm_peg hpg (fun w => absurd v w) (fun _ _ => by omega) (fun _ _ => h _ _ hx.2) (fun _ _ => by omega) (fun _ _ => by omega)
  · refine sp_ownerOn hgu (fun r r1 r2 r3 r4 => sm_peg hpg (fun w => absurd v w) (fun _ _ => by omega) (fun _ _ => by omega) (fun _ _ => h _ _ ?_) (fun _ _ => by omega))
    have h5 := hm.1.2.2.2.2.1 x v.1 (by omega)
    rcases Int.lt_or_le r 0 with z | z
    · rcases Int.lt_or_le (hg x) 0 with w | w
      · omega
      · exact absurd ((P1 (hg x) x w h5.2 v.1 (by omega)).mpr rfl) (r4 (by omega) _ w h5.2)
    · exact ((P1 r x z r2 v.1 (by omega)).mp (r3 z).1).symm
  · exact sm_peg hpg (fun w => absurd v w) (fun _ _ => by omega) (fun _ _ => by omega) (fun _ _ => by omega) (fun _ _ _ _ => h _ _ rfl)
theorem sim_odds {x y : Int} {ds ro : Int → Int} {K : Int → Int → Prop} (hk : ∀ q, 0 ≤ q → q < 12 → ds q = ro q) (h : ∀ r r', r = r' → K r r') : nf_H_odds ds x y fun r => nf_M_odds ro x y fun r' => K r r' := by
  unfold nf_H_odds nf_M_odds
  simp only [ci_m1, ci_m10, ci_m1001, ci_m1002, ci_m1003, ci_m1004, ci_0, ci_1, ci_10, ci_100, ci_1000, ci_10000, ci_101, ci_103, ci_104, ci_105, ci_107, ci_108, ci_110, ci_111, ci_114, ci_115, ci_116, ci_118, ci_119, ci_12, ci_122, ci_1431655765, ci_15, ci_16, ci_2, ci_20, ci_23, ci_24, ci_240, ci_252645135, ci_255, ci_256, ci_3, ci_32, ci_4, ci_420, ci_48, ci_5, ci_5040, ci_57, ci_59, ci_6, ci_60, ci_63, ci_64, ci_7, ci_70, ci_8, ci_858993459, ci_9, ci_900, ci_97, ci_99, ci_999, ci_9999, cl_0, cl_1, cl_10, cl_1000000000000, cl_122, cl_2, cl_2000000000000, cl_23, cl_255, cl_27, cl_3, cl_4, cl_48, cl_57, cl_6, cl_8, cl_96, cl_97, cl_99, cl_999, cl_9999]
  refine sp_within (cB_i (fun a => cB_f (by decide) ?_) (fun a => cB_t rfl (wL_i (sp_in (cB_f a (cB_t rfl (h _ _ rfl)))))))
  refine sp_within (cB_i (fun b => cB_f (by decide) ?_) (fun b => cB_t rfl (wL_i (sp_in (cB_t a (cB_f (by decide) (wL_i (sp_in (cB_f b (cB_t rfl (h _ _ rfl)))))))))))
  refine sp_shareOf (cB_t ⟨a.1, a.2, b.1, b.2⟩ (wL_i (sp_in (cB_t a (cB_f (by decide) (wL_i (sp_in (cB_t b (cB_f (by decide) ?_)))))))))
  refine wO_i (by simp only [iR]; omega) (wO_i (by simp only [iR]; omega) (wO_i (by simp only [inb]; omega) (h _ _ ?_)))
  rw [show x * 3 + y = 3 * x + y by omega]
  exact hk _ (by omega) (by omega)
def cvl (a0 a1 a2 a3 a4 a5 a6 a7 a8 a9 a10 x : Int) : Int := if x = 0 then a0 else if x = 1 then a1 else if x = 2 then a2 else if x = 3 then a3 else if x = 4 then a4 else if x = 5 then a5 else if x = 6 then a6 else if x = 7 then a7 else if x = 8 then a8 else if x = 9 then a9 else if x = 10 then a10 else -1002
theorem sm_count {pg n gu ni ev cl x : Int} {sg : Int → Int} {Q : Int → Prop} (h : Q (cvl pg gu ev cl ni n (sg 3) (sg 4) (sg 0) (sg 1) (sg 2) x)) : nf_M_count pg n gu ni ev cl sg x Q := by
  unfold nf_M_count
  simp only [ci_m1, ci_m10, ci_m1001, ci_m1002, ci_m1003, ci_m1004, ci_0, ci_1, ci_10, ci_100, ci_1000, ci_10000, ci_101, ci_103, ci_104, ci_105, ci_107, ci_108, ci_110, ci_111, ci_114, ci_115, ci_116, ci_118, ci_119, ci_12, ci_122, ci_1431655765, ci_15, ci_16, ci_2, ci_20, ci_23, ci_24, ci_240, ci_252645135, ci_255, ci_256, ci_3, ci_32, ci_4, ci_420, ci_48, ci_5, ci_5040, ci_57, ci_59, ci_6, ci_60, ci_63, ci_64, ci_7, ci_70, ci_8, ci_858993459, ci_9, ci_900, ci_97, ci_99, ci_999, ci_9999, cl_0, cl_1, cl_10, cl_1000000000000, cl_122, cl_2, cl_2000000000000, cl_23, cl_255, cl_27, cl_3, cl_4, cl_48, cl_57, cl_6, cl_8, cl_96, cl_97, cl_99, cl_999, cl_9999]
  unfold cvl at h
  refine cB_i (fun e => by rw [if_pos e] at h; exact h) (fun e0 => ?_)
  rw [if_neg e0] at h
  refine cB_i (fun e => by rw [if_pos e] at h; exact h) (fun e1 => ?_)
  rw [if_neg e1] at h
  refine cB_i (fun e => by rw [if_pos e] at h; exact h) (fun e2 => ?_)
  rw [if_neg e2] at h
  refine cB_i (fun e => by rw [if_pos e] at h; exact h) (fun e3 => ?_)
  rw [if_neg e3] at h
  refine cB_i (fun e => by rw [if_pos e] at h; exact h) (fun e4 => ?_)
  rw [if_neg e4] at h
  refine cB_i (fun e => by rw [if_pos e] at h; exact h) (fun e5 => ?_)
  rw [if_neg e5] at h
  refine cB_i (fun e => by rw [if_pos e] at h; exact wO_i (by simp only [inb]; omega) h) (fun e6 => ?_)
  rw [if_neg e6] at h
  refine cB_i (fun e => by rw [if_pos e] at h; exact wO_i (by simp only [inb]; omega) h) (fun e7 => ?_)
  rw [if_neg e7] at h
  refine wL_i (sp_in (cB_i (fun a => cB_f (by decide) (wO_i (by simp only [iR]; omega) (wO_i (by simp only [inb]; omega) ?_))) (fun a => cB_t rfl ?_)))
  · by_cases e8 : x = 8
    · rw [if_pos e8] at h
      subst e8; exact h
    · rw [if_neg e8] at h
      by_cases e9 : x = 9
      · rw [if_pos e9] at h
        subst e9; exact h
      · rw [if_neg e9, if_pos (show x = 10 by omega)] at h
        have e10 : x = 10 := by omega
        subst e10; exact h
  · rw [if_neg (show ¬ x = 8 by omega), if_neg (show ¬ x = 9 by omega), if_neg (show ¬ x = 10 by omega)] at h
    exact h
theorem sim_count {pg gn en cn nn gu ev cl ni n ht hl x : Int} {hx sg : Int → Int} {K : Int → Int → Prop} (e1 : gn = gu) (e2 : en = ev) (e3 : cn = cl) (e4 : nn = ni) (e5 : ∀ k, 0 ≤ k → k < 3 → hx k = sg k) (e6 : ht = sg 3) (e7 : hl = sg 4) (h : ∀ r r', r = r' → K r r') : nf_H_count gn en cn nn pg ht hl hx n x fun r => nf_M_count pg n gu ni ev cl sg x fun r' => K r r' := by
  have fin : ∀ r, r = cvl pg gu ev cl ni n (sg 3) (sg 4) (sg 0) (sg 1) (sg 2) x → nf_M_count pg n gu ni ev cl sg x fun r' => K r r' := fun r e => sm_count (h _ _ e)
  have w0 := e5 0 (by omega) (by omega)
  have w1 := e5 1 (by omega) (by omega)
  have w2 := e5 2 (by omega) (by omega)
  unfold cvl at fin
  unfold nf_H_count
  simp only [ci_m1, ci_m10, ci_m1001, ci_m1002, ci_m1003, ci_m1004, ci_0, ci_1, ci_10, ci_100, ci_1000, ci_10000, ci_101, ci_103, ci_104, ci_105, ci_107, ci_108, ci_110, ci_111, ci_114, ci_115, ci_116, ci_118, ci_119, ci_12, ci_122, ci_1431655765, ci_15, ci_16, ci_2, ci_20, ci_23, ci_24, ci_240, ci_252645135, ci_255, ci_256, ci_3, ci_32, ci_4, ci_420, ci_48, ci_5, ci_5040, ci_57, ci_59, ci_6, ci_60, ci_63, ci_64, ci_7, ci_70, ci_8, ci_858993459, ci_9, ci_900, ci_97, ci_99, ci_999, ci_9999, cl_0, cl_1, cl_10, cl_1000000000000, cl_122, cl_2, cl_2000000000000, cl_23, cl_255, cl_27, cl_3, cl_4, cl_48, cl_57, cl_6, cl_8, cl_96, cl_97, cl_99, cl_999, cl_9999]
  refine cB_i (fun e => fin _ (by rw [if_pos e])) (fun f0 => ?_)
  refine cB_i (fun e => fin _ (by rw [if_neg f0, if_pos e]; exact e1)) (fun f1 => ?_)
  refine cB_i (fun e => fin _ (by rw [if_neg f0, if_neg f1, if_pos e]; exact e2)) (fun f2 => ?_)
  refine cB_i (fun e => fin _ (by rw [if_neg f0, if_neg f1, if_neg f2, if_pos e]; exact e3)) (fun f3 => ?_)
  refine cB_i (fun e => fin _ (by rw [if_neg f0, if_neg f1, if_neg f2, if_neg f3, if_pos e]; exact e4)) (fun f4 => ?_)
  refine cB_i (fun e => fin _ (by rw [if_neg f0, if_neg f1, if_neg f2, if_neg f3, if_neg f4, if_pos e])) (fun f5 => ?_)
  refine cB_i (fun e => fin _ (by rw [if_neg f0, if_neg f1, if_neg f2, if_neg f3, if_neg f4, if_neg f5, if_pos e]; exact e6)) (fun f6 => ?_)
  refine cB_i (fun e => fin _ (by rw [if_neg f0, if_neg f1, if_neg f2, if_neg f3, if_neg f4, if_neg f5, if_neg f6, if_pos e]; exact e7)) (fun f7 => ?_)
  refine cB_i (fun e => sp_weightOf (cB_t ⟨by omega, by omega⟩ (fin _ (by rw [if_neg f0, if_neg f1, if_neg f2, if_neg f3, if_neg f4, if_neg f5, if_neg f6, if_neg f7, if_pos e]; exact w0)))) (fun f8 => ?_)
  refine cB_i (fun e => sp_weightOf (cB_t ⟨by omega, by omega⟩ (fin _ (by rw [if_neg f0, if_neg f1, if_neg f2, if_neg f3, if_neg f4, if_neg f5, if_neg f6, if_neg f7, if_neg f8, if_pos e]; exact w1)))) (fun f9 => ?_)
  refine cB_i (fun e => sp_weightOf (cB_t ⟨by omega, by omega⟩ (fin _ (by rw [if_neg f0, if_neg f1, if_neg f2, if_neg f3, if_neg f4, if_neg f5, if_neg f6, if_neg f7, if_neg f8, if_neg f9, if_pos e]; exact w2)))) (fun f10 => ?_)
  exact fin _ (by rw [if_neg f0, if_neg f1, if_neg f2, if_neg f3, if_neg f4, if_neg f5, if_neg f6, if_neg f7, if_neg f8, if_neg f9, if_neg f10])
def lrn (A B C k : Int) : Int := if k = 0 then Int.tdiv (1000 * (A + 1)) (A + B + C + 3) else if k = 1 then Int.tdiv (1000 * (B + 1)) (A + B + C + 3) else 1000 - Int.tdiv (1000 * (A + 1)) (A + B + C + 3) - Int.tdiv (1000 * (B + 1)) (A + B + C + 3)
theorem so_oddsOf {L : Int → Int} {p w k : Int} {Q : Int → Prop} (hL : ∀ k, 0 ≤ k → k < 24 → 0 ≤ L k ∧ L k ≤ 59940) (hp : 0 ≤ p ∧ p ≤ 3) (hw : 0 ≤ w ∧ w ≤ 1) (h : Q (lrn (L ((p * 2 + w) * 3)) (L ((p * 2 + w) * 3 + 1)) (L ((p * 2 + w) * 3 + 2)) k)) : nf_Nights_oddsOf L p w k Q := by
  unfold nf_Nights_oddsOf
  simp only [ci_m1, ci_m10, ci_m1001, ci_m1002, ci_m1003, ci_m1004, ci_0, ci_1, ci_10, ci_100, ci_1000, ci_10000, ci_101, ci_103, ci_104, ci_105, ci_107, ci_108, ci_110, ci_111, ci_114, ci_115, ci_116, ci_118, ci_119, ci_12, ci_122, ci_1431655765, ci_15, ci_16, ci_2, ci_20, ci_23, ci_24, ci_240, ci_252645135, ci_255, ci_256, ci_3, ci_32, ci_4, ci_420, ci_48, ci_5, ci_5040, ci_57, ci_59, ci_6, ci_60, ci_63, ci_64, ci_7, ci_70, ci_8, ci_858993459, ci_9, ci_900, ci_97, ci_99, ci_999, ci_9999, cl_0, cl_1, cl_10, cl_1000000000000, cl_122, cl_2, cl_2000000000000, cl_23, cl_255, cl_27, cl_3, cl_4, cl_48, cl_57, cl_6, cl_8, cl_96, cl_97, cl_99, cl_999, cl_9999]
  refine sp_within (cB_t hp (cB_f (by decide) (sp_within (cB_t hw (cB_f (by decide) ?_)))))
  have k1 := hL ((p * 2 + w) * 3) (by omega) (by omega)
  have k2 := hL ((p * 2 + w) * 3 + 1) (by omega) (by omega)
  have k3 := hL ((p * 2 + w) * 3 + 2) (by omega) (by omega)
  refine wO_i (by simp only [iR]; omega) (wO_i (by simp only [iR]; omega) (wO_i (by simp only [iR]; omega) ?_))
  have hb : 0 ≤ (p * 2 + w) * 3 ∧ (p * 2 + w) * 3 ≤ 21 := by omega
  generalize (p * 2 + w) * 3 = b at *
  have kd := dv_le (a := 1000 * (L b + 1)) (b := 1000 * (L (b + 1) + 1)) (c := L b + L (b + 1) + L (b + 2) + 3) (by omega) (by omega) (by omega) (by omega)
  rw [← Int.tdiv_eq_ediv_of_nonneg (show (0 : Int) ≤ 1000 * (L b + 1) by omega), ← Int.tdiv_eq_ediv_of_nonneg (show (0 : Int) ≤ 1000 * (L (b + 1) + 1) by omega)] at kd
  unfold lrn at h
  refine wO_i (by simp only [inb]; omega) (wO_i (by simp only [iR]; omega) (wO_i (by simp only [inb]; omega) (wO_i (by simp only [iR]; omega) (wO_i (by simp only [iR]; omega) (wO_i (by simp only [inb]; omega) (wO_i (by simp only [iR]; omega) (wO_i (by simp only [iR]; omega) (cB_t (by omega) ?_))))))))
  refine wO_i (by simp only [inb]; omega) (wO_i (by simp only [iR]; omega) (wO_i (by simp only [iR]; omega) (wO_i (by simp only [dOK]; omega) (wO_i (by simp only [iR]; omega) (wO_i (by simp only [inb]; omega) (wO_i (by simp only [iR]; omega) (wO_i (by simp only [iR]; omega) (wO_i (by simp only [dOK]; omega) ?_))))))))
  refine cB_i (fun e => ?_) (fun e0 => cB_i (fun e => ?_) (fun e1 => wO_i (by simp only [iR]; omega) (wO_i (by simp only [iR]; omega) ?_)))
  · rw [if_pos e] at h; exact h
  · rw [if_neg e0, if_pos e] at h; exact h
  · rw [if_neg e0, if_neg e1] at h; exact h
abbrev nfk (pl we le : Int → Int) (p w k : Int) : Int → Int := fun n => if pl n = p ∧ we n = w then le (3 * n + k) else 0
theorem sm_learntOf {n p w k : Int} {pl we le : Int → Int} {Q : Int → Prop} (hn : 0 ≤ n ∧ n ≤ 60) (hl : ∀ k, 0 ≤ k → k < 180 → 0 ≤ le k ∧ le k ≤ 999) (h : Q (lrn (sumN (nfk pl we le p w 0) n.toNat) (sumN (nfk pl we le p w 1) n.toNat) (sumN (nfk pl we le p w 2) n.toNat) k)) : nf_M_learntOf n pl we le p w k Q := by
  unfold nf_M_learntOf
  simp only [ci_m1, ci_m10, ci_m1001, ci_m1002, ci_m1003, ci_m1004, ci_0, ci_1, ci_10, ci_100, ci_1000, ci_10000, ci_101, ci_103, ci_104, ci_105, ci_107, ci_108, ci_110, ci_111, ci_114, ci_115, ci_116, ci_118, ci_119, ci_12, ci_122, ci_1431655765, ci_15, ci_16, ci_2, ci_20, ci_23, ci_24, ci_240, ci_252645135, ci_255, ci_256, ci_3, ci_32, ci_4, ci_420, ci_48, ci_5, ci_5040, ci_57, ci_59, ci_6, ci_60, ci_63, ci_64, ci_7, ci_70, ci_8, ci_858993459, ci_9, ci_900, ci_97, ci_99, ci_999, ci_9999, cl_0, cl_1, cl_10, cl_1000000000000, cl_122, cl_2, cl_2000000000000, cl_23, cl_255, cl_27, cl_3, cl_4, cl_48, cl_57, cl_6, cl_8, cl_96, cl_97, cl_99, cl_999, cl_9999]
  have fb : ∀ j, 0 ≤ j → j < 3 → ∀ m : Nat, m ≤ 60 → ∀ q : Nat, q < m → 0 ≤ nfk pl we le p w j q ∧ nfk pl we le p w j q ≤ 999 := fun j j0 j1 m hm q hq => by
    show 0 ≤ (if pl q = p ∧ we q = w then le (3 * q + j) else 0) ∧ (if pl q = p ∧ we q = w then le (3 * q + j) else 0) ≤ 999
    by_cases c : pl q = p ∧ we q = w
    · rw [if_pos c]; exact hl _ (by omega) (by omega)
    · rw [if_neg c]; omega
  refine nlp4_i (fun al on tw i => 0 ≤ i ∧ i ≤ n ∧ on = sumN (nfk pl we le p w 0) i.toNat + 1 ∧ tw = sumN (nfk pl we le p w 1) i.toNat + 1 ∧ al = sumN (nfk pl we le p w 0) i.toNat + sumN (nfk pl we le p w 1) i.toNat + sumN (nfk pl we le p w 2) i.toNat + 3) (fun _ _ _ i => (n - i).toNat) ?_ ⟨by omega, by omega, rfl, rfl, rfl⟩
  intro al on tw i hi self hself
  obtain ⟨i1, i2, i3, i4, i5⟩ := hi
  have b0 := sumN_b (f := nfk pl we le p w 0) (M := 999) i.toNat (fb 0 (by omega) (by omega) i.toNat (by omega))
  have b1 := sumN_b (f := nfk pl we le p w 1) (M := 999) i.toNat (fb 1 (by omega) (by omega) i.toNat (by omega))
  have b2 := sumN_b (f := nfk pl we le p w 2) (M := 999) i.toNat (fb 2 (by omega) (by omega) i.toNat (by omega))
  have a0 := sumN_nn (f := nfk pl we le p w 0) i.toNat (fun q hq => (fb 0 (by omega) (by omega) i.toNat (by omega) q hq).1)
  have a1 := sumN_nn (f := nfk pl we le p w 1) i.toNat (fun q hq => (fb 1 (by omega) (by omega) i.toNat (by omega) q hq).1)
  have a2 := sumN_nn (f := nfk pl we le p w 2) i.toNat (fun q hq => (fb 2 (by omega) (by omega) i.toNat (by omega) q hq).1)
  have s0 := sumN_s (f := nfk pl we le p w 0) i1
  have s1 := sumN_s (f := nfk pl we le p w 1) i1
  have s2 := sumN_s (f := nfk pl we le p w 2) i1
  refine cB_i (fun _ => ?_) (fun _ => wO_i (by simp only [inb]; omega) ?_)
  · have ei : i = n := by omega
    subst ei
    unfold lrn at h
    generalize sumN (nfk pl we le p w 0) i.toNat = A at *
    generalize sumN (nfk pl we le p w 1) i.toNat = B at *
    generalize sumN (nfk pl we le p w 2) i.toNat = C at *
    subst i3 i4 i5
    have kd := dv_le (a := 1000 * (A + 1)) (b := 1000 * (B + 1)) (c := A + B + C + 3) (by omega) (by omega) (by omega) (by omega)
    rw [← Int.tdiv_eq_ediv_of_nonneg (show (0 : Int) ≤ 1000 * (A + 1) by omega), ← Int.tdiv_eq_ediv_of_nonneg (show (0 : Int) ≤ 1000 * (B + 1) by omega)] at kd
    refine wO_i (by simp only [iR]; omega) (wO_i (by simp only [dOK]; omega) (wO_i (by simp only [iR]; omega) (wO_i (by simp only [dOK]; omega) ?_)))
    refine cB_i (fun e => ?_) (fun e0 => cB_i (fun e => ?_) (fun e1 => wO_i (by simp only [iR]; omega) (wO_i (by simp only [iR]; omega) ?_)))
    · rw [if_pos e] at h; exact h
    · rw [if_neg e0, if_pos e] at h; exact h
    · rw [if_neg e0, if_neg e1] at h; exact h
  · refine jn3_s (fun al on tw => on = sumN (nfk pl we le p w 0) (i + 1).toNat + 1 ∧ tw = sumN (nfk pl we le p w 1) (i + 1).toNat + 1 ∧ al = sumN (nfk pl we le p w 0) (i + 1).toNat + sumN (nfk pl we le p w 1) (i + 1).toNat + sumN (nfk pl we le p w 2) (i + 1).toNat + 3) (fun a b c hs => wO_i (by simp only [iR]; omega) (hself _ _ _ _ ⟨by omega, by omega, hs.1, hs.2.1, hs.2.2⟩ (by omega))) ?_
    have no : ¬ (pl i = p ∧ we i = w) → on = sumN (nfk pl we le p w 0) (i + 1).toNat + 1 ∧ tw = sumN (nfk pl we le p w 1) (i + 1).toNat + 1 ∧ al = sumN (nfk pl we le p w 0) (i + 1).toNat + sumN (nfk pl we le p w 1) (i + 1).toNat + sumN (nfk pl we le p w 2) (i + 1).toNat + 3 := fun c => by
      rw [s0, s1, s2, show nfk pl we le p w 0 i = 0 from if_neg c, show nfk pl we le p w 1 i = 0 from if_neg c, show nfk pl we le p w 2 i = 0 from if_neg c]
      omega
    refine cB_i (fun e1 => wO_i (by simp only [inb]; omega) (cB_i (fun e2 => ?_) (fun e2 => no (fun c => e2 c.2)))) (fun e1 => no (fun c => e1 c.1))
    have l0 := hl (3 * i) (by omega) (by omega)
    have l1 := hl (3 * i + 1) (by omega) (by omega)
    have l2 := hl (3 * i + 2) (by omega) (by omega)
    have n0 : nfk pl we le p w 0 i = le (3 * i) := by
      show (if pl i = p ∧ we i = w then le (3 * i + 0) else 0) = _
      rw [if_pos ⟨e1, e2⟩, Int.add_zero]
    have n1 : nfk pl we le p w 1 i = le (3 * i + 1) := if_pos ⟨e1, e2⟩
    have n2 : nfk pl we le p w 2 i = le (3 * i + 2) := if_pos ⟨e1, e2⟩
    rw [s0, s1, s2, n0, n1, n2]
    repeat' (first | with_reducible refine wO_i ?_ ?_ | with_reducible refine wL_i ?_ | with_reducible refine cB_f (by decide) ?_ | with_reducible refine cB_t (by decide) ?_ | with_reducible refine cB_i (fun _ => ?_) (fun _ => ?_) | with_reducible refine jn0_i ?_ | with_reducible refine jn1_i ?_ | with_reducible refine jn2_i ?_ | with_reducible refine jn3_i ?_ | with_reducible refine jn4_i ?_ | with_reducible refine jn5_i ?_ | with_reducible refine jn6_i ?_)
    all_goals (try (simp only [iR, lR, inb, bZ, dOK, or_true, true_or, true_and, and_true] at *)); all_goals (try omega)
theorem sim_learnt {ni x y z : Int} {nl pl we le : Int → Int} {K : Int → Int → Prop} (hL : ∀ k, 0 ≤ k → k < 24 → 0 ≤ nl k ∧ nl k ≤ 59940) (hn : 0 ≤ ni ∧ ni ≤ 60) (hl : ∀ k, 0 ≤ k → k < 180 → 0 ≤ le k ∧ le k ≤ 999) (hN : RN ni nl pl we le) (h : ∀ r r', r = r' → K r r') : nf_H_learnt nl x y z fun r => nf_M_learnt ni pl we le x y z fun r' => K r r' := by
  unfold nf_H_learnt nf_M_learnt
  simp only [ci_m1, ci_m10, ci_m1001, ci_m1002, ci_m1003, ci_m1004, ci_0, ci_1, ci_10, ci_100, ci_1000, ci_10000, ci_101, ci_103, ci_104, ci_105, ci_107, ci_108, ci_110, ci_111, ci_114, ci_115, ci_116, ci_118, ci_119, ci_12, ci_122, ci_1431655765, ci_15, ci_16, ci_2, ci_20, ci_23, ci_24, ci_240, ci_252645135, ci_255, ci_256, ci_3, ci_32, ci_4, ci_420, ci_48, ci_5, ci_5040, ci_57, ci_59, ci_6, ci_60, ci_63, ci_64, ci_7, ci_70, ci_8, ci_858993459, ci_9, ci_900, ci_97, ci_99, ci_999, ci_9999, cl_0, cl_1, cl_10, cl_1000000000000, cl_122, cl_2, cl_2000000000000, cl_23, cl_255, cl_27, cl_3, cl_4, cl_48, cl_57, cl_6, cl_8, cl_96, cl_97, cl_99, cl_999, cl_9999]
  refine sp_within (cB_i (fun a => cB_f (by decide) ?_) (fun a => cB_t rfl (sp_isNight (cB_f (fun v => a ⟨v.1, v.2.1⟩) (cB_t rfl (h _ _ rfl))))))
  refine sp_within (cB_i (fun b => cB_f (by decide) ?_) (fun b => cB_t rfl (sp_isNight (cB_f (fun v => b v.2.2) (cB_t rfl (h _ _ rfl))))))
  refine sp_within (cB_i (fun c => cB_f (by decide) ?_) (fun c => cB_t rfl (sp_isNight (cB_t ⟨a.1, a.2, b⟩ (cB_f (by decide) (wL_i (sp_in (cB_f c (cB_t rfl (h _ _ rfl))))))))))
  refine so_oddsOf hL a b (sp_isNight (cB_t ⟨a.1, a.2, b⟩ (cB_f (by decide) (wL_i (sp_in (cB_t c (cB_f (by decide) (sm_learntOf hn hl (h _ _ ?_)))))))))
  have q0 := hN x y 0 a.1 (by omega) b.1 (by omega) (by omega) (by omega)
  have q1 := hN x y 1 a.1 (by omega) b.1 (by omega) (by omega) (by omega)
  have q2 := hN x y 2 a.1 (by omega) b.1 (by omega) (by omega) (by omega)
  rw [Int.add_zero] at q0
  rw [q0, q1, q2]
theorem sim_event {en ev x y : Int} {ef er : Int → Int} {K : Int → Int → Prop} (hev : 0 ≤ ev ∧ ev ≤ 60) (e : en = ev) (hF : RF ev ef er) (h : ∀ r r', r = r' → K r r') : nf_H_event en ef x y fun r => nf_M_event ev er x y fun r' => K r r' := by
  subst e
  unfold nf_H_event nf_M_event
  simp only [ci_m1, ci_m10, ci_m1001, ci_m1002, ci_m1003, ci_m1004, ci_0, ci_1, ci_10, ci_100, ci_1000, ci_10000, ci_101, ci_103, ci_104, ci_105, ci_107, ci_108, ci_110, ci_111, ci_114, ci_115, ci_116, ci_118, ci_119, ci_12, ci_122, ci_1431655765, ci_15, ci_16, ci_2, ci_20, ci_23, ci_24, ci_240, ci_252645135, ci_255, ci_256, ci_3, ci_32, ci_4, ci_420, ci_48, ci_5, ci_5040, ci_57, ci_59, ci_6, ci_60, ci_63, ci_64, ci_7, ci_70, ci_8, ci_858993459, ci_9, ci_900, ci_97, ci_99, ci_999, ci_9999, cl_0, cl_1, cl_10, cl_1000000000000, cl_122, cl_2, cl_2000000000000, cl_23, cl_255, cl_27, cl_3, cl_4, cl_48, cl_57, cl_6, cl_8, cl_96, cl_97, cl_99, cl_999, cl_9999]
  refine sp_eknows (cB_i (fun a => cB_f (by decide) ?_) (fun a => cB_t rfl (wL_i (wO_i (by simp only [iR]; omega) (wL_i (sp_in (cB_f (fun v => a ⟨v.1, by omega, by omega⟩) (cB_t rfl (h _ _ rfl)))))))))
  refine sp_within (cB_i (fun b => cB_f (by decide) ?_) (fun b => cB_t rfl (wL_i (wO_i (by simp only [iR]; omega) (wL_i (sp_in (cB_t ⟨a.1, by omega⟩ (cB_f (by decide) (wL_i (sp_in (cB_f b (cB_t rfl (h _ _ rfl)))))))))))))
  refine sp_factOf (cB_t ⟨a.1, a.2.1, a.2.2, b.1, b.2⟩ (wL_i (wO_i (by simp only [iR]; omega) (wL_i (sp_in (cB_t ⟨a.1, by omega⟩ (cB_f (by decide) (wL_i (sp_in (cB_t b (cB_f (by decide) ?_)))))))))))
  refine wO_i (by simp only [iR]; omega) (wO_i (by simp only [iR]; omega) (wO_i (by simp only [inb]; omega) (h _ _ ?_)))
  rw [show x * 7 + y = 7 * x + y by omega]
  exact hF _ (by omega) (by omega)
theorem sim_fits {pg gn en cn nn gu ev cl ni x : Int} {pk gs gk gt gm gb gp gh ef cg cy cz nl so ki ti mk br ha hb hg er mg my mz pl we le : Int → Int} {K : Int → Int → Prop} (hpg : 0 ≤ pg ∧ pg ≤ 24) (hm : mF gu ev cl ni so ti ha hb hg er mg le) (hs : RS pg pk gn gs gk gt gm gb gp gh en ef cn cg cy cz nn nl gu so ki ti mk br ha hb hg ev er cl mg my mz ni pl we le) (h : ∀ r r', r = r' → K r r') : nf_H_fits gn gk gm gp cn cg cy cz x fun r => nf_M_fits pg cl pk hg ki mk mg my mz x fun r' => K r r' := by
  have hs0 := hs
  have hgu : 0 ≤ gu ∧ gu ≤ 16 := ⟨hm.1.1, hm.1.2.1⟩
  have hCl := hm.2.2.1
  obtain ⟨⟨rfl, rfl, rfl, rfl⟩, G, P, E, FF, C, N⟩ := hs
  unfold nf_H_fits nf_M_fits
  simp only [ci_m1, ci_m10, ci_m1001, ci_m1002, ci_m1003, ci_m1004, ci_0, ci_1, ci_10, ci_100, ci_1000, ci_10000, ci_101, ci_103, ci_104, ci_105, ci_107, ci_108, ci_110, ci_111, ci_114, ci_115, ci_116, ci_118, ci_119, ci_12, ci_122, ci_1431655765, ci_15, ci_16, ci_2, ci_20, ci_23, ci_24, ci_240, ci_252645135, ci_255, ci_256, ci_3, ci_32, ci_4, ci_420, ci_48, ci_5, ci_5040, ci_57, ci_59, ci_6, ci_60, ci_63, ci_64, ci_7, ci_70, ci_8, ci_858993459, ci_9, ci_900, ci_97, ci_99, ci_999, ci_9999, cl_0, cl_1, cl_10, cl_1000000000000, cl_122, cl_2, cl_2000000000000, cl_23, cl_255, cl_27, cl_3, cl_4, cl_48, cl_57, cl_6, cl_8, cl_96, cl_97, cl_99, cl_999, cl_9999]
  refine sp_cknows (cB_i (fun a => cB_f (by decide) ?_) (fun a => cB_t rfl (sp_isClaim hCl (cB_f (fun v => a ⟨v.1, v.2, by omega⟩) (cB_t rfl (h _ _ rfl))))))
  have cx := C x a.1 a.2.1
  refine so_thingsFor hgu a (by rw [cx.1.1]; exact cx.2.1) (fun r i1 b1 => sp_isClaim hCl (cB_t ⟨a.1, a.2.1⟩ (cB_f (by decide) (sm_fitsOf hpg (RS_hh hm) hm.2.2.2.2.2.1 ⟨a.1, a.2.2⟩ (fun r' i2 b2 => h _ _ (bit_x i1 i2 (fun k k0 k1 => ?_)))))))
  have e1 := (b1 k k0 k1).trans ((RS_fit hpg hm hs0 ⟨a.1, a.2.1⟩ k0).trans (b2 k k0 k1).symm)
  cases q1 : bit r k <;> cases q2 : bit r' k
  · rfl
  · rw [q1, q2] at e1; exact absurd (e1.mpr rfl) (by decide)
  · rw [q1, q2] at e1; exact absurd (e1.mp rfl) (by decide)
  · rfl
theorem sim_ways {pg gn en cn nn gu ev cl ni k : Int} {pk gs gk gt gm gb gp gh ef cg cy cz nl so ki ti mk br ha hb hg er mg my mz pl we le F W wt : Int → Int} {K : Int → Int → (Int → Int) → (Int → Int) → Int → (Int → Int) → Prop} (hpg : 0 ≤ pg ∧ pg ≤ 24) (hm : mF gu ev cl ni so ti ha hb hg er mg le) (hs : RS pg pk gn gs gk gt gm gb gp gh en ef cn cg cy cz nn nl gu so ki ti mk br ha hb hg ev er cl mg my mz ni pl we le) (h : ∀ r r' k' F' W' wt', r = r' → K r k' F' W' r' wt') : nf_H_ways gn gk gm gp cn cg cy cz k F W fun r a1 a2 a3 => nf_M_ways pg gu cl pk hg ki mk mg my mz wt fun r' b1 => K r a1 a2 a3 r' b1 := by
  have hs0 := hs
  have hgu : 0 ≤ gu ∧ gu ≤ 16 := ⟨hm.1.1, hm.1.2.1⟩
  have hCl := hm.2.2.1
  obtain ⟨⟨rfl, rfl, rfl, rfl⟩, G, P, E, FF, C, N⟩ := hs
  unfold nf_H_ways nf_M_ways
  simp only [ci_m1, ci_m10, ci_m1001, ci_m1002, ci_m1003, ci_m1004, ci_0, ci_1, ci_10, ci_100, ci_1000, ci_10000, ci_101, ci_103, ci_104, ci_105, ci_107, ci_108, ci_110, ci_111, ci_114, ci_115, ci_116, ci_118, ci_119, ci_12, ci_122, ci_1431655765, ci_15, ci_16, ci_2, ci_20, ci_23, ci_24, ci_240, ci_252645135, ci_255, ci_256, ci_3, ci_32, ci_4, ci_420, ci_48, ci_5, ci_5040, ci_57, ci_59, ci_6, ci_60, ci_63, ci_64, ci_7, ci_70, ci_8, ci_858993459, ci_9, ci_900, ci_97, ci_99, ci_999, ci_9999, cl_0, cl_1, cl_10, cl_1000000000000, cl_122, cl_2, cl_2000000000000, cl_23, cl_255, cl_27, cl_3, cl_4, cl_48, cl_57, cl_6, cl_8, cl_96, cl_97, cl_99, cl_999, cl_9999]
  refine so_load hgu hCl (fun c c0 c1 => by rw [(C c c0 c1).1.1]; exact (C c c0 c1).2.1) (fun F' hF' => so_number hCl (fun W' => ?_))
  have hf : ∀ k t, 0 ≤ k → k < cn → 0 ≤ t → t < 16 → (bit (F' k) t = true ↔ fitM pg pk hg mk (ki (mg k)) (my k) (mz k) t) := fun k t k0 k1 t0 t1 => (hF' k k0 k1 t t0 (by omega)).trans (RS_fit hpg hm hs0 ⟨k0, k1⟩ t0)
  refine sm_waysWith (f := fun c t => bit (F' c) t) hpg hgu hCl (RS_hh hm) hm.2.2.2.2.2.1 hf (fun wt' => h _ _ _ _ _ _ ?_)
  have e1 : ww cn.toNat (fx (fun c t => bit (F' c) t) (-1) (-1)) gn.toNat (ishl 1 cn - 1) = ww cn.toNat (fun c t => bit (F' c) t) gn.toNat (ishl 1 cn - 1) := ww_e (by omega) _ (fun j t _ _ => by unfold fx; simp) _
  rw [e1]
  refine ww_up (by omega) 16 (by omega) (fun k t hk ht => ?_) _
  cases hb2 : bit (F' k) t
  · rfl
  · by_cases t32 : t < 32
    · have := (hF' k (by omega) (by omega) t (by omega) (by omega)).mp hb2
      have := this.2.1
      omega
    · have : bit (F' k) t = false := by
        unfold bit
        exact BitVec.getLsbD_of_ge _ _ (by omega)
      rw [this] at hb2; exact absurd hb2 (by decide)
theorem sim_sure {pg gn en cn nn gu ev cl ni k x : Int} {pk gs gk gt gm gb gp gh ef cg cy cz nl so ki ti mk br ha hb hg er mg my mz pl we le F W wt : Int → Int} {K : Int → Int → (Int → Int) → (Int → Int) → Int → (Int → Int) → Prop} (hpg : 0 ≤ pg ∧ pg ≤ 24) (hm : mF gu ev cl ni so ti ha hb hg er mg le) (hs : RS pg pk gn gs gk gt gm gb gp gh en ef cn cg cy cz nn nl gu so ki ti mk br ha hb hg ev er cl mg my mz ni pl we le) (h : ∀ r r' k' F' W' wt', r = r' → K r k' F' W' r' wt') : nf_H_sure gn gk gm gp cn cg cy cz k F W x fun r a1 a2 a3 => nf_M_sure pg gu cl pk hg ki mk mg my mz wt x fun r' b1 => K r a1 a2 a3 r' b1 := by
  have hCl := hm.2.2.1
  have e3 := hs.1.2.2.1
  unfold nf_H_sure nf_M_sure
  simp only [ci_m1, ci_m10, ci_m1001, ci_m1002, ci_m1003, ci_m1004, ci_0, ci_1, ci_10, ci_100, ci_1000, ci_10000, ci_101, ci_103, ci_104, ci_105, ci_107, ci_108, ci_110, ci_111, ci_114, ci_115, ci_116, ci_118, ci_119, ci_12, ci_122, ci_1431655765, ci_15, ci_16, ci_2, ci_20, ci_23, ci_24, ci_240, ci_252645135, ci_255, ci_256, ci_3, ci_32, ci_4, ci_420, ci_48, ci_5, ci_5040, ci_57, ci_59, ci_6, ci_60, ci_63, ci_64, ci_7, ci_70, ci_8, ci_858993459, ci_9, ci_900, ci_97, ci_99, ci_999, ci_9999, cl_0, cl_1, cl_10, cl_1000000000000, cl_122, cl_2, cl_2000000000000, cl_23, cl_255, cl_27, cl_3, cl_4, cl_48, cl_57, cl_6, cl_8, cl_96, cl_97, cl_99, cl_999, cl_9999]
  refine sp_cknows (cB_i (fun a => cB_f (by decide) ?_) (fun a => cB_t rfl (sp_isClaim hCl (cB_f (fun v => a ⟨v.1, by omega, by omega⟩) (cB_t rfl (h _ _ _ _ _ _ rfl))))))
  exact sim_only hpg hm hs ⟨a.1, by omega⟩ (fun r F' W' _ _ hsu => sp_isClaim hCl (cB_t ⟨a.1, by omega⟩ (cB_f (by decide) (hsu _ _ (fun wt' => h _ _ _ _ _ _ rfl)))))
theorem sim_apart {gn gu x y : Int} {gm mk : Int → Int} {K : Int → Int → Prop} (hgu : 0 ≤ gu ∧ gu ≤ 16) (e : gn = gu) (hk : ∀ g, 0 ≤ g → g < gu → gm g = mk g) (h : ∀ r r', r = r' → K r r') : nf_H_apart gn gm x y fun r => nf_M_apart gu mk x y fun r' => K r r' := by
  subst e
  unfold nf_H_apart nf_M_apart
  simp only [ci_m1, ci_m10, ci_m1001, ci_m1002, ci_m1003, ci_m1004, ci_0, ci_1, ci_10, ci_100, ci_1000, ci_10000, ci_101, ci_103, ci_104, ci_105, ci_107, ci_108, ci_110, ci_111, ci_114, ci_115, ci_116, ci_118, ci_119, ci_12, ci_122, ci_1431655765, ci_15, ci_16, ci_2, ci_20, ci_23, ci_24, ci_240, ci_252645135, ci_255, ci_256, ci_3, ci_32, ci_4, ci_420, ci_48, ci_5, ci_5040, ci_57, ci_59, ci_6, ci_60, ci_63, ci_64, ci_7, ci_70, ci_8, ci_858993459, ci_9, ci_900, ci_97, ci_99, ci_999, ci_9999, cl_0, cl_1, cl_10, cl_1000000000000, cl_122, cl_2, cl_2000000000000, cl_23, cl_255, cl_27, cl_3, cl_4, cl_48, cl_57, cl_6, cl_8, cl_96, cl_97, cl_99, cl_999, cl_9999]
  refine sp_knows (cB_i (fun a => cB_f (by decide) ?_) (fun a => cB_t rfl (sp_isGuest hgu (cB_f (fun v => a ⟨v.1, v.2, by omega⟩) (cB_t rfl (h _ _ rfl))))))
  refine sp_knows (cB_i (fun b => cB_f (by decide) ?_) (fun b => cB_t rfl (sp_isGuest hgu (cB_t ⟨a.1, a.2.1⟩ (cB_f (by decide) (sp_isGuest hgu (cB_f (fun v => b ⟨v.1, v.2, by omega⟩) (cB_t rfl (h _ _ rfl)))))))))
  have ix : inb x 16 := by simp only [inb]; omega
  have iy : inb y 16 := by simp only [inb]; omega
  refine wO_i ix (wO_i iy (wL_i (sp_isGuest hgu (cB_t ⟨a.1, a.2.1⟩ (cB_f (by decide) (sp_isGuest hgu (cB_t ⟨b.1, b.2.1⟩ (cB_f (by decide) (wO_i ix (wO_i iy (wL_i (h _ _ ?_))))))))))))
  rw [hk x a.1 a.2.1, hk y b.1 b.2.1]
