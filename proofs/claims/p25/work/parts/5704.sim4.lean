/-! IN STEP 4: clauses, the whole text -/
theorem so_wts {n a ff : Int} {t : Int → Bool} {F T dx rs : Int → Int} {Q : Int → Int → Int → Int → (Int → Int) → Prop} (ht : tx n F T) (ha : 0 ≤ a ∧ a ≤ n) (hk : ∀ q, 0 ≤ q → q < 3 → dx q = rs q) (h4 : t 4 = false) (h : match pWts T n a t rs with
    | .inl x => ∀ a' ff' dx', 0 ≤ a' → a' ≤ n → Q x.2 x.1 a' ff' dx'
    | .inr s => ∀ ff' dx', s.2.1 = tl t 4 → (∀ q, 0 ≤ q → q < 3 → dx' q = s.2.2 q) → s.2.2 3 = rs 3 → s.2.2 4 = rs 4 → Q (-1) 0 s.1 ff' dx') : nf_Reader_readWeights n (-1) 0 a ff F dx Q := by
  unfold nf_Reader_readWeights
  unfold nf_Hall_tellWeights
  simp only [ci_m1, ci_m10, ci_m1001, ci_m1002, ci_m1003, ci_m1004, ci_0, ci_1, ci_10, ci_100, ci_1000, ci_10000, ci_101, ci_103, ci_104, ci_105, ci_107, ci_108, ci_110, ci_111, ci_114, ci_115, ci_116, ci_118, ci_119, ci_12, ci_122, ci_1431655765, ci_15, ci_16, ci_2, ci_20, ci_23, ci_24, ci_240, ci_252645135, ci_255, ci_256, ci_3, ci_32, ci_4, ci_420, ci_48, ci_5, ci_5040, ci_57, ci_59, ci_6, ci_60, ci_63, ci_64, ci_7, ci_70, ci_8, ci_858993459, ci_9, ci_900, ci_97, ci_99, ci_999, ci_9999, cl_0, cl_1, cl_10, cl_1000000000000, cl_122, cl_2, cl_2000000000000, cl_23, cl_255, cl_27, cl_3, cl_4, cl_48, cl_57, cl_6, cl_8, cl_96, cl_97, cl_99, cl_999, cl_9999]
  unfold pWts at h
  rw [if_neg (by rw [h4]; decide), ob_r] at h
  have hn := ht.1
  refine so_word (by decide) ht ha ?_
  cases e1 : pWord T n a 2 with
  | inl x =>
    rw [e1, ob_l] at h
    have hx := pWord_l e1
    intro a1 _ _
    ((repeat' (first | with_reducible refine wO_i ?_ ?_ | with_reducible refine wL_i ?_ | with_reducible refine cB_f (by decide) ?_ | with_reducible refine cB_t (by decide) ?_ | with_reducible refine cB_i (fun _ => ?_) (fun _ => ?_) | with_reducible refine jn0_i ?_ | with_reducible refine jn1_i ?_ | with_reducible refine jn2_i ?_ | with_reducible refine jn3_i ?_ | with_reducible refine jn4_i ?_ | with_reducible refine jn5_i ?_ | with_reducible refine jn6_i ?_ | with_reducible refine st_tellShares (fun _ => ?_) (fun _ _ _ _ _ _ _ => ?_) | with_reducible refine sf_word (by omega) hx hn ⟨by omega, by omega⟩ (fun _ _ _ => ?_) | with_reducible refine sf_num hx hn ⟨by omega, by omega⟩ (fun _ _ _ _ _ _ _ => ?_) | with_reducible refine sf_end hx hn ⟨by omega, by omega⟩ (fun _ _ _ => ?_) | with_reducible refine sf_tell hx (fun _ => ?_) | with_reducible refine sf_fail hx ?_)); (all_goals (try (simp only [iR, lR, inb, bZ, dOK, or_true, true_or, true_and, and_true]))); (all_goals (try omega)); (all_goals exact h _ _ _ (by omega) (by omega)))
  | inr a1 =>
    rw [e1, ob_r] at h
    have c1 := pWord_r ha.2 e1
    refine so_num ht ⟨by omega, c1.2⟩ ?_
    cases e4 : pNum T n a1 0 9 with
    | inl x =>
      rw [e4, ob_l] at h
      have hx := pNum_l e4
      intro r1 a2 ff2 _ _ _ _
      ((repeat' (first | with_reducible refine wO_i ?_ ?_ | with_reducible refine wL_i ?_ | with_reducible refine cB_f (by decide) ?_ | with_reducible refine cB_t (by decide) ?_ | with_reducible refine cB_i (fun _ => ?_) (fun _ => ?_) | with_reducible refine jn0_i ?_ | with_reducible refine jn1_i ?_ | with_reducible refine jn2_i ?_ | with_reducible refine jn3_i ?_ | with_reducible refine jn4_i ?_ | with_reducible refine jn5_i ?_ | with_reducible refine jn6_i ?_ | with_reducible refine st_tellShares (fun _ => ?_) (fun _ _ _ _ _ _ _ => ?_) | with_reducible refine sf_word (by omega) hx hn ⟨by omega, by omega⟩ (fun _ _ _ => ?_) | with_reducible refine sf_num hx hn ⟨by omega, by omega⟩ (fun _ _ _ _ _ _ _ => ?_) | with_reducible refine sf_end hx hn ⟨by omega, by omega⟩ (fun _ _ _ => ?_) | with_reducible refine sf_tell hx (fun _ => ?_) | with_reducible refine sf_fail hx ?_)); (all_goals (try (simp only [iR, lR, inb, bZ, dOK, or_true, true_or, true_and, and_true]))); (all_goals (try omega)); (all_goals exact h _ _ _ (by omega) (by omega)))
    | inr x1 =>
      rw [e4, ob_r] at h
      have c4 := pNum_r c1.2 e4
      refine so_num ht ⟨by omega, c4.2.2.2.2⟩ ?_
      cases e5 : pNum T n x1.2.2 0 9 with
      | inl x =>
        rw [e5, ob_l] at h
        have hx := pNum_l e5
        intro r1 a2 ff2 _ _ _ _
        ((repeat' (first | with_reducible refine wO_i ?_ ?_ | with_reducible refine wL_i ?_ | with_reducible refine cB_f (by decide) ?_ | with_reducible refine cB_t (by decide) ?_ | with_reducible refine cB_i (fun _ => ?_) (fun _ => ?_) | with_reducible refine jn0_i ?_ | with_reducible refine jn1_i ?_ | with_reducible refine jn2_i ?_ | with_reducible refine jn3_i ?_ | with_reducible refine jn4_i ?_ | with_reducible refine jn5_i ?_ | with_reducible refine jn6_i ?_ | with_reducible refine st_tellShares (fun _ => ?_) (fun _ _ _ _ _ _ _ => ?_) | with_reducible refine sf_word (by omega) hx hn ⟨by omega, by omega⟩ (fun _ _ _ => ?_) | with_reducible refine sf_num hx hn ⟨by omega, by omega⟩ (fun _ _ _ _ _ _ _ => ?_) | with_reducible refine sf_end hx hn ⟨by omega, by omega⟩ (fun _ _ _ => ?_) | with_reducible refine sf_tell hx (fun _ => ?_) | with_reducible refine sf_fail hx ?_)); (all_goals (try (simp only [iR, lR, inb, bZ, dOK, or_true, true_or, true_and, and_true]))); (all_goals (try omega)); (all_goals exact h _ _ _ (by omega) (by omega)))
      | inr x2 =>
        rw [e5, ob_r] at h
        have c5 := pNum_r c4.2.2.2.2 e5
        refine so_num ht ⟨by omega, c5.2.2.2.2⟩ ?_
        cases e6 : pNum T n x2.2.2 0 9 with
        | inl x =>
          rw [e6, ob_l] at h
          have hx := pNum_l e6
          intro r1 a2 ff2 _ _ _ _
          ((repeat' (first | with_reducible refine wO_i ?_ ?_ | with_reducible refine wL_i ?_ | with_reducible refine cB_f (by decide) ?_ | with_reducible refine cB_t (by decide) ?_ | with_reducible refine cB_i (fun _ => ?_) (fun _ => ?_) | with_reducible refine jn0_i ?_ | with_reducible refine jn1_i ?_ | with_reducible refine jn2_i ?_ | with_reducible refine jn3_i ?_ | with_reducible refine jn4_i ?_ | with_reducible refine jn5_i ?_ | with_reducible refine jn6_i ?_ | with_reducible refine st_tellShares (fun _ => ?_) (fun _ _ _ _ _ _ _ => ?_) | with_reducible refine sf_word (by omega) hx hn ⟨by omega, by omega⟩ (fun _ _ _ => ?_) | with_reducible refine sf_num hx hn ⟨by omega, by omega⟩ (fun _ _ _ _ _ _ _ => ?_) | with_reducible refine sf_end hx hn ⟨by omega, by omega⟩ (fun _ _ _ => ?_) | with_reducible refine sf_tell hx (fun _ => ?_) | with_reducible refine sf_fail hx ?_)); (all_goals (try (simp only [iR, lR, inb, bZ, dOK, or_true, true_or, true_and, and_true]))); (all_goals (try omega)); (all_goals exact h _ _ _ (by omega) (by omega)))
        | inr x3 =>
          rw [e6, ob_r] at h
          have c6 := pNum_r c5.2.2.2.2 e6
          refine so_end ht ⟨by omega, c6.2.2.2.2⟩ ?_
          cases e8 : pEnd T n x3.2.2 with
          | inl x =>
            rw [e8, ob_l] at h
            have hx := pEnd_l e8
            intro a7 _ _
            ((repeat' (first | with_reducible refine wO_i ?_ ?_ | with_reducible refine wL_i ?_ | with_reducible refine cB_f (by decide) ?_ | with_reducible refine cB_t (by decide) ?_ | with_reducible refine cB_i (fun _ => ?_) (fun _ => ?_) | with_reducible refine jn0_i ?_ | with_reducible refine jn1_i ?_ | with_reducible refine jn2_i ?_ | with_reducible refine jn3_i ?_ | with_reducible refine jn4_i ?_ | with_reducible refine jn5_i ?_ | with_reducible refine jn6_i ?_ | with_reducible refine st_tellShares (fun _ => ?_) (fun _ _ _ _ _ _ _ => ?_) | with_reducible refine sf_word (by omega) hx hn ⟨by omega, by omega⟩ (fun _ _ _ => ?_) | with_reducible refine sf_num hx hn ⟨by omega, by omega⟩ (fun _ _ _ _ _ _ _ => ?_) | with_reducible refine sf_end hx hn ⟨by omega, by omega⟩ (fun _ _ _ => ?_) | with_reducible refine sf_tell hx (fun _ => ?_) | with_reducible refine sf_fail hx ?_)); (all_goals (try (simp only [iR, lR, inb, bZ, dOK, or_true, true_or, true_and, and_true]))); (all_goals (try omega)); (all_goals exact h _ _ _ (by omega) (by omega)))
          | inr a7 =>
            rw [e8, ob_r] at h
            refine wO_i (by simp only [inb]; omega) (wO_i (by simp only [inb]; omega) (wO_i (by simp only [inb]; omega) (h _ _ rfl (fun q q0 q1 => ?_) ?_ ?_)))
            · dsimp only
              rcases (show q = 0 ∨ q = 1 ∨ q = 2 by omega) with rfl | rfl | rfl
              · rw [ups_n (by omega), ups_n (by omega), ups_s, ups_n (by omega), ups_n (by omega), ups_s]
              · rw [ups_n (by omega), ups_s, ups_n (by omega), ups_s]
              · rw [ups_s, ups_s]
            · dsimp only
              rw [ups_n (by omega), ups_n (by omega), ups_n (by omega)]
            · dsimp only
              rw [ups_n (by omega), ups_n (by omega), ups_n (by omega)]
theorem st_readWeights' {n p f a ff : Int} {F dx : Int → Int} {Q : Int → Int → Int → Int → (Int → Int) → Prop} (hn : 0 ≤ n ∧ n ≤ 240) (ha : 0 ≤ a ∧ a ≤ n) (hx : f ≠ 0) (h : ∀ a' ff' dx', 0 ≤ a' → a' ≤ n → Q p f a' ff' dx') : nf_Reader_readWeights n p f a ff F dx Q := by
  unfold nf_Reader_readWeights
  unfold nf_Hall_tellWeights
  simp only [ci_m1, ci_m10, ci_m1001, ci_m1002, ci_m1003, ci_m1004, ci_0, ci_1, ci_10, ci_100, ci_1000, ci_10000, ci_101, ci_103, ci_104, ci_105, ci_107, ci_108, ci_110, ci_111, ci_114, ci_115, ci_116, ci_118, ci_119, ci_12, ci_122, ci_1431655765, ci_15, ci_16, ci_2, ci_20, ci_23, ci_24, ci_240, ci_252645135, ci_255, ci_256, ci_3, ci_32, ci_4, ci_420, ci_48, ci_5, ci_5040, ci_57, ci_59, ci_6, ci_60, ci_63, ci_64, ci_7, ci_70, ci_8, ci_858993459, ci_9, ci_900, ci_97, ci_99, ci_999, ci_9999, cl_0, cl_1, cl_10, cl_1000000000000, cl_122, cl_2, cl_2000000000000, cl_23, cl_255, cl_27, cl_3, cl_4, cl_48, cl_57, cl_6, cl_8, cl_96, cl_97, cl_99, cl_999, cl_9999]
  ((repeat' (first | with_reducible refine wO_i ?_ ?_ | with_reducible refine wL_i ?_ | with_reducible refine cB_f (by decide) ?_ | with_reducible refine cB_t (by decide) ?_ | with_reducible refine cB_i (fun _ => ?_) (fun _ => ?_) | with_reducible refine jn0_i ?_ | with_reducible refine jn1_i ?_ | with_reducible refine jn2_i ?_ | with_reducible refine jn3_i ?_ | with_reducible refine jn4_i ?_ | with_reducible refine jn5_i ?_ | with_reducible refine jn6_i ?_ | with_reducible refine st_tellShares (fun _ => ?_) (fun _ _ _ _ _ _ _ => ?_) | with_reducible refine sf_word (by omega) hx hn ⟨by omega, by omega⟩ (fun _ _ _ => ?_) | with_reducible refine sf_num hx hn ⟨by omega, by omega⟩ (fun _ _ _ _ _ _ _ => ?_) | with_reducible refine sf_end hx hn ⟨by omega, by omega⟩ (fun _ _ _ => ?_) | with_reducible refine sf_tell hx (fun _ => ?_) | with_reducible refine sf_fail hx ?_)); (all_goals (try (simp only [iR, lR, inb, bZ, dOK, or_true, true_or, true_and, and_true]))); (all_goals (try omega)); (all_goals exact h _ _ _ (by omega) (by omega)))
def cR (dp dt dl : Int) (dk dw ds dx : Int → Int) (rp : Int) (rk rw ro rs : Int → Int) : Prop := dp = rp ∧ (∀ q, 0 ≤ q → q < rp → dk q = rk q ∧ dw q = rw q) ∧ (∀ k, 0 ≤ k → k < 12 → ds k = ro k) ∧ (∀ k, 0 ≤ k → k < 3 → dx k = rs k) ∧ dt = rs 3 ∧ dl = rs 4
theorem so_clause {n a ff tb dp dt dl rp : Int} {t : Int → Bool} {F T dk dw ds dx rk rw ro rs : Int → Int} {Q : Int → Int → Int → Int → Int → Int → Int → Int → (Int → Int) → (Int → Int) → (Int → Int) → (Int → Int) → Prop} (ht : tx n F T) (ha : 0 ≤ a ∧ a ≤ n) (hp : 0 ≤ rp ∧ rp ≤ 24) (htb : tR tb t) (hR : cR dp dt dl dk dw ds dx rp rk rw ro rs) (h : match pClause T n a t rp rk rw ro rs with
    | .inl x => ∀ a' ff' tb' dp' dt' dl' dk' dw' ds' dx', 0 ≤ a' → a' ≤ n → 0 ≤ dp' → dp' ≤ 24 → Q x.2 x.1 a' ff' tb' dp' dt' dl' dk' dw' ds' dx'
    | .inr s => ∀ ff' tb' dp' dt' dl' dk' dw' ds' dx', tR tb' s.2.1 → cR dp' dt' dl' dk' dw' ds' dx' s.2.2.1 s.2.2.2.1 s.2.2.2.2.1 s.2.2.2.2.2.1 s.2.2.2.2.2.2 → Q (-1) 0 s.1 ff' tb' dp' dt' dl' dk' dw' ds' dx') : nf_Reader_readClause n (-1) 0 a ff tb F dp dt dl dk dw ds dx Q := by
  unfold nf_Reader_readClause
  simp only [ci_m1, ci_m10, ci_m1001, ci_m1002, ci_m1003, ci_m1004, ci_0, ci_1, ci_10, ci_100, ci_1000, ci_10000, ci_101, ci_103, ci_104, ci_105, ci_107, ci_108, ci_110, ci_111, ci_114, ci_115, ci_116, ci_118, ci_119, ci_12, ci_122, ci_1431655765, ci_15, ci_16, ci_2, ci_20, ci_23, ci_24, ci_240, ci_252645135, ci_255, ci_256, ci_3, ci_32, ci_4, ci_420, ci_48, ci_5, ci_5040, ci_57, ci_59, ci_6, ci_60, ci_63, ci_64, ci_7, ci_70, ci_8, ci_858993459, ci_9, ci_900, ci_97, ci_99, ci_999, ci_9999, cl_0, cl_1, cl_10, cl_1000000000000, cl_122, cl_2, cl_2000000000000, cl_23, cl_255, cl_27, cl_3, cl_4, cl_48, cl_57, cl_6, cl_8, cl_96, cl_97, cl_99, cl_999, cl_9999]
  unfold pClause at h
  have hn := ht.1
  obtain ⟨r1, r2, r3, r4, r5, r6⟩ := hR
  subst r1
  refine sx_isHere (by decide) ht ha (cB_i (fun e => cB_f (by decide) ?_) (fun e => cB_t rfl ?_))
  · rw [if_pos e] at h
    refine so_row ht ha hp r2 ?_
    cases e1 : pRow T n a dp rk rw with
    | inl x =>
      rw [e1, ob_l] at h
      intro a' ff' a0 a1
      exact h _ _ _ _ _ _ _ _ _ _ a0 a1 hp.1 hp.2
    | inr s =>
      rw [e1, ob_r] at h
      intro ff' dk' dw' g
      exact h _ _ _ _ _ _ _ _ _ htb ⟨rfl, g, r3, r4, r5, r6⟩
  rw [if_neg e] at h
  refine sx_isHere (by decide) ht ha (cB_i (fun e => cB_f (by decide) ?_) (fun e => cB_t rfl ?_))
  · rw [if_pos e] at h
    refine so_odds ht ha htb r3 ?_
    cases e1 : pOdds T n a t ro with
    | inl x =>
      rw [e1, ob_l] at h
      intro a' ff' tb' ds' a0 a1
      exact h _ _ _ _ _ _ _ _ _ _ a0 a1 hp.1 hp.2
    | inr s =>
      rw [e1, ob_r] at h
      intro ff' tb' ds' g0 g
      exact h _ _ _ _ _ _ _ _ _ g0 ⟨rfl, r2, g, r4, r5, r6⟩
  rw [if_neg e] at h
  refine sx_isHere (by decide) ht ha (cB_i (fun e => cB_f (by decide) ?_) (fun e => cB_t rfl ?_))
  · rw [if_pos e] at h
    refine so_tell (j := 4) (by omega) (by omega) (by decide +kernel) htb (fun e3 tb1 => ?_) (fun e3 tb1 htb1 => ?_)
    · unfold pWts at h
      rw [if_pos e3, ob_l, ob_l] at h
      have hx : (3 : Int) ≠ 0 := by decide
      refine st_readWeights' hn ha hx (fun a' ff' dx' a0 a1 => h _ _ _ _ _ _ _ _ _ _ a0 a1 hp.1 hp.2)
    · refine so_wts ht ha r4 e3 ?_
      cases e1 : pWts T n a t rs with
      | inl x =>
        rw [e1, ob_l] at h
        intro a' ff' dx' a0 a1
        exact h _ _ _ _ _ _ _ _ _ _ a0 a1 hp.1 hp.2
      | inr s =>
        rw [e1, ob_r] at h
        intro ff' dx' g0 g1 g2 g3
        dsimp only at h
        rw [g0] at h
        exact h _ _ _ _ _ _ _ _ _ htb1 ⟨rfl, r2, r3, g1, by rw [r5, g2], by rw [r6, g3]⟩
  rw [if_neg e] at h
  refine sx_isHere (by decide) ht ha (cB_i (fun e => cB_f (by decide) ?_) (fun e => cB_t rfl ?_))
  · rw [if_pos e] at h
    refine so_tell (j := 5) (by omega) (by omega) (by decide +kernel) htb (fun e3 tb1 => ?_) (fun e3 tb1 htb1 => ?_)
    · unfold pOne at h
      rw [if_pos (by exact e3), ob_l, ob_l] at h
      have hx : (3 : Int) ≠ 0 := by decide
      ((repeat' (first | with_reducible refine wO_i ?_ ?_ | with_reducible refine wL_i ?_ | with_reducible refine cB_f (by decide) ?_ | with_reducible refine cB_t (by decide) ?_ | with_reducible refine cB_i (fun _ => ?_) (fun _ => ?_) | with_reducible refine jn0_i ?_ | with_reducible refine jn1_i ?_ | with_reducible refine jn2_i ?_ | with_reducible refine jn3_i ?_ | with_reducible refine jn4_i ?_ | with_reducible refine jn5_i ?_ | with_reducible refine jn6_i ?_ | with_reducible refine st_tellShares (fun _ => ?_) (fun _ _ _ _ _ _ _ => ?_) | with_reducible refine sf_word (by omega) hx hn ⟨by omega, by omega⟩ (fun _ _ _ => ?_) | with_reducible refine sf_num hx hn ⟨by omega, by omega⟩ (fun _ _ _ _ _ _ _ => ?_) | with_reducible refine sf_end hx hn ⟨by omega, by omega⟩ (fun _ _ _ => ?_) | with_reducible refine sf_tell hx (fun _ => ?_) | with_reducible refine sf_fail hx ?_)); (all_goals (try (simp only [iR, lR, inb, bZ, dOK, or_true, true_or, true_and, and_true]))); (all_goals (try omega)); (all_goals exact h _ _ _ _ _ _ _ _ _ _ (by omega) (by omega) hp.1 hp.2))
    · unfold pOne at h
      rw [if_neg (by intro e9; exact absurd (e3.symm.trans e9) (by decide)), ob_r] at h
      refine so_word (by decide) ht ha ?_
      cases e1 : pWord T n a 3 with
      | inl x =>
        rw [e1, ob_l, ob_l] at h
        have hx := pWord_l e1
        intro a1 _ _
        ((repeat' (first | with_reducible refine wO_i ?_ ?_ | with_reducible refine wL_i ?_ | with_reducible refine cB_f (by decide) ?_ | with_reducible refine cB_t (by decide) ?_ | with_reducible refine cB_i (fun _ => ?_) (fun _ => ?_) | with_reducible refine jn0_i ?_ | with_reducible refine jn1_i ?_ | with_reducible refine jn2_i ?_ | with_reducible refine jn3_i ?_ | with_reducible refine jn4_i ?_ | with_reducible refine jn5_i ?_ | with_reducible refine jn6_i ?_ | with_reducible refine st_tellShares (fun _ => ?_) (fun _ _ _ _ _ _ _ => ?_) | with_reducible refine sf_word (by omega) hx hn ⟨by omega, by omega⟩ (fun _ _ _ => ?_) | with_reducible refine sf_num hx hn ⟨by omega, by omega⟩ (fun _ _ _ _ _ _ _ => ?_) | with_reducible refine sf_end hx hn ⟨by omega, by omega⟩ (fun _ _ _ => ?_) | with_reducible refine sf_tell hx (fun _ => ?_) | with_reducible refine sf_fail hx ?_)); (all_goals (try (simp only [iR, lR, inb, bZ, dOK, or_true, true_or, true_and, and_true]))); (all_goals (try omega)); (all_goals exact h _ _ _ _ _ _ _ _ _ _ (by omega) (by omega) hp.1 hp.2))
      | inr a1 =>
        rw [e1, ob_r] at h
        have c1 := pWord_r ha.2 e1
        refine so_num ht ⟨by omega, c1.2⟩ ?_
        cases e4 : pNum T n a1 0 20 with
        | inl x =>
          rw [e4, ob_l, ob_l] at h
          have hx := pNum_l e4
          intro r1 a2 ff2 _ _ _ _
          ((repeat' (first | with_reducible refine wO_i ?_ ?_ | with_reducible refine wL_i ?_ | with_reducible refine cB_f (by decide) ?_ | with_reducible refine cB_t (by decide) ?_ | with_reducible refine cB_i (fun _ => ?_) (fun _ => ?_) | with_reducible refine jn0_i ?_ | with_reducible refine jn1_i ?_ | with_reducible refine jn2_i ?_ | with_reducible refine jn3_i ?_ | with_reducible refine jn4_i ?_ | with_reducible refine jn5_i ?_ | with_reducible refine jn6_i ?_ | with_reducible refine st_tellShares (fun _ => ?_) (fun _ _ _ _ _ _ _ => ?_) | with_reducible refine sf_word (by omega) hx hn ⟨by omega, by omega⟩ (fun _ _ _ => ?_) | with_reducible refine sf_num hx hn ⟨by omega, by omega⟩ (fun _ _ _ _ _ _ _ => ?_) | with_reducible refine sf_end hx hn ⟨by omega, by omega⟩ (fun _ _ _ => ?_) | with_reducible refine sf_tell hx (fun _ => ?_) | with_reducible refine sf_fail hx ?_)); (all_goals (try (simp only [iR, lR, inb, bZ, dOK, or_true, true_or, true_and, and_true]))); (all_goals (try omega)); (all_goals exact h _ _ _ _ _ _ _ _ _ _ (by omega) (by omega) hp.1 hp.2))
        | inr x1 =>
          rw [e4, ob_r] at h
          have c4 := pNum_r c1.2 e4
          refine so_end ht ⟨by omega, c4.2.2.2.2⟩ ?_
          cases e8 : pEnd T n x1.2.2 with
          | inl x =>
            rw [e8, ob_l, ob_l] at h
            have hx := pEnd_l e8
            intro a7 _ _
            ((repeat' (first | with_reducible refine wO_i ?_ ?_ | with_reducible refine wL_i ?_ | with_reducible refine cB_f (by decide) ?_ | with_reducible refine cB_t (by decide) ?_ | with_reducible refine cB_i (fun _ => ?_) (fun _ => ?_) | with_reducible refine jn0_i ?_ | with_reducible refine jn1_i ?_ | with_reducible refine jn2_i ?_ | with_reducible refine jn3_i ?_ | with_reducible refine jn4_i ?_ | with_reducible refine jn5_i ?_ | with_reducible refine jn6_i ?_ | with_reducible refine st_tellShares (fun _ => ?_) (fun _ _ _ _ _ _ _ => ?_) | with_reducible refine sf_word (by omega) hx hn ⟨by omega, by omega⟩ (fun _ _ _ => ?_) | with_reducible refine sf_num hx hn ⟨by omega, by omega⟩ (fun _ _ _ _ _ _ _ => ?_) | with_reducible refine sf_end hx hn ⟨by omega, by omega⟩ (fun _ _ _ => ?_) | with_reducible refine sf_tell hx (fun _ => ?_) | with_reducible refine sf_fail hx ?_)); (all_goals (try (simp only [iR, lR, inb, bZ, dOK, or_true, true_or, true_and, and_true]))); (all_goals (try omega)); (all_goals exact h _ _ _ _ _ _ _ _ _ _ (by omega) (by omega) hp.1 hp.2))
          | inr a7 =>
            rw [e8, ob_r, ob_r] at h
            refine h _ _ _ _ _ _ _ _ _ htb1 ⟨rfl, r2, r3, fun q q0 q1 => ?_, ?_, ?_⟩
            · show dx q = ups rs ((3 : Nat) : Int) x1.1 q
              rw [ups_n (by omega)]; exact r4 q q0 q1
            · exact (ups_s (F := rs) (i := 3) (v := x1.1)).symm
            · show dl = ups rs ((3 : Nat) : Int) x1.1 4
              rw [ups_n (by omega)]; exact r6
  rw [if_neg e] at h
  refine sx_isHere (by decide) ht ha (cB_i (fun e => cB_f (by decide) ?_) (fun e => cB_t rfl ?_))
  · rw [if_pos e] at h
    refine so_tell (j := 6) (by omega) (by omega) (by decide +kernel) htb (fun e3 tb1 => ?_) (fun e3 tb1 htb1 => ?_)
    · unfold pOne at h
      rw [if_pos (by exact e3), ob_l, ob_l] at h
      have hx : (3 : Int) ≠ 0 := by decide
      ((repeat' (first | with_reducible refine wO_i ?_ ?_ | with_reducible refine wL_i ?_ | with_reducible refine cB_f (by decide) ?_ | with_reducible refine cB_t (by decide) ?_ | with_reducible refine cB_i (fun _ => ?_) (fun _ => ?_) | with_reducible refine jn0_i ?_ | with_reducible refine jn1_i ?_ | with_reducible refine jn2_i ?_ | with_reducible refine jn3_i ?_ | with_reducible refine jn4_i ?_ | with_reducible refine jn5_i ?_ | with_reducible refine jn6_i ?_ | with_reducible refine st_tellShares (fun _ => ?_) (fun _ _ _ _ _ _ _ => ?_) | with_reducible refine sf_word (by omega) hx hn ⟨by omega, by omega⟩ (fun _ _ _ => ?_) | with_reducible refine sf_num hx hn ⟨by omega, by omega⟩ (fun _ _ _ _ _ _ _ => ?_) | with_reducible refine sf_end hx hn ⟨by omega, by omega⟩ (fun _ _ _ => ?_) | with_reducible refine sf_tell hx (fun _ => ?_) | with_reducible refine sf_fail hx ?_)); (all_goals (try (simp only [iR, lR, inb, bZ, dOK, or_true, true_or, true_and, and_true]))); (all_goals (try omega)); (all_goals exact h _ _ _ _ _ _ _ _ _ _ (by omega) (by omega) hp.1 hp.2))
    · unfold pOne at h
      rw [if_neg (by intro e9; exact absurd (e3.symm.trans e9) (by decide)), ob_r] at h
      refine so_word (by decide) ht ha ?_
      cases e1 : pWord T n a 4 with
      | inl x =>
        rw [e1, ob_l, ob_l] at h
        have hx := pWord_l e1
        intro a1 _ _
        ((repeat' (first | with_reducible refine wO_i ?_ ?_ | with_reducible refine wL_i ?_ | with_reducible refine cB_f (by decide) ?_ | with_reducible refine cB_t (by decide) ?_ | with_reducible refine cB_i (fun _ => ?_) (fun _ => ?_) | with_reducible refine jn0_i ?_ | with_reducible refine jn1_i ?_ | with_reducible refine jn2_i ?_ | with_reducible refine jn3_i ?_ | with_reducible refine jn4_i ?_ | with_reducible refine jn5_i ?_ | with_reducible refine jn6_i ?_ | with_reducible refine st_tellShares (fun _ => ?_) (fun _ _ _ _ _ _ _ => ?_) | with_reducible refine sf_word (by omega) hx hn ⟨by omega, by omega⟩ (fun _ _ _ => ?_) | with_reducible refine sf_num hx hn ⟨by omega, by omega⟩ (fun _ _ _ _ _ _ _ => ?_) | with_reducible refine sf_end hx hn ⟨by omega, by omega⟩ (fun _ _ _ => ?_) | with_reducible refine sf_tell hx (fun _ => ?_) | with_reducible refine sf_fail hx ?_)); (all_goals (try (simp only [iR, lR, inb, bZ, dOK, or_true, true_or, true_and, and_true]))); (all_goals (try omega)); (all_goals exact h _ _ _ _ _ _ _ _ _ _ (by omega) (by omega) hp.1 hp.2))
      | inr a1 =>
        rw [e1, ob_r] at h
        have c1 := pWord_r ha.2 e1
        refine so_num ht ⟨by omega, c1.2⟩ ?_
        cases e4 : pNum T n a1 0 20 with
        | inl x =>
          rw [e4, ob_l, ob_l] at h
          have hx := pNum_l e4
          intro r1 a2 ff2 _ _ _ _
          ((repeat' (first | with_reducible refine wO_i ?_ ?_ | with_reducible refine wL_i ?_ | with_reducible refine cB_f (by decide) ?_ | with_reducible refine cB_t (by decide) ?_ | with_reducible refine cB_i (fun _ => ?_) (fun _ => ?_) | with_reducible refine jn0_i ?_ | with_reducible refine jn1_i ?_ | with_reducible refine jn2_i ?_ | with_reducible refine jn3_i ?_ | with_reducible refine jn4_i ?_ | with_reducible refine jn5_i ?_ | with_reducible refine jn6_i ?_ | with_reducible refine st_tellShares (fun _ => ?_) (fun _ _ _ _ _ _ _ => ?_) | with_reducible refine sf_word (by omega) hx hn ⟨by omega, by omega⟩ (fun _ _ _ => ?_) | with_reducible refine sf_num hx hn ⟨by omega, by omega⟩ (fun _ _ _ _ _ _ _ => ?_) | with_reducible refine sf_end hx hn ⟨by omega, by omega⟩ (fun _ _ _ => ?_) | with_reducible refine sf_tell hx (fun _ => ?_) | with_reducible refine sf_fail hx ?_)); (all_goals (try (simp only [iR, lR, inb, bZ, dOK, or_true, true_or, true_and, and_true]))); (all_goals (try omega)); (all_goals exact h _ _ _ _ _ _ _ _ _ _ (by omega) (by omega) hp.1 hp.2))
        | inr x1 =>
          rw [e4, ob_r] at h
          have c4 := pNum_r c1.2 e4
          refine so_end ht ⟨by omega, c4.2.2.2.2⟩ ?_
          cases e8 : pEnd T n x1.2.2 with
          | inl x =>
            rw [e8, ob_l, ob_l] at h
            have hx := pEnd_l e8
            intro a7 _ _
            ((repeat' (first | with_reducible refine wO_i ?_ ?_ | with_reducible refine wL_i ?_ | with_reducible refine cB_f (by decide) ?_ | with_reducible refine cB_t (by decide) ?_ | with_reducible refine cB_i (fun _ => ?_) (fun _ => ?_) | with_reducible refine jn0_i ?_ | with_reducible refine jn1_i ?_ | with_reducible refine jn2_i ?_ | with_reducible refine jn3_i ?_ | with_reducible refine jn4_i ?_ | with_reducible refine jn5_i ?_ | with_reducible refine jn6_i ?_ | with_reducible refine st_tellShares (fun _ => ?_) (fun _ _ _ _ _ _ _ => ?_) | with_reducible refine sf_word (by omega) hx hn ⟨by omega, by omega⟩ (fun _ _ _ => ?_) | with_reducible refine sf_num hx hn ⟨by omega, by omega⟩ (fun _ _ _ _ _ _ _ => ?_) | with_reducible refine sf_end hx hn ⟨by omega, by omega⟩ (fun _ _ _ => ?_) | with_reducible refine sf_tell hx (fun _ => ?_) | with_reducible refine sf_fail hx ?_)); (all_goals (try (simp only [iR, lR, inb, bZ, dOK, or_true, true_or, true_and, and_true]))); (all_goals (try omega)); (all_goals exact h _ _ _ _ _ _ _ _ _ _ (by omega) (by omega) hp.1 hp.2))
          | inr a7 =>
            rw [e8, ob_r, ob_r] at h
            refine h _ _ _ _ _ _ _ _ _ htb1 ⟨rfl, r2, r3, fun q q0 q1 => ?_, ?_, ?_⟩
            · show dx q = ups rs ((4 : Nat) : Int) x1.1 q
              rw [ups_n (by omega)]; exact r4 q q0 q1
            · show dt = ups rs ((4 : Nat) : Int) x1.1 3
              rw [ups_n (by omega)]; exact r5
            · exact (ups_s (F := rs) (i := 4) (v := x1.1)).symm
  · rw [if_neg e] at h
    exact sp_fail (cB_t rfl (h _ _ _ _ _ _ _ _ _ _ ha.1 ha.2 hp.1 hp.2))
