/-! IN STEP 3: the class's clauses keep to the grammar -/
theorem so_addRow {p n k w : Int} {hk hw : Int → Int} {Q : Int → (Int → Int) → (Int → Int) → Prop} (hp : 0 ≤ p) (hn : 0 ≤ n) (hpn : p + n ≤ 24) (hw0 : 0 ≤ w ∧ w ≤ 99) (h : ∀ hk' hw', (∀ q, hk' q = if p ≤ q ∧ q < p + n then k else hk q) → (∀ q, hw' q = if p ≤ q ∧ q < p + n then w + (q - p) else hw q) → Q (p + n) hk' hw') : nf_Hall_addRow p hk hw n k w Q := by
  unfold nf_Hall_addRow
  simp only [ci_m1, ci_m10, ci_m1001, ci_m1002, ci_m1003, ci_m1004, ci_0, ci_1, ci_10, ci_100, ci_1000, ci_10000, ci_101, ci_103, ci_104, ci_105, ci_107, ci_108, ci_110, ci_111, ci_114, ci_115, ci_116, ci_118, ci_119, ci_12, ci_122, ci_1431655765, ci_15, ci_16, ci_2, ci_20, ci_23, ci_24, ci_240, ci_252645135, ci_255, ci_256, ci_3, ci_32, ci_4, ci_420, ci_48, ci_5, ci_5040, ci_57, ci_59, ci_6, ci_60, ci_63, ci_64, ci_7, ci_70, ci_8, ci_858993459, ci_9, ci_900, ci_97, ci_99, ci_999, ci_9999, cl_0, cl_1, cl_10, cl_1000000000000, cl_122, cl_2, cl_2000000000000, cl_23, cl_255, cl_27, cl_3, cl_4, cl_48, cl_57, cl_6, cl_8, cl_96, cl_97, cl_99, cl_999, cl_9999]
  refine nlp4_i (fun i p' hk' hw' => 0 ≤ i ∧ i ≤ n ∧ p' = p + i ∧ (∀ q, hk' q = if p ≤ q ∧ q < p + i then k else hk q) ∧ (∀ q, hw' q = if p ≤ q ∧ q < p + i then w + (q - p) else hw q)) (fun i _ _ _ => (n - i).toNat) ?_ ⟨by omega, by omega, by omega, fun q => by rw [if_neg (by omega)], fun q => by rw [if_neg (by omega)]⟩
  intro i p1 hk1 hw1 hi self hself
  obtain ⟨i1, i2, i3, i4, i5⟩ := hi
  subst i3
  refine cB_i (fun _ => ?_) (fun _ => cB_f (by omega) ?_)
  · have e : i = n := by omega
    subst e
    exact h _ _ i4 i5
  · refine wO_i (by simp only [inb]; omega) (wO_i (by simp only [iR]; omega) (wO_i (by simp only [inb]; omega) (wO_i (by simp only [iR]; omega) (wO_i (by simp only [iR]; omega) (hself _ _ _ _ ⟨by omega, by omega, by omega, fun q => ?_, fun q => ?_⟩ (by omega))))))
    · by_cases e : q = p + i
      · rw [e, ups_s, if_pos (by omega)]
      · rw [ups_n e, i4 q]
        by_cases c : p ≤ q ∧ q < p + i
        · rw [if_pos c, if_pos (by omega)]
        · rw [if_neg c, if_neg (by omega)]
    · by_cases e : q = p + i
      · rw [e, ups_s, if_pos (by omega)]; omega
      · rw [ups_n e, i5 q]
        by_cases c : p ≤ q ∧ q < p + i
        · rw [if_pos c, if_pos (by omega)]
        · rw [if_neg c, if_neg (by omega)]
theorem so_row {n a ff rp : Int} {F T dk dw rk rw : Int → Int} {Q : Int → Int → Int → Int → Int → (Int → Int) → (Int → Int) → Prop} (ht : tx n F T) (ha : 0 ≤ a ∧ a ≤ n) (hp : 0 ≤ rp ∧ rp ≤ 24) (hk : ∀ q, 0 ≤ q → q < rp → dk q = rk q ∧ dw q = rw q) (h : match pRow T n a rp rk rw with
    | .inl x => ∀ a' ff', 0 ≤ a' → a' ≤ n → Q x.2 x.1 a' ff' rp dk dw
    | .inr s => ∀ ff' dk' dw', (∀ q, 0 ≤ q → q < s.2.1 → dk' q = s.2.2.1 q ∧ dw' q = s.2.2.2 q) → Q (-1) 0 s.1 ff' s.2.1 dk' dw') : nf_Reader_readRow n (-1) 0 a ff F rp dk dw Q := by
  unfold nf_Reader_readRow
  simp only [ci_m1, ci_m10, ci_m1001, ci_m1002, ci_m1003, ci_m1004, ci_0, ci_1, ci_10, ci_100, ci_1000, ci_10000, ci_101, ci_103, ci_104, ci_105, ci_107, ci_108, ci_110, ci_111, ci_114, ci_115, ci_116, ci_118, ci_119, ci_12, ci_122, ci_1431655765, ci_15, ci_16, ci_2, ci_20, ci_23, ci_24, ci_240, ci_252645135, ci_255, ci_256, ci_3, ci_32, ci_4, ci_420, ci_48, ci_5, ci_5040, ci_57, ci_59, ci_6, ci_60, ci_63, ci_64, ci_7, ci_70, ci_8, ci_858993459, ci_9, ci_900, ci_97, ci_99, ci_999, ci_9999, cl_0, cl_1, cl_10, cl_1000000000000, cl_122, cl_2, cl_2000000000000, cl_23, cl_255, cl_27, cl_3, cl_4, cl_48, cl_57, cl_6, cl_8, cl_96, cl_97, cl_99, cl_999, cl_9999]
  unfold pRow at h
  have hn := ht.1
  refine so_word (by decide) ht ha ?_
  cases e1 : pWord T n a 0 with
  | inl x =>
    rw [e1, ob_l] at h
    have hx := pWord_l e1
    intro a1 _ _
    ((repeat' (first | with_reducible refine wO_i ?_ ?_ | with_reducible refine wL_i ?_ | with_reducible refine cB_f (by decide) ?_ | with_reducible refine cB_t (by decide) ?_ | with_reducible refine cB_i (fun _ => ?_) (fun _ => ?_) | with_reducible refine jn0_i ?_ | with_reducible refine jn1_i ?_ | with_reducible refine jn2_i ?_ | with_reducible refine jn3_i ?_ | with_reducible refine jn4_i ?_ | with_reducible refine jn5_i ?_ | with_reducible refine jn6_i ?_ | with_reducible refine st_tellShares (fun _ => ?_) (fun _ _ _ _ _ _ _ => ?_) | with_reducible refine sf_word (by omega) hx hn ⟨by omega, by omega⟩ (fun _ _ _ => ?_) | with_reducible refine sf_num hx hn ⟨by omega, by omega⟩ (fun _ _ _ _ _ _ _ => ?_) | with_reducible refine sf_end hx hn ⟨by omega, by omega⟩ (fun _ _ _ => ?_) | with_reducible refine sf_tell hx (fun _ => ?_) | with_reducible refine sf_fail hx ?_)); (all_goals (try (simp only [iR, lR, inb, bZ, dOK, or_true, true_or, true_and, and_true]))); (all_goals (try omega)); (all_goals exact h _ _ (by omega) (by omega)))
  | inr a1 =>
    rw [e1, ob_r] at h
    have c1 := pWord_r ha.2 e1
    refine so_num ht ⟨by omega, c1.2⟩ ?_
    cases e2 : pNum T n a1 1 24 with
    | inl x =>
      rw [e2, ob_l] at h
      have hx := pNum_l e2
      intro r1 a2 ff2 _ _ _ _
      ((repeat' (first | with_reducible refine wO_i ?_ ?_ | with_reducible refine wL_i ?_ | with_reducible refine cB_f (by decide) ?_ | with_reducible refine cB_t (by decide) ?_ | with_reducible refine cB_i (fun _ => ?_) (fun _ => ?_) | with_reducible refine jn0_i ?_ | with_reducible refine jn1_i ?_ | with_reducible refine jn2_i ?_ | with_reducible refine jn3_i ?_ | with_reducible refine jn4_i ?_ | with_reducible refine jn5_i ?_ | with_reducible refine jn6_i ?_ | with_reducible refine st_tellShares (fun _ => ?_) (fun _ _ _ _ _ _ _ => ?_) | with_reducible refine sf_word (by omega) hx hn ⟨by omega, by omega⟩ (fun _ _ _ => ?_) | with_reducible refine sf_num hx hn ⟨by omega, by omega⟩ (fun _ _ _ _ _ _ _ => ?_) | with_reducible refine sf_end hx hn ⟨by omega, by omega⟩ (fun _ _ _ => ?_) | with_reducible refine sf_tell hx (fun _ => ?_) | with_reducible refine sf_fail hx ?_)); (all_goals (try (simp only [iR, lR, inb, bZ, dOK, or_true, true_or, true_and, and_true]))); (all_goals (try omega)); (all_goals exact h _ _ (by omega) (by omega)))
    | inr y =>
      rw [e2, ob_r] at h
      have c2 := pNum_r c1.2 e2
      dsimp only
      refine wO_i (by simp only [iR]; omega) (jn2_i ?_)
      by_cases e3 : rp + y.1 ≤ 24
      · rw [if_pos e3, ob_r] at h
        refine cB_t e3 (so_word (by decide) ht ⟨by omega, c2.2.2.2.2⟩ ?_)
        cases e4 : pWord T n y.2.2 5 with
        | inl x =>
          rw [e4, ob_l] at h
          have hx := pWord_l e4
          intro a3 _ _
          ((repeat' (first | with_reducible refine wO_i ?_ ?_ | with_reducible refine wL_i ?_ | with_reducible refine cB_f (by decide) ?_ | with_reducible refine cB_t (by decide) ?_ | with_reducible refine cB_i (fun _ => ?_) (fun _ => ?_) | with_reducible refine jn0_i ?_ | with_reducible refine jn1_i ?_ | with_reducible refine jn2_i ?_ | with_reducible refine jn3_i ?_ | with_reducible refine jn4_i ?_ | with_reducible refine jn5_i ?_ | with_reducible refine jn6_i ?_ | with_reducible refine st_tellShares (fun _ => ?_) (fun _ _ _ _ _ _ _ => ?_) | with_reducible refine sf_word (by omega) hx hn ⟨by omega, by omega⟩ (fun _ _ _ => ?_) | with_reducible refine sf_num hx hn ⟨by omega, by omega⟩ (fun _ _ _ _ _ _ _ => ?_) | with_reducible refine sf_end hx hn ⟨by omega, by omega⟩ (fun _ _ _ => ?_) | with_reducible refine sf_tell hx (fun _ => ?_) | with_reducible refine sf_fail hx ?_)); (all_goals (try (simp only [iR, lR, inb, bZ, dOK, or_true, true_or, true_and, and_true]))); (all_goals (try omega)); (all_goals exact h _ _ (by omega) (by omega)))
        | inr a3 =>
          rw [e4, ob_r] at h
          have c4 := pWord_r c2.2.2.2.2 e4
          refine so_num ht ⟨by omega, c4.2⟩ ?_
          cases e5 : pNum T n a3 0 2 with
          | inl x =>
            rw [e5, ob_l] at h
            have hx := pNum_l e5
            intro r4 a4 ff4 _ _ _ _
            ((repeat' (first | with_reducible refine wO_i ?_ ?_ | with_reducible refine wL_i ?_ | with_reducible refine cB_f (by decide) ?_ | with_reducible refine cB_t (by decide) ?_ | with_reducible refine cB_i (fun _ => ?_) (fun _ => ?_) | with_reducible refine jn0_i ?_ | with_reducible refine jn1_i ?_ | with_reducible refine jn2_i ?_ | with_reducible refine jn3_i ?_ | with_reducible refine jn4_i ?_ | with_reducible refine jn5_i ?_ | with_reducible refine jn6_i ?_ | with_reducible refine st_tellShares (fun _ => ?_) (fun _ _ _ _ _ _ _ => ?_) | with_reducible refine sf_word (by omega) hx hn ⟨by omega, by omega⟩ (fun _ _ _ => ?_) | with_reducible refine sf_num hx hn ⟨by omega, by omega⟩ (fun _ _ _ _ _ _ _ => ?_) | with_reducible refine sf_end hx hn ⟨by omega, by omega⟩ (fun _ _ _ => ?_) | with_reducible refine sf_tell hx (fun _ => ?_) | with_reducible refine sf_fail hx ?_)); (all_goals (try (simp only [iR, lR, inb, bZ, dOK, or_true, true_or, true_and, and_true]))); (all_goals (try omega)); (all_goals exact h _ _ (by omega) (by omega)))
          | inr z =>
            rw [e5, ob_r] at h
            have c5 := pNum_r c4.2 e5
            refine so_word (by decide) ht ⟨by omega, c5.2.2.2.2⟩ ?_
            cases e6 : pWord T n z.2.2 6 with
            | inl x =>
              rw [e6, ob_l] at h
              have hx := pWord_l e6
              intro a5 _ _
              ((repeat' (first | with_reducible refine wO_i ?_ ?_ | with_reducible refine wL_i ?_ | with_reducible refine cB_f (by decide) ?_ | with_reducible refine cB_t (by decide) ?_ | with_reducible refine cB_i (fun _ => ?_) (fun _ => ?_) | with_reducible refine jn0_i ?_ | with_reducible refine jn1_i ?_ | with_reducible refine jn2_i ?_ | with_reducible refine jn3_i ?_ | with_reducible refine jn4_i ?_ | with_reducible refine jn5_i ?_ | with_reducible refine jn6_i ?_ | with_reducible refine st_tellShares (fun _ => ?_) (fun _ _ _ _ _ _ _ => ?_) | with_reducible refine sf_word (by omega) hx hn ⟨by omega, by omega⟩ (fun _ _ _ => ?_) | with_reducible refine sf_num hx hn ⟨by omega, by omega⟩ (fun _ _ _ _ _ _ _ => ?_) | with_reducible refine sf_end hx hn ⟨by omega, by omega⟩ (fun _ _ _ => ?_) | with_reducible refine sf_tell hx (fun _ => ?_) | with_reducible refine sf_fail hx ?_)); (all_goals (try (simp only [iR, lR, inb, bZ, dOK, or_true, true_or, true_and, and_true]))); (all_goals (try omega)); (all_goals exact h _ _ (by omega) (by omega)))
            | inr a5 =>
              rw [e6, ob_r] at h
              have c6 := pWord_r c5.2.2.2.2 e6
              refine so_num ht ⟨by omega, c6.2⟩ ?_
              cases e7 : pNum T n a5 0 99 with
              | inl x =>
                rw [e7, ob_l] at h
                have hx := pNum_l e7
                intro r6 a6 ff6 _ _ _ _
                ((repeat' (first | with_reducible refine wO_i ?_ ?_ | with_reducible refine wL_i ?_ | with_reducible refine cB_f (by decide) ?_ | with_reducible refine cB_t (by decide) ?_ | with_reducible refine cB_i (fun _ => ?_) (fun _ => ?_) | with_reducible refine jn0_i ?_ | with_reducible refine jn1_i ?_ | with_reducible refine jn2_i ?_ | with_reducible refine jn3_i ?_ | with_reducible refine jn4_i ?_ | with_reducible refine jn5_i ?_ | with_reducible refine jn6_i ?_ | with_reducible refine st_tellShares (fun _ => ?_) (fun _ _ _ _ _ _ _ => ?_) | with_reducible refine sf_word (by omega) hx hn ⟨by omega, by omega⟩ (fun _ _ _ => ?_) | with_reducible refine sf_num hx hn ⟨by omega, by omega⟩ (fun _ _ _ _ _ _ _ => ?_) | with_reducible refine sf_end hx hn ⟨by omega, by omega⟩ (fun _ _ _ => ?_) | with_reducible refine sf_tell hx (fun _ => ?_) | with_reducible refine sf_fail hx ?_)); (all_goals (try (simp only [iR, lR, inb, bZ, dOK, or_true, true_or, true_and, and_true]))); (all_goals (try omega)); (all_goals exact h _ _ (by omega) (by omega)))
              | inr v =>
                rw [e7, ob_r] at h
                have c7 := pNum_r c6.2 e7
                refine so_end ht ⟨by omega, c7.2.2.2.2⟩ ?_
                cases e8 : pEnd T n v.2.2 with
                | inl x =>
                  rw [e8, ob_l] at h
                  have hx := pEnd_l e8
                  intro a7 _ _
                  ((repeat' (first | with_reducible refine wO_i ?_ ?_ | with_reducible refine wL_i ?_ | with_reducible refine cB_f (by decide) ?_ | with_reducible refine cB_t (by decide) ?_ | with_reducible refine cB_i (fun _ => ?_) (fun _ => ?_) | with_reducible refine jn0_i ?_ | with_reducible refine jn1_i ?_ | with_reducible refine jn2_i ?_ | with_reducible refine jn3_i ?_ | with_reducible refine jn4_i ?_ | with_reducible refine jn5_i ?_ | with_reducible refine jn6_i ?_ | with_reducible refine st_tellShares (fun _ => ?_) (fun _ _ _ _ _ _ _ => ?_) | with_reducible refine sf_word (by omega) hx hn ⟨by omega, by omega⟩ (fun _ _ _ => ?_) | with_reducible refine sf_num hx hn ⟨by omega, by omega⟩ (fun _ _ _ _ _ _ _ => ?_) | with_reducible refine sf_end hx hn ⟨by omega, by omega⟩ (fun _ _ _ => ?_) | with_reducible refine sf_tell hx (fun _ => ?_) | with_reducible refine sf_fail hx ?_)); (all_goals (try (simp only [iR, lR, inb, bZ, dOK, or_true, true_or, true_and, and_true]))); (all_goals (try omega)); (all_goals exact h _ _ (by omega) (by omega)))
                | inr a7 =>
                  rw [e8, ob_r] at h
                  refine cB_t rfl (so_addRow hp.1 (by omega) e3 ⟨by omega, by omega⟩ (fun dk' dw' g1 g2 => h _ _ _ (fun q q0 q1 => ?_)))
                  dsimp only at q1 ⊢
                  rw [g1 q, g2 q]
                  by_cases c : rp ≤ q ∧ q < rp + y.1
                  · rw [if_pos c, if_pos c, if_pos c, if_pos c]; exact ⟨rfl, rfl⟩
                  · rw [if_neg c, if_neg c, if_neg c, if_neg c]; exact hk q q0 (by omega)
      · rw [if_neg e3, ob_l] at h
        have hx : (4 : Int) ≠ 0 := by decide
        refine cB_f e3 (sp_fail (cB_t rfl ?_))
        ((repeat' (first | with_reducible refine wO_i ?_ ?_ | with_reducible refine wL_i ?_ | with_reducible refine cB_f (by decide) ?_ | with_reducible refine cB_t (by decide) ?_ | with_reducible refine cB_i (fun _ => ?_) (fun _ => ?_) | with_reducible refine jn0_i ?_ | with_reducible refine jn1_i ?_ | with_reducible refine jn2_i ?_ | with_reducible refine jn3_i ?_ | with_reducible refine jn4_i ?_ | with_reducible refine jn5_i ?_ | with_reducible refine jn6_i ?_ | with_reducible refine st_tellShares (fun _ => ?_) (fun _ _ _ _ _ _ _ => ?_) | with_reducible refine sf_word (by omega) hx hn ⟨by omega, by omega⟩ (fun _ _ _ => ?_) | with_reducible refine sf_num hx hn ⟨by omega, by omega⟩ (fun _ _ _ _ _ _ _ => ?_) | with_reducible refine sf_end hx hn ⟨by omega, by omega⟩ (fun _ _ _ => ?_) | with_reducible refine sf_tell hx (fun _ => ?_) | with_reducible refine sf_fail hx ?_)); (all_goals (try (simp only [iR, lR, inb, bZ, dOK, or_true, true_or, true_and, and_true]))); (all_goals (try omega)); (all_goals exact h _ _ (by omega) (by omega)))
theorem so_tellShares {S : Int → Int} {s a b c : Int} {Q : (Int → Int) → Prop} (h0 : 0 ≤ s) (h1 : s ≤ 3) (h : Q (ups (ups (ups S (s * 3) a) (s * 3 + 1) b) (s * 3 + 2) c)) : nf_Hall_tellShares S s a b c Q := by
  unfold nf_Hall_tellShares
  simp only [ci_m1, ci_m10, ci_m1001, ci_m1002, ci_m1003, ci_m1004, ci_0, ci_1, ci_10, ci_100, ci_1000, ci_10000, ci_101, ci_103, ci_104, ci_105, ci_107, ci_108, ci_110, ci_111, ci_114, ci_115, ci_116, ci_118, ci_119, ci_12, ci_122, ci_1431655765, ci_15, ci_16, ci_2, ci_20, ci_23, ci_24, ci_240, ci_252645135, ci_255, ci_256, ci_3, ci_32, ci_4, ci_420, ci_48, ci_5, ci_5040, ci_57, ci_59, ci_6, ci_60, ci_63, ci_64, ci_7, ci_70, ci_8, ci_858993459, ci_9, ci_900, ci_97, ci_99, ci_999, ci_9999, cl_0, cl_1, cl_10, cl_1000000000000, cl_122, cl_2, cl_2000000000000, cl_23, cl_255, cl_27, cl_3, cl_4, cl_48, cl_57, cl_6, cl_8, cl_96, cl_97, cl_99, cl_999, cl_9999]
  refine sp_within (cB_t ⟨h0, h1⟩ (cB_f (by decide) ?_))
  repeat' (first | with_reducible refine wO_i ?_ ?_ | with_reducible refine wL_i ?_ | with_reducible refine cB_f (by decide) ?_ | with_reducible refine cB_t (by decide) ?_ | with_reducible refine cB_i (fun _ => ?_) (fun _ => ?_) | with_reducible refine jn0_i ?_ | with_reducible refine jn1_i ?_ | with_reducible refine jn2_i ?_ | with_reducible refine jn3_i ?_ | with_reducible refine jn4_i ?_ | with_reducible refine jn5_i ?_ | with_reducible refine jn6_i ?_)
  all_goals (try (simp only [iR, lR, inb, bZ, dOK, or_true, true_or, true_and, and_true] at *)); all_goals (try omega)
  all_goals exact h
theorem so_odds {n a ff tb : Int} {t : Int → Bool} {F T ds ro : Int → Int} {Q : Int → Int → Int → Int → Int → (Int → Int) → Prop} (ht : tx n F T) (ha : 0 ≤ a ∧ a ≤ n) (htb : tR tb t) (hk : ∀ q, 0 ≤ q → q < 12 → ds q = ro q) (h : match pOdds T n a t ro with
    | .inl x => ∀ a' ff' tb' ds', 0 ≤ a' → a' ≤ n → Q x.2 x.1 a' ff' tb' ds'
    | .inr s => ∀ ff' tb' ds', tR tb' s.2.1 → (∀ q, 0 ≤ q → q < 12 → ds' q = s.2.2 q) → Q (-1) 0 s.1 ff' tb' ds') : nf_Reader_readOdds n (-1) 0 a ff tb F ds Q := by
  unfold nf_Reader_readOdds
  simp only [ci_m1, ci_m10, ci_m1001, ci_m1002, ci_m1003, ci_m1004, ci_0, ci_1, ci_10, ci_100, ci_1000, ci_10000, ci_101, ci_103, ci_104, ci_105, ci_107, ci_108, ci_110, ci_111, ci_114, ci_115, ci_116, ci_118, ci_119, ci_12, ci_122, ci_1431655765, ci_15, ci_16, ci_2, ci_20, ci_23, ci_24, ci_240, ci_252645135, ci_255, ci_256, ci_3, ci_32, ci_4, ci_420, ci_48, ci_5, ci_5040, ci_57, ci_59, ci_6, ci_60, ci_63, ci_64, ci_7, ci_70, ci_8, ci_858993459, ci_9, ci_900, ci_97, ci_99, ci_999, ci_9999, cl_0, cl_1, cl_10, cl_1000000000000, cl_122, cl_2, cl_2000000000000, cl_23, cl_255, cl_27, cl_3, cl_4, cl_48, cl_57, cl_6, cl_8, cl_96, cl_97, cl_99, cl_999, cl_9999]
  unfold pOdds at h
  have hn := ht.1
  refine so_word (by decide) ht ha ?_
  cases e1 : pWord T n a 1 with
  | inl x =>
    rw [e1, ob_l] at h
    have hx := pWord_l e1
    intro a1 _ _
    ((repeat' (first | with_reducible refine wO_i ?_ ?_ | with_reducible refine wL_i ?_ | with_reducible refine cB_f (by decide) ?_ | with_reducible refine cB_t (by decide) ?_ | with_reducible refine cB_i (fun _ => ?_) (fun _ => ?_) | with_reducible refine jn0_i ?_ | with_reducible refine jn1_i ?_ | with_reducible refine jn2_i ?_ | with_reducible refine jn3_i ?_ | with_reducible refine jn4_i ?_ | with_reducible refine jn5_i ?_ | with_reducible refine jn6_i ?_ | with_reducible refine st_tellShares (fun _ => ?_) (fun _ _ _ _ _ _ _ => ?_) | with_reducible refine sf_word (by omega) hx hn ⟨by omega, by omega⟩ (fun _ _ _ => ?_) | with_reducible refine sf_num hx hn ⟨by omega, by omega⟩ (fun _ _ _ _ _ _ _ => ?_) | with_reducible refine sf_end hx hn ⟨by omega, by omega⟩ (fun _ _ _ => ?_) | with_reducible refine sf_tell hx (fun _ => ?_) | with_reducible refine sf_fail hx ?_)); (all_goals (try (simp only [iR, lR, inb, bZ, dOK, or_true, true_or, true_and, and_true]))); (all_goals (try omega)); (all_goals exact h _ _ _ _ (by omega) (by omega)))
  | inr a1 =>
    rw [e1, ob_r] at h
    have c1 := pWord_r ha.2 e1
    refine so_num ht ⟨by omega, c1.2⟩ ?_
    cases e2 : pNum T n a1 0 3 with
    | inl x =>
      rw [e2, ob_l] at h
      have hx := pNum_l e2
      intro r1 a2 ff2 _ _ _ _
      ((repeat' (first | with_reducible refine wO_i ?_ ?_ | with_reducible refine wL_i ?_ | with_reducible refine cB_f (by decide) ?_ | with_reducible refine cB_t (by decide) ?_ | with_reducible refine cB_i (fun _ => ?_) (fun _ => ?_) | with_reducible refine jn0_i ?_ | with_reducible refine jn1_i ?_ | with_reducible refine jn2_i ?_ | with_reducible refine jn3_i ?_ | with_reducible refine jn4_i ?_ | with_reducible refine jn5_i ?_ | with_reducible refine jn6_i ?_ | with_reducible refine st_tellShares (fun _ => ?_) (fun _ _ _ _ _ _ _ => ?_) | with_reducible refine sf_word (by omega) hx hn ⟨by omega, by omega⟩ (fun _ _ _ => ?_) | with_reducible refine sf_num hx hn ⟨by omega, by omega⟩ (fun _ _ _ _ _ _ _ => ?_) | with_reducible refine sf_end hx hn ⟨by omega, by omega⟩ (fun _ _ _ => ?_) | with_reducible refine sf_tell hx (fun _ => ?_) | with_reducible refine sf_fail hx ?_)); (all_goals (try (simp only [iR, lR, inb, bZ, dOK, or_true, true_or, true_and, and_true]))); (all_goals (try omega)); (all_goals exact h _ _ _ _ (by omega) (by omega)))
    | inr s =>
      rw [e2, ob_r] at h
      have c2 := pNum_r c1.2 e2
      dsimp only
      refine wL_i (so_tell c2.1 (by omega) rfl htb (fun e3 tb1 => ?_) (fun e3 tb1 htb1 => ?_))
      · rw [if_pos e3, ob_l] at h
        have hx : (3 : Int) ≠ 0 := by decide
        ((repeat' (first | with_reducible refine wO_i ?_ ?_ | with_reducible refine wL_i ?_ | with_reducible refine cB_f (by decide) ?_ | with_reducible refine cB_t (by decide) ?_ | with_reducible refine cB_i (fun _ => ?_) (fun _ => ?_) | with_reducible refine jn0_i ?_ | with_reducible refine jn1_i ?_ | with_reducible refine jn2_i ?_ | with_reducible refine jn3_i ?_ | with_reducible refine jn4_i ?_ | with_reducible refine jn5_i ?_ | with_reducible refine jn6_i ?_ | with_reducible refine st_tellShares (fun _ => ?_) (fun _ _ _ _ _ _ _ => ?_) | with_reducible refine sf_word (by omega) hx hn ⟨by omega, by omega⟩ (fun _ _ _ => ?_) | with_reducible refine sf_num hx hn ⟨by omega, by omega⟩ (fun _ _ _ _ _ _ _ => ?_) | with_reducible refine sf_end hx hn ⟨by omega, by omega⟩ (fun _ _ _ => ?_) | with_reducible refine sf_tell hx (fun _ => ?_) | with_reducible refine sf_fail hx ?_)); (all_goals (try (simp only [iR, lR, inb, bZ, dOK, or_true, true_or, true_and, and_true]))); (all_goals (try omega)); (all_goals exact h _ _ _ _ (by omega) (by omega)))
      · rw [if_neg (by rw [e3]; decide), ob_r] at h
        refine so_num ht ⟨by omega, c2.2.2.2.2⟩ ?_
        cases e4 : pNum T n s.2.2 0 100 with
        | inl x =>
          rw [e4, ob_l] at h
          have hx := pNum_l e4
          intro r1 a2 ff2 _ _ _ _
          ((repeat' (first | with_reducible refine wO_i ?_ ?_ | with_reducible refine wL_i ?_ | with_reducible refine cB_f (by decide) ?_ | with_reducible refine cB_t (by decide) ?_ | with_reducible refine cB_i (fun _ => ?_) (fun _ => ?_) | with_reducible refine jn0_i ?_ | with_reducible refine jn1_i ?_ | with_reducible refine jn2_i ?_ | with_reducible refine jn3_i ?_ | with_reducible refine jn4_i ?_ | with_reducible refine jn5_i ?_ | with_reducible refine jn6_i ?_ | with_reducible refine st_tellShares (fun _ => ?_) (fun _ _ _ _ _ _ _ => ?_) | with_reducible refine sf_word (by omega) hx hn ⟨by omega, by omega⟩ (fun _ _ _ => ?_) | with_reducible refine sf_num hx hn ⟨by omega, by omega⟩ (fun _ _ _ _ _ _ _ => ?_) | with_reducible refine sf_end hx hn ⟨by omega, by omega⟩ (fun _ _ _ => ?_) | with_reducible refine sf_tell hx (fun _ => ?_) | with_reducible refine sf_fail hx ?_)); (all_goals (try (simp only [iR, lR, inb, bZ, dOK, or_true, true_or, true_and, and_true]))); (all_goals (try omega)); (all_goals exact h _ _ _ _ (by omega) (by omega)))
        | inr x1 =>
          rw [e4, ob_r] at h
          have c4 := pNum_r c2.2.2.2.2 e4
          refine so_num ht ⟨by omega, c4.2.2.2.2⟩ ?_
          cases e5 : pNum T n x1.2.2 0 100 with
          | inl x =>
            rw [e5, ob_l] at h
            have hx := pNum_l e5
            intro r1 a2 ff2 _ _ _ _
            ((repeat' (first | with_reducible refine wO_i ?_ ?_ | with_reducible refine wL_i ?_ | with_reducible refine cB_f (by decide) ?_ | with_reducible refine cB_t (by decide) ?_ | with_reducible refine cB_i (fun _ => ?_) (fun _ => ?_) | with_reducible refine jn0_i ?_ | with_reducible refine jn1_i ?_ | with_reducible refine jn2_i ?_ | with_reducible refine jn3_i ?_ | with_reducible refine jn4_i ?_ | with_reducible refine jn5_i ?_ | with_reducible refine jn6_i ?_ | with_reducible refine st_tellShares (fun _ => ?_) (fun _ _ _ _ _ _ _ => ?_) | with_reducible refine sf_word (by omega) hx hn ⟨by omega, by omega⟩ (fun _ _ _ => ?_) | with_reducible refine sf_num hx hn ⟨by omega, by omega⟩ (fun _ _ _ _ _ _ _ => ?_) | with_reducible refine sf_end hx hn ⟨by omega, by omega⟩ (fun _ _ _ => ?_) | with_reducible refine sf_tell hx (fun _ => ?_) | with_reducible refine sf_fail hx ?_)); (all_goals (try (simp only [iR, lR, inb, bZ, dOK, or_true, true_or, true_and, and_true]))); (all_goals (try omega)); (all_goals exact h _ _ _ _ (by omega) (by omega)))
          | inr x2 =>
            rw [e5, ob_r] at h
            have c5 := pNum_r c4.2.2.2.2 e5
            refine so_num ht ⟨by omega, c5.2.2.2.2⟩ ?_
            cases e6 : pNum T n x2.2.2 0 100 with
            | inl x =>
              rw [e6, ob_l] at h
              have hx := pNum_l e6
              intro r1 a2 ff2 _ _ _ _
              ((repeat' (first | with_reducible refine wO_i ?_ ?_ | with_reducible refine wL_i ?_ | with_reducible refine cB_f (by decide) ?_ | with_reducible refine cB_t (by decide) ?_ | with_reducible refine cB_i (fun _ => ?_) (fun _ => ?_) | with_reducible refine jn0_i ?_ | with_reducible refine jn1_i ?_ | with_reducible refine jn2_i ?_ | with_reducible refine jn3_i ?_ | with_reducible refine jn4_i ?_ | with_reducible refine jn5_i ?_ | with_reducible refine jn6_i ?_ | with_reducible refine st_tellShares (fun _ => ?_) (fun _ _ _ _ _ _ _ => ?_) | with_reducible refine sf_word (by omega) hx hn ⟨by omega, by omega⟩ (fun _ _ _ => ?_) | with_reducible refine sf_num hx hn ⟨by omega, by omega⟩ (fun _ _ _ _ _ _ _ => ?_) | with_reducible refine sf_end hx hn ⟨by omega, by omega⟩ (fun _ _ _ => ?_) | with_reducible refine sf_tell hx (fun _ => ?_) | with_reducible refine sf_fail hx ?_)); (all_goals (try (simp only [iR, lR, inb, bZ, dOK, or_true, true_or, true_and, and_true]))); (all_goals (try omega)); (all_goals exact h _ _ _ _ (by omega) (by omega)))
            | inr x3 =>
              rw [e6, ob_r] at h
              have c6 := pNum_r c5.2.2.2.2 e6
              dsimp only
              refine wO_i (by simp only [iR]; omega) (wO_i (by simp only [iR]; omega) (jn2_i ?_))
              by_cases e7 : x1.1 + x2.1 + x3.1 = 100
              · rw [if_pos e7, ob_r] at h
                refine cB_t e7 (so_end ht ⟨by omega, c6.2.2.2.2⟩ ?_)
                cases e8 : pEnd T n x3.2.2 with
                | inl x =>
                  rw [e8, ob_l] at h
                  have hx := pEnd_l e8
                  intro a7 _ _
                  ((repeat' (first | with_reducible refine wO_i ?_ ?_ | with_reducible refine wL_i ?_ | with_reducible refine cB_f (by decide) ?_ | with_reducible refine cB_t (by decide) ?_ | with_reducible refine cB_i (fun _ => ?_) (fun _ => ?_) | with_reducible refine jn0_i ?_ | with_reducible refine jn1_i ?_ | with_reducible refine jn2_i ?_ | with_reducible refine jn3_i ?_ | with_reducible refine jn4_i ?_ | with_reducible refine jn5_i ?_ | with_reducible refine jn6_i ?_ | with_reducible refine st_tellShares (fun _ => ?_) (fun _ _ _ _ _ _ _ => ?_) | with_reducible refine sf_word (by omega) hx hn ⟨by omega, by omega⟩ (fun _ _ _ => ?_) | with_reducible refine sf_num hx hn ⟨by omega, by omega⟩ (fun _ _ _ _ _ _ _ => ?_) | with_reducible refine sf_end hx hn ⟨by omega, by omega⟩ (fun _ _ _ => ?_) | with_reducible refine sf_tell hx (fun _ => ?_) | with_reducible refine sf_fail hx ?_)); (all_goals (try (simp only [iR, lR, inb, bZ, dOK, or_true, true_or, true_and, and_true]))); (all_goals (try omega)); (all_goals exact h _ _ _ _ (by omega) (by omega)))
                | inr a7 =>
                  rw [e8, ob_r] at h
                  refine so_tellShares c2.1 c2.2.1 (h _ _ _ htb1 (fun q q0 q1 => ?_))
                  rw [show s.1 * 3 = 3 * s.1 by omega]
                  dsimp only
                  by_cases g2 : q = 3 * s.1 + 2
                  · rw [g2, ups_s, ups_s]
                  · rw [ups_n g2, ups_n g2]
                    by_cases g1 : q = 3 * s.1 + 1
                    · rw [g1, ups_s, ups_s]
                    · rw [ups_n g1, ups_n g1]
                      by_cases g0 : q = 3 * s.1
                      · rw [g0, ups_s, ups_s]
                      · rw [ups_n g0, ups_n g0]; exact hk q q0 q1
              · rw [if_neg e7, ob_l] at h
                have hx : (5 : Int) ≠ 0 := by decide
                refine cB_f e7 (sp_fail (cB_t rfl ?_))
                ((repeat' (first | with_reducible refine wO_i ?_ ?_ | with_reducible refine wL_i ?_ | with_reducible refine cB_f (by decide) ?_ | with_reducible refine cB_t (by decide) ?_ | with_reducible refine cB_i (fun _ => ?_) (fun _ => ?_) | with_reducible refine jn0_i ?_ | with_reducible refine jn1_i ?_ | with_reducible refine jn2_i ?_ | with_reducible refine jn3_i ?_ | with_reducible refine jn4_i ?_ | with_reducible refine jn5_i ?_ | with_reducible refine jn6_i ?_ | with_reducible refine st_tellShares (fun _ => ?_) (fun _ _ _ _ _ _ _ => ?_) | with_reducible refine sf_word (by omega) hx hn ⟨by omega, by omega⟩ (fun _ _ _ => ?_) | with_reducible refine sf_num hx hn ⟨by omega, by omega⟩ (fun _ _ _ _ _ _ _ => ?_) | with_reducible refine sf_end hx hn ⟨by omega, by omega⟩ (fun _ _ _ => ?_) | with_reducible refine sf_tell hx (fun _ => ?_) | with_reducible refine sf_fail hx ?_)); (all_goals (try (simp only [iR, lR, inb, bZ, dOK, or_true, true_or, true_and, and_true]))); (all_goals (try omega)); (all_goals exact h _ _ _ _ (by omega) (by omega)))
