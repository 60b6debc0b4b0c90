/-! IN STEP 7: the model's clauses keep to the grammar -/
theorem ob_a {α β γ : Type} (o : Sum (Int × Int) α) (k : α → Sum (Int × Int) β) (g : β → Sum (Int × Int) γ) : ob (ob o k) g = ob o (fun y => ob (k y) g) := by
  cases o <;> rfl
def pRowM (T : Int → Int) (n a1 rp : Int) (rk rw : Int → Int) : Sum (Int × Int) (Int × Int × (Int → Int) × (Int → Int)) :=
  ob (pNum T n a1 1 24) fun x => ob (if rp + x.1 ≤ 24 then .inr x.2.2 else .inl (4, x.2.1)) fun a2 =>
  ob (pWord T n a2 5) fun a3 => ob (pNum T n a3 0 2) fun y => ob (pWord T n y.2.2 6) fun a4 => ob (pNum T n a4 0 99) fun z =>
  .inr (z.2.2, rp + x.1, (fun q => if rp ≤ q ∧ q < rp + x.1 then y.1 else rk q), (fun q => if rp ≤ q ∧ q < rp + x.1 then z.1 + (q - rp) else rw q))
theorem pRow_e (T : Int → Int) (n a rp : Int) (rk rw : Int → Int) : pRow T n a rp rk rw = ob (pWord T n a 0) fun a1 => ob (pRowM T n a1 rp rk rw) fun s => ob (pEnd T n s.1) fun b => .inr (b, s.2) := by
  unfold pRow pRowM
  simp only [ob_a, ob_r]
def pOddsM (T : Int → Int) (n a1 : Int) (t : Int → Bool) (ro : Int → Int) : Sum (Int × Int) (Int × (Int → Bool) × (Int → Int)) :=
  ob (pNum T n a1 0 3) fun s => ob (if t s.1 = true then .inl (3, s.2.1) else .inr s.2.2) fun a2 =>
  ob (pNum T n a2 0 100) fun x => ob (pNum T n x.2.2 0 100) fun y => ob (pNum T n y.2.2 0 100) fun z => ob (if x.1 + y.1 + z.1 = 100 then .inr z.2.2 else .inl (5, z.2.1)) fun a3 =>
  .inr (a3, tl t s.1, ups (ups (ups ro (3 * s.1) x.1) (3 * s.1 + 1) y.1) (3 * s.1 + 2) z.1)
theorem pOdds_e (T : Int → Int) (n a : Int) (t : Int → Bool) (ro : Int → Int) : pOdds T n a t ro = ob (pWord T n a 1) fun a1 => ob (pOddsM T n a1 t ro) fun s => ob (pEnd T n s.1) fun b => .inr (b, s.2) := by
  unfold pOdds pOddsM
  simp only [ob_a, ob_r]
def pWtsM (T : Int → Int) (n a1 : Int) (rs : Int → Int) : Sum (Int × Int) (Int × (Int → Int)) :=
  ob (pNum T n a1 0 9) fun x => ob (pNum T n x.2.2 0 9) fun y => ob (pNum T n y.2.2 0 9) fun z => .inr (z.2.2, ups (ups (ups rs 0 x.1) 1 y.1) 2 z.1)
theorem pWts_e (T : Int → Int) (n a : Int) (t : Int → Bool) (rs : Int → Int) : pWts T n a t rs = ob (if t 4 = true then .inl (3, a) else .inr a) fun a0 => ob (pWord T n a0 2) fun a1 => ob (pWtsM T n a1 rs) fun s => ob (pEnd T n s.1) fun b => .inr (b, tl t 4, s.2) := by
  unfold pWts pWtsM
  simp only [ob_a, ob_r]
def pOneM (T : Int → Int) (n a1 : Int) (si : Nat) (rs : Int → Int) : Sum (Int × Int) (Int × (Int → Int)) :=
  ob (pNum T n a1 0 20) fun x => .inr (x.2.2, ups rs si x.1)
theorem pOne_e (T : Int → Int) (n a : Int) (si : Nat) (t : Int → Bool) (rs : Int → Int) : pOne T n a si t rs = ob (if t (si + 2) = true then .inl (3, a) else .inr a) fun a0 => ob (pWord T n a0 si) fun a1 => ob (pOneM T n a1 si rs) fun s => ob (pEnd T n s.1) fun b => .inr (b, tl t (si + 2), s.2) := by
  unfold pOne pOneM
  simp only [ob_a, ob_r]
theorem sm_row {n p a w we nb na rp : Int} {F rk rw rk1 rw1 : Int → Int} {Q : Int → Int → Int → Int → Int → Int → Int → Int → (Int → Int) → (Int → Int) → Prop} (hn : 0 ≤ n ∧ n ≤ 240) (ha : 0 ≤ a ∧ a ≤ n) (hb : 0 ≤ nb ∧ nb ≤ 100009) (hp : 0 ≤ rp ∧ rp ≤ 24) (hk : ∀ q, 0 ≤ q → q < rp → rk1 q = rk q ∧ rw1 q = rw q) (h : match pRowM F n a rp rk rw with
    | .inl x => ∀ a' w' we' nb' na' rp' rk' rw', 0 ≤ a' → a' ≤ n → 0 ≤ nb' → nb' ≤ 100009 → Q x.1 x.2 a' w' we' nb' na' rp' rk' rw'
    | .inr s => ∀ w' we' nb' na' rk' rw', 0 ≤ nb' → nb' ≤ 100009 → (∀ q, 0 ≤ q → q < s.2.1 → rk' q = s.2.2.1 q ∧ rw' q = s.2.2.2 q) → Q 0 p s.1 w' we' nb' na' s.2.1 rk' rw') : nf_M_takeRow n p a w we nb na rp F rk1 rw1 Q := by
  unfold nf_M_takeRow
  simp only [ci_m1, ci_m10, ci_m1001, ci_m1002, ci_m1003, ci_m1004, ci_0, ci_1, ci_10, ci_100, ci_1000, ci_10000, ci_101, ci_103, ci_104, ci_105, ci_107, ci_108, ci_110, ci_111, ci_114, ci_115, ci_116, ci_118, ci_119, ci_12, ci_122, ci_1431655765, ci_15, ci_16, ci_2, ci_20, ci_23, ci_24, ci_240, ci_252645135, ci_255, ci_256, ci_3, ci_32, ci_4, ci_420, ci_48, ci_5, ci_5040, ci_57, ci_59, ci_6, ci_60, ci_63, ci_64, ci_7, ci_70, ci_8, ci_858993459, ci_9, ci_900, ci_97, ci_99, ci_999, ci_9999, cl_0, cl_1, cl_10, cl_1000000000000, cl_122, cl_2, cl_2000000000000, cl_23, cl_255, cl_27, cl_3, cl_4, cl_48, cl_57, cl_6, cl_8, cl_96, cl_97, cl_99, cl_999, cl_9999]
  unfold pRowM at h
  refine sm_num hn ha hb ?_
  cases e1 : pNum F n a 1 24 with
  | inl x =>
    rw [e1, ob_l] at h
    have hx : 1 ≤ x.1 := (pNum_p x e1).1
    intro a1 nb1 na1 _ _ _ _
    ((repeat' (first | with_reducible refine cB_f (by omega) ?_ | with_reducible refine wL_i ?_ | with_reducible refine cB_i (fun _ => ?_) (fun _ => ?_) | with_reducible refine jn0_i ?_ | with_reducible refine jn1_i ?_ | with_reducible refine jn2_i ?_ | with_reducible refine jn3_i ?_ | with_reducible refine jn4_i ?_ | with_reducible refine jn5_i ?_ | with_reducible refine jn6_i ?_ | with_reducible refine jn7_i ?_ | with_reducible refine jn8_i ?_ | with_reducible refine jn9_i ?_ | with_reducible refine jn10_i ?_ | with_reducible refine jn11_i ?_ | with_reducible refine jn12_i ?_ | with_reducible refine jn13_i ?_ | with_reducible refine nlp4_i (fun _ _ _ _ => True) (fun _ _ _ _ => 0) (fun _ _ _ _ _ _ _ => ?_) trivial)); (all_goals exact h _ _ _ _ _ _ _ _ (by omega) (by omega) (by omega) (by omega)))
  | inr x =>
    rw [e1, ob_r] at h
    have c1 := pNum_r ha.2 e1
    refine jn2_i (cB_t rfl (wO_i (by simp only [iR]; omega) ?_))
    by_cases e2 : rp + x.1 ≤ 24
    · rw [if_pos e2, ob_r] at h
      refine cB_t e2 (jn5_i (cB_t (Int.le_refl 0) (sp_code ⟨by omega, by omega⟩ ⟨by omega, by omega⟩ ⟨by omega, by omega⟩ (sp_longer ⟨by omega, by omega⟩ ⟨by omega, by omega⟩ (sm_needs (si := 5) (by decide) (by decide +kernel) hn ⟨by omega, c1.2.2.2.2⟩ ?_)))))
      cases e3 : pWord F n x.2.2 5 with
      | inl y =>
        rw [e3, ob_l] at h
        have hx : 1 ≤ y.1 := (pWord_p y e3).1
        intro a2 w2 we2 _ _
        ((repeat' (first | with_reducible refine cB_f (by omega) ?_ | with_reducible refine wL_i ?_ | with_reducible refine cB_i (fun _ => ?_) (fun _ => ?_) | with_reducible refine jn0_i ?_ | with_reducible refine jn1_i ?_ | with_reducible refine jn2_i ?_ | with_reducible refine jn3_i ?_ | with_reducible refine jn4_i ?_ | with_reducible refine jn5_i ?_ | with_reducible refine jn6_i ?_ | with_reducible refine jn7_i ?_ | with_reducible refine jn8_i ?_ | with_reducible refine jn9_i ?_ | with_reducible refine jn10_i ?_ | with_reducible refine jn11_i ?_ | with_reducible refine jn12_i ?_ | with_reducible refine jn13_i ?_ | with_reducible refine nlp4_i (fun _ _ _ _ => True) (fun _ _ _ _ => 0) (fun _ _ _ _ _ _ _ => ?_) trivial)); (all_goals exact h _ _ _ _ _ _ _ _ (by omega) (by omega) (by omega) (by omega)))
      | inr a3 =>
        rw [e3, ob_r] at h
        have c3 := pWord_r c1.2.2.2.2 e3
        intro w2 we2
        refine jn5_i (cB_t (Int.le_refl 0) (sm_num hn ⟨by omega, c3.2⟩ ⟨by omega, by omega⟩ ?_))
        cases e4 : pNum F n a3 0 2 with
        | inl y =>
          rw [e4, ob_l] at h
          have hx : 1 ≤ y.1 := (pNum_p y e4).1
          intro a4 nb4 na4 _ _ _ _
          ((repeat' (first | with_reducible refine cB_f (by omega) ?_ | with_reducible refine wL_i ?_ | with_reducible refine cB_i (fun _ => ?_) (fun _ => ?_) | with_reducible refine jn0_i ?_ | with_reducible refine jn1_i ?_ | with_reducible refine jn2_i ?_ | with_reducible refine jn3_i ?_ | with_reducible refine jn4_i ?_ | with_reducible refine jn5_i ?_ | with_reducible refine jn6_i ?_ | with_reducible refine jn7_i ?_ | with_reducible refine jn8_i ?_ | with_reducible refine jn9_i ?_ | with_reducible refine jn10_i ?_ | with_reducible refine jn11_i ?_ | with_reducible refine jn12_i ?_ | with_reducible refine jn13_i ?_ | with_reducible refine nlp4_i (fun _ _ _ _ => True) (fun _ _ _ _ => 0) (fun _ _ _ _ _ _ _ => ?_) trivial)); (all_goals exact h _ _ _ _ _ _ _ _ (by omega) (by omega) (by omega) (by omega)))
        | inr y =>
          rw [e4, ob_r] at h
          have c4 := pNum_r c3.2 e4
          refine jn5_i (cB_t (Int.le_refl 0) (sp_code ⟨by omega, by omega⟩ ⟨by omega, by omega⟩ ⟨by omega, by omega⟩ (sp_longer ⟨by omega, by omega⟩ ⟨by omega, by omega⟩ (sm_needs (si := 6) (by decide) (by decide +kernel) hn ⟨by omega, c4.2.2.2.2⟩ ?_))))
          cases e5 : pWord F n y.2.2 6 with
          | inl z =>
            rw [e5, ob_l] at h
            have hx : 1 ≤ z.1 := (pWord_p z e5).1
            intro a5 w5 we5 _ _
            ((repeat' (first | with_reducible refine cB_f (by omega) ?_ | with_reducible refine wL_i ?_ | with_reducible refine cB_i (fun _ => ?_) (fun _ => ?_) | with_reducible refine jn0_i ?_ | with_reducible refine jn1_i ?_ | with_reducible refine jn2_i ?_ | with_reducible refine jn3_i ?_ | with_reducible refine jn4_i ?_ | with_reducible refine jn5_i ?_ | with_reducible refine jn6_i ?_ | with_reducible refine jn7_i ?_ | with_reducible refine jn8_i ?_ | with_reducible refine jn9_i ?_ | with_reducible refine jn10_i ?_ | with_reducible refine jn11_i ?_ | with_reducible refine jn12_i ?_ | with_reducible refine jn13_i ?_ | with_reducible refine nlp4_i (fun _ _ _ _ => True) (fun _ _ _ _ => 0) (fun _ _ _ _ _ _ _ => ?_) trivial)); (all_goals exact h _ _ _ _ _ _ _ _ (by omega) (by omega) (by omega) (by omega)))
          | inr a5 =>
            rw [e5, ob_r] at h
            have c5 := pWord_r c4.2.2.2.2 e5
            intro w5 we5
            refine jn5_i (cB_t (Int.le_refl 0) (sm_num hn ⟨by omega, c5.2⟩ ⟨by omega, by omega⟩ ?_))
            cases e6 : pNum F n a5 0 99 with
            | inl z =>
              rw [e6, ob_l] at h
              have hx : 1 ≤ z.1 := (pNum_p z e6).1
              intro a6 nb6 na6 _ _ _ _
              ((repeat' (first | with_reducible refine cB_f (by omega) ?_ | with_reducible refine wL_i ?_ | with_reducible refine cB_i (fun _ => ?_) (fun _ => ?_) | with_reducible refine jn0_i ?_ | with_reducible refine jn1_i ?_ | with_reducible refine jn2_i ?_ | with_reducible refine jn3_i ?_ | with_reducible refine jn4_i ?_ | with_reducible refine jn5_i ?_ | with_reducible refine jn6_i ?_ | with_reducible refine jn7_i ?_ | with_reducible refine jn8_i ?_ | with_reducible refine jn9_i ?_ | with_reducible refine jn10_i ?_ | with_reducible refine jn11_i ?_ | with_reducible refine jn12_i ?_ | with_reducible refine jn13_i ?_ | with_reducible refine nlp4_i (fun _ _ _ _ => True) (fun _ _ _ _ => 0) (fun _ _ _ _ _ _ _ => ?_) trivial)); (all_goals exact h _ _ _ _ _ _ _ _ (by omega) (by omega) (by omega) (by omega)))
            | inr z =>
              rw [e6, ob_r] at h
              have c6 := pNum_r c5.2 e6
              refine nlp4_i (fun i rp' rk' rw' => 0 ≤ i ∧ i ≤ x.1 ∧ rp' = rp + i ∧ (∀ q, rk' q = if rp ≤ q ∧ q < rp + i then y.1 else rk1 q) ∧ (∀ q, rw' q = if rp ≤ q ∧ q < rp + i then z.1 + (q - rp) else rw1 q)) (fun i _ _ _ => (x.1 - i).toNat) ?_ ⟨by omega, by omega, by omega, fun q => by rw [if_neg (by omega)], fun q => by rw [if_neg (by omega)]⟩
              intro i rp1 hk1 hw1 hi self hself
              obtain ⟨i1, i2, i3, i4, i5⟩ := hi
              subst i3
              refine cB_i (fun _ => ?_) (fun _ => cB_t rfl ?_)
              · have e : i = x.1 := by omega
                subst e
                refine h _ _ _ _ _ _ (by omega) (by omega) (fun q q0 q1 => ?_)
                dsimp only at q1 ⊢
                rw [i4 q, i5 q]
                by_cases c : rp ≤ q ∧ q < rp + x.1
                · rw [if_pos c, if_pos c, if_pos c, if_pos c]; exact ⟨rfl, rfl⟩
                · rw [if_neg c, if_neg c, if_neg c, if_neg c]; exact hk q q0 (by omega)
              · refine wO_i (by simp only [inb]; omega) (wO_i (by simp only [iR]; omega) (wO_i (by simp only [inb]; omega) (wO_i (by simp only [iR]; omega) (wO_i (by simp only [iR]; omega) (hself _ _ _ _ ⟨by omega, by omega, by omega, fun q => ?_, fun q => ?_⟩ (by omega))))))
                · by_cases e : q = rp + i
                  · rw [e, ups_s, if_pos (by omega)]
                  · rw [ups_n e, i4 q]
                    by_cases c : rp ≤ q ∧ q < rp + i
                    · rw [if_pos c, if_pos (by omega)]
                    · rw [if_neg c, if_neg (by omega)]
                · by_cases e : q = rp + i
                  · rw [e, ups_s, if_pos (by omega)]; omega
                  · rw [ups_n e, i5 q]
                    by_cases c : rp ≤ q ∧ q < rp + i
                    · rw [if_pos c, if_pos (by omega)]
                    · rw [if_neg c, if_neg (by omega)]
    · rw [if_neg e2, ob_l] at h
      refine cB_f e2 (sp_fails ?_)
      ((repeat' (first | with_reducible refine cB_f (by omega) ?_ | with_reducible refine wL_i ?_ | with_reducible refine cB_i (fun _ => ?_) (fun _ => ?_) | with_reducible refine jn0_i ?_ | with_reducible refine jn1_i ?_ | with_reducible refine jn2_i ?_ | with_reducible refine jn3_i ?_ | with_reducible refine jn4_i ?_ | with_reducible refine jn5_i ?_ | with_reducible refine jn6_i ?_ | with_reducible refine jn7_i ?_ | with_reducible refine jn8_i ?_ | with_reducible refine jn9_i ?_ | with_reducible refine jn10_i ?_ | with_reducible refine jn11_i ?_ | with_reducible refine jn12_i ?_ | with_reducible refine jn13_i ?_ | with_reducible refine nlp4_i (fun _ _ _ _ => True) (fun _ _ _ _ => 0) (fun _ _ _ _ _ _ _ => ?_) trivial)); (all_goals exact h _ _ _ _ _ _ _ _ (by omega) (by omega) (by omega) (by omega)))
