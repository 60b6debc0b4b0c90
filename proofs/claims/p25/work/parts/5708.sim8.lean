/-! IN STEP 8: the model's other clauses, its whole text -/
def mT (ts ss : Int) (t : Int → Bool) : Prop := (∀ j, 0 ≤ j → j < 4 → bit ss j = t j) ∧ (∀ c, 2 ≤ c → c < 5 → bit ts c = t (c + 2))
theorem sm_oStep {n p a nb na all k s : Int} {F ro : Int → Int} {K : Int → Int → Int → Int → Int → Int → Int → (Int → Int) → Prop} (hn : 0 ≤ n ∧ n ≤ 240) (ha : 0 ≤ a ∧ a ≤ n) (hb : 0 ≤ nb ∧ nb ≤ 100009) (hs : 0 ≤ s ∧ s ≤ 3) (hk : 0 ≤ k ∧ k < 3) (hall : 0 ≤ all ∧ all ≤ 100009 * k) (g1 : ∀ x, pNum F n a 0 100 = .inl x → ∀ a' nb' na', 0 ≤ a' → a' ≤ n → 0 ≤ nb' → nb' ≤ 100009 → K x.1 (all + nb') (k + 1) x.2 a' nb' na' (ups ro (3 * s + k) nb')) (g2 : ∀ v, pNum F n a 0 100 = .inr v → 0 ≤ v.1 → v.1 ≤ 100 → 0 ≤ v.2.2 → v.2.2 ≤ n → K 0 (all + v.1) (k + 1) p v.2.2 v.1 v.2.1 (ups ro (3 * s + k) v.1)) : nf_M_takeNumber n p a nb na F 0 100 fun r27 z23 z24 z25 z26 =>
              wO (iR (3 * s)) (3 * s) fun v28 =>
              wO (iR (v28 + k)) (v28 + k) fun v29 =>
              wO (inb v29 12) (ups ro v29 z25) fun f30 =>
              wO (iR (all + z25)) (all + z25) fun v31 =>
              wO (iR (k + 1)) (k + 1) fun v32 =>
              K r27 v31 v32 z23 z24 z25 z26 f30 := by
  refine sm_num hn ha hb ?_
  cases hw : pNum F n a 0 100 with
  | inl x =>
    intro a' nb' na' a0 a1 n0 n1
    exact wO_i (by simp only [iR]; omega) (wO_i (by simp only [iR]; omega) (wO_i (by simp only [inb]; omega) (wO_i (by simp only [iR]; omega) (wO_i (by simp only [iR]; omega) (g1 x hw a' nb' na' a0 a1 n0 n1)))))
  | inr v =>
    have cv := pNum_r ha.2 hw
    exact wO_i (by simp only [iR]; omega) (wO_i (by simp only [iR]; omega) (wO_i (by simp only [inb]; omega) (wO_i (by simp only [iR]; omega) (wO_i (by simp only [iR]; omega) (g2 v hw cv.1 cv.2.1 (by omega) cv.2.2.2.2)))))
theorem sm_odds {n p a nb na ss : Int} {t : Int → Bool} {F ro ro1 : Int → Int} {Q : Int → Int → Int → Int → Int → Int → (Int → Int) → Prop} (hn : 0 ≤ n ∧ n ≤ 240) (ha : 0 ≤ a ∧ a ≤ n) (hb : 0 ≤ nb ∧ nb ≤ 100009) (hs : ∀ j, 0 ≤ j → j < 4 → bit ss j = t j) (hk : ∀ q, 0 ≤ q → q < 12 → ro1 q = ro q) (h : match pOddsM F n a t ro with
    | .inl x => ∀ a' nb' na' ss' ro', 0 ≤ a' → a' ≤ n → 0 ≤ nb' → nb' ≤ 100009 → Q x.1 x.2 a' nb' na' ss' ro'
    | .inr s => ∀ nb' na' ss' ro', 0 ≤ nb' → nb' ≤ 100009 → (∀ j, 0 ≤ j → j < 4 → bit ss' j = s.2.1 j) → (∀ c, 4 ≤ c → s.2.1 c = t c) → (∀ q, 0 ≤ q → q < 12 → ro' q = s.2.2 q) → Q 0 p s.1 nb' na' ss' ro') : nf_M_takeOdds n p a nb na ss F ro1 Q := by
  unfold nf_M_takeOdds
  simp only [ci_m1, ci_m10, ci_m1001, ci_m1002, ci_m1003, ci_m1004, ci_0, ci_1, ci_10, ci_100, ci_1000, ci_10000, ci_101, ci_103, ci_104, ci_105, ci_107, ci_108, ci_110, ci_111, ci_114, ci_115, ci_116, ci_118, ci_119, ci_12, ci_122, ci_1431655765, ci_15, ci_16, ci_2, ci_20, ci_23, ci_24, ci_240, ci_252645135, ci_255, ci_256, ci_3, ci_32, ci_4, ci_420, ci_48, ci_5, ci_5040, ci_57, ci_59, ci_6, ci_60, ci_63, ci_64, ci_7, ci_70, ci_8, ci_858993459, ci_9, ci_900, ci_97, ci_99, ci_999, ci_9999, cl_0, cl_1, cl_10, cl_1000000000000, cl_122, cl_2, cl_2000000000000, cl_23, cl_255, cl_27, cl_3, cl_4, cl_48, cl_57, cl_6, cl_8, cl_96, cl_97, cl_99, cl_999, cl_9999]
  unfold pOddsM at h
  refine sm_num hn ha hb ?_
  cases e1 : pNum F n a 0 3 with
  | inl x =>
    rw [e1, ob_l] at h
    have hx : 1 ≤ x.1 := (pNum_p x e1).1
    intro a1 nb1 na1 _ _ _ _
    refine jn2_i (cB_f (by omega) ?_)
    refine nlp8_i (fun f _ _ p' a' nb' _ _ => f = x.1 ∧ p' = x.2 ∧ 0 ≤ a' ∧ a' ≤ n ∧ 0 ≤ nb' ∧ nb' ≤ 100009) (fun _ _ _ _ _ _ _ _ => 0) ?_ ⟨rfl, rfl, by omega, by omega, by omega, by omega⟩
    intro f all k p3 a3 nb3 na3 ro3 hi self _
    obtain ⟨i1, i2, i3, i4, i5, i6⟩ := hi
    subst i1 i2
    ((repeat' (first | with_reducible refine cB_f (by omega) ?_ | with_reducible refine wL_i ?_ | with_reducible refine cB_i (fun _ => ?_) (fun _ => ?_) | with_reducible refine jn0_i ?_ | with_reducible refine jn1_i ?_ | with_reducible refine jn2_i ?_ | with_reducible refine jn3_i ?_ | with_reducible refine jn4_i ?_ | with_reducible refine jn5_i ?_ | with_reducible refine jn6_i ?_ | with_reducible refine jn7_i ?_ | with_reducible refine jn8_i ?_ | with_reducible refine jn9_i ?_ | with_reducible refine jn10_i ?_ | with_reducible refine jn11_i ?_ | with_reducible refine jn12_i ?_ | with_reducible refine jn13_i ?_ | with_reducible refine nlp4_i (fun _ _ _ _ => True) (fun _ _ _ _ => 0) (fun _ _ _ _ _ _ _ => ?_) trivial)); (all_goals exact h _ _ _ _ _ (by omega) (by omega) (by omega) (by omega)))
  | inr s =>
    rw [e1, ob_r] at h
    have c1 := pNum_r ha.2 e1
    have key : ∀ f1 p1, (f1 = 0 ∧ p1 = p ∧ t s.1 = false) ∨ (f1 = 3 ∧ p1 = s.2.1 ∧ t s.1 = true) → nlp8 (fun self17 (l1_9 : Int) (l3_10 : Int) (l4_11 : Int) (z12 : Int) (z13 : Int) (z14 : Int) (z15 : Int) (z16 : (Int → Int)) =>
          jn0 (
              cB (l1_9 ≤ 0)
                (wL (ishl 1 s.1) fun v19 =>
                wL (ior ss v19) fun v20 =>
                cB (l3_10 = 100)
                  (Q 0 z12 z13 z14 z15 v20 z16)
                  (nf_M_fails z12 5 z15 fun r22 z21 =>
                  Q r22 z21 z13 z14 z15 v20 z16))
                (Q l1_9 z12 z13 z14 z15 ss z16)) fun j18 =>
          cB (3 ≤ l4_11)
            (j18 )
            (cB (l1_9 = 0)
              (nf_M_takeNumber n z12 z13 z14 z15 F 0 100 fun r27 z23 z24 z25 z26 =>
              wO (iR (3 * s.1)) (3 * s.1) fun v28 =>
              wO (iR (v28 + l4_11)) (v28 + l4_11) fun v29 =>
              wO (inb v29 12) (ups z16 v29 z25) fun f30 =>
              wO (iR (l3_10 + z25)) (l3_10 + z25) fun v31 =>
              wO (iR (l4_11 + 1)) (l4_11 + 1) fun v32 =>
              self17 r27 v31 v32 z23 z24 z25 z26 f30)
              (j18 ))) f1 0 0 p1 s.2.2 s.1 s.2.1 ro1 := by
      intro f1 p1 hf1
      generalize hR : (ob (if t s.1 = true then .inl (3, s.2.1) else .inr s.2.2) fun a2 =>
        ob (pNum F n a2 0 100) fun x => ob (pNum F n x.2.2 0 100) fun y => ob (pNum F n y.2.2 0 100) fun z => ob (if x.1 + y.1 + z.1 = 100 then .inr z.2.2 else .inl (5, z.2.1)) fun a3 =>
        .inr (a3, tl t s.1, ups (ups (ups ro (3 * s.1) x.1) (3 * s.1 + 1) y.1) (3 * s.1 + 2) z.1) : Sum (Int × Int) (Int × (Int → Bool) × (Int → Int))) = R at h
      refine nlp8_i (fun f all k p' a' nb' na' ro' => 0 ≤ k ∧ k ≤ 3 ∧ 0 ≤ a' ∧ a' ≤ n ∧ 0 ≤ nb' ∧ nb' ≤ 100009 ∧ 0 ≤ all ∧ all ≤ 100009 * k ∧ ((1 ≤ f ∧ f ≤ 5 ∧ R = .inl (f, p')) ∨ (f = 0 ∧ p' = p ∧ t s.1 = false ∧ ((k = 0 ∧ a' = s.2.2 ∧ all = 0 ∧ ro' = ro1) ∨ (k = 1 ∧ ∃ x, pNum F n s.2.2 0 100 = .inr x ∧ a' = x.2.2 ∧ all = x.1 ∧ ro' = ups ro1 (3 * s.1) x.1) ∨ (k = 2 ∧ ∃ x y, pNum F n s.2.2 0 100 = .inr x ∧ pNum F n x.2.2 0 100 = .inr y ∧ a' = y.2.2 ∧ all = x.1 + y.1 ∧ ro' = ups (ups ro1 (3 * s.1) x.1) (3 * s.1 + 1) y.1) ∨ (k = 3 ∧ ∃ x y z, pNum F n s.2.2 0 100 = .inr x ∧ pNum F n x.2.2 0 100 = .inr y ∧ pNum F n y.2.2 0 100 = .inr z ∧ a' = z.2.2 ∧ all = x.1 + y.1 + z.1 ∧ na' = z.2.1 ∧ ro' = ups (ups (ups ro1 (3 * s.1) x.1) (3 * s.1 + 1) y.1) (3 * s.1 + 2) z.1))))) (fun _ _ k _ _ _ _ _ => (3 - k).toNat) ?_ ⟨by omega, by omega, by omega, by omega, by omega, by omega, by omega, by omega, ?_⟩
      · intro f all k p3 a3 nb3 na3 ro3 hi self hself
        obtain ⟨i1, i2, i3, i4, i5, i6, i7, i8, i9⟩ := hi
        refine jn0_s (k = 3 ∨ f ≠ 0) (fun hx => ?_) ?_
        · rcases i9 with ⟨b1, b2, b3⟩ | ⟨b1, b2, b3, b4⟩
          · rw [b3] at h
            exact cB_f (by omega) (h _ _ _ _ _ i3 i4 i5 i6)
          · subst b1 b2
            rcases b4 with ⟨d1, _⟩ | ⟨d1, _⟩ | ⟨d1, _⟩ | ⟨d1, x, y, z, d2, d3, d4, d5, d6, d7, d8⟩
            · omega
            · omega
            · omega
            · rw [if_neg (by rw [b3]; decide), ob_r, d2, ob_r, d3, ob_r, d4, ob_r] at hR
              refine cB_t (Int.le_refl 0) (wL_i (wL_i ?_))
              by_cases e : x.1 + y.1 + z.1 = 100
              · rw [if_pos e, ob_r] at hR
                rw [← hR] at h
                refine cB_t (by omega) ?_
                rw [d5]
                refine h _ _ _ _ i5 i6 (fun j j0 j1 => ?_) (fun c hc => ?_) (fun q q0 q1 => ?_)
                · show bit (ior ss (ishl 1 s.1)) j = tl t s.1 j
                  rw [bt_ior, bt_shl c1.1 (by omega) j0 (by omega), hs j j0 j1]
                  unfold tl
                  by_cases ej : j = s.1
                  · subst ej; simp
                  · rw [if_neg ej, decide_eq_false (fun q => ej q.symm), Bool.or_false]
                · show tl t s.1 c = t c
                  exact if_neg (by omega)
                · show ro3 q = ups (ups (ups ro (3 * s.1) x.1) (3 * s.1 + 1) y.1) (3 * s.1 + 2) z.1 q
                  rw [d8]
                  by_cases g2 : q = 3 * s.1 + 2
                  · rw [g2, ups_s, ups_s]
                  · rw [ups_n g2, ups_n g2]
                    by_cases g1 : q = 3 * s.1 + 1
                    · rw [g1, ups_s, ups_s]
                    · rw [ups_n g1, ups_n g1]
                      by_cases g0 : q = 3 * s.1
                      · rw [g0, ups_s, ups_s]
                      · rw [ups_n g0, ups_n g0]; exact hk q q0 q1
              · rw [if_neg e, ob_l] at hR
                rw [← hR] at h
                refine cB_f (by omega) (sp_fails ?_)
                rw [d7]
                exact h _ _ _ _ _ i3 i4 i5 i6
        · refine cB_i (fun _ => Or.inl (by omega)) (fun hk3 => cB_i (fun e => ?_) (fun e => Or.inr e))
          rcases i9 with ⟨b1, b2, b3⟩ | ⟨b1, b2, b3, b4⟩
          · omega
          · subst b1 b2
            have nR : ¬ t s.1 = true := by rw [b3]; decide
            rcases b4 with ⟨d1, d2, d3, d4⟩ | ⟨d1, x, d2, d3, d4, d5⟩ | ⟨d1, x, y, d2, d2', d3, d4, d5⟩ | ⟨d1, _⟩
            · subst d1 d2 d3 d4
              refine sm_oStep hn ⟨i3, i4⟩ ⟨i5, i6⟩ ⟨c1.1, c1.2.1⟩ ⟨by omega, by omega⟩ ⟨by omega, by omega⟩ (fun w hw a' nb' na' a0 a1 n0 n1 => hself _ _ _ _ _ _ _ _ ⟨by omega, by omega, a0, a1, n0, n1, by omega, by omega, Or.inl ⟨(pNum_p w hw).1, (pNum_p w hw).2, ?_⟩⟩ (by omega)) (fun v hw v0 v1 v2 v3 => hself _ _ _ _ _ _ _ _ ⟨by omega, by omega, v2, v3, by omega, by omega, by omega, by omega, Or.inr ⟨rfl, rfl, b3, Or.inr (Or.inl ⟨by omega, v, hw, rfl, by omega, by rw [Int.add_zero]⟩)⟩⟩ (by omega))
              rw [if_neg nR, ob_r, hw, ob_l] at hR
              exact hR.symm
            · subst d1 d3 d4 d5
              refine sm_oStep hn ⟨i3, i4⟩ ⟨i5, i6⟩ ⟨c1.1, c1.2.1⟩ ⟨by omega, by omega⟩ ⟨by omega, by omega⟩ (fun w hw a' nb' na' a0 a1 n0 n1 => hself _ _ _ _ _ _ _ _ ⟨by omega, by omega, a0, a1, n0, n1, by omega, by omega, Or.inl ⟨(pNum_p w hw).1, (pNum_p w hw).2, ?_⟩⟩ (by omega)) (fun v hw v0 v1 v2 v3 => hself _ _ _ _ _ _ _ _ ⟨by omega, by omega, v2, v3, by omega, by omega, by omega, by omega, Or.inr ⟨rfl, rfl, b3, Or.inr (Or.inr (Or.inl ⟨by omega, x, v, d2, hw, rfl, rfl, rfl⟩))⟩⟩ (by omega))
              rw [if_neg nR, ob_r, d2, ob_r, hw, ob_l] at hR
              exact hR.symm
            · subst d1 d3 d4 d5
              refine sm_oStep hn ⟨i3, i4⟩ ⟨i5, i6⟩ ⟨c1.1, c1.2.1⟩ ⟨by omega, by omega⟩ ⟨by omega, by omega⟩ (fun w hw a' nb' na' a0 a1 n0 n1 => hself _ _ _ _ _ _ _ _ ⟨by omega, by omega, a0, a1, n0, n1, by omega, by omega, Or.inl ⟨(pNum_p w hw).1, (pNum_p w hw).2, ?_⟩⟩ (by omega)) (fun v hw v0 v1 v2 v3 => hself _ _ _ _ _ _ _ _ ⟨by omega, by omega, v2, v3, by omega, by omega, by omega, by omega, Or.inr ⟨rfl, rfl, b3, Or.inr (Or.inr (Or.inr ⟨by omega, x, y, v, d2, d2', hw, rfl, rfl, rfl, rfl⟩))⟩⟩ (by omega))
              rw [if_neg nR, ob_r, d2, ob_r, d2', ob_r, hw, ob_l] at hR
              exact hR.symm
            · omega
      · rcases hf1 with ⟨g1, g2, g3⟩ | ⟨g1, g2, g3⟩
        · exact Or.inr ⟨g1, g2, g3, Or.inl ⟨rfl, rfl, rfl, rfl⟩⟩
        · rw [if_pos g3, ob_l] at hR
          exact Or.inl ⟨by omega, by omega, by rw [← hR, g1, g2]⟩
    refine jn2_i (cB_t rfl (wL_i (wL_i (cB_i (fun e => sp_fails (key _ _ (Or.inr ⟨rfl, rfl, ?_⟩))) (fun e => key _ _ (Or.inl ⟨rfl, rfl, ?_⟩))))))
    · rw [← hs s.1 c1.1 (by omega)]; exact (bt1 c1.1 (by omega)).mp e
    · rw [← hs s.1 c1.1 (by omega)]
      cases hb : bit ss s.1
      · rfl
      · exact absurd ((bt1 c1.1 (by omega)).mpr hb) e
theorem sm_wts {n p a nb na : Int} {F rs rs1 : Int → Int} {Q : Int → Int → Int → Int → Int → (Int → Int) → Prop} (hn : 0 ≤ n ∧ n ≤ 240) (ha : 0 ≤ a ∧ a ≤ n) (hb : 0 ≤ nb ∧ nb ≤ 100009) (hk : ∀ q, 0 ≤ q → q < 5 → rs1 q = rs q) (h : match pWtsM F n a rs with
    | .inl x => ∀ a' nb' na' rs', 0 ≤ a' → a' ≤ n → 0 ≤ nb' → nb' ≤ 100009 → Q x.1 x.2 a' nb' na' rs'
    | .inr s => ∀ nb' na' rs', 0 ≤ nb' → nb' ≤ 100009 → (∀ q, 0 ≤ q → q < 5 → rs' q = s.2 q) → Q 0 p s.1 nb' na' rs') : nf_M_takeSingles n p a nb na F rs1 2 Q := by
  unfold nf_M_takeSingles
  simp only [ci_m1, ci_m10, ci_m1001, ci_m1002, ci_m1003, ci_m1004, ci_0, ci_1, ci_10, ci_100, ci_1000, ci_10000, ci_101, ci_103, ci_104, ci_105, ci_107, ci_108, ci_110, ci_111, ci_114, ci_115, ci_116, ci_118, ci_119, ci_12, ci_122, ci_1431655765, ci_15, ci_16, ci_2, ci_20, ci_23, ci_24, ci_240, ci_252645135, ci_255, ci_256, ci_3, ci_32, ci_4, ci_420, ci_48, ci_5, ci_5040, ci_57, ci_59, ci_6, ci_60, ci_63, ci_64, ci_7, ci_70, ci_8, ci_858993459, ci_9, ci_900, ci_97, ci_99, ci_999, ci_9999, cl_0, cl_1, cl_10, cl_1000000000000, cl_122, cl_2, cl_2000000000000, cl_23, cl_255, cl_27, cl_3, cl_4, cl_48, cl_57, cl_6, cl_8, cl_96, cl_97, cl_99, cl_999, cl_9999]
  refine jn1_i (cB_t trivial (jn1_i (cB_t trivial ?_)))
  generalize hR : pWtsM F n a rs = R at h
  unfold pWtsM at hR
  refine nlp7_i (fun f k p' a' nb' na' rs' => 0 ≤ k ∧ k ≤ 3 ∧ 0 ≤ a' ∧ a' ≤ n ∧ 0 ≤ nb' ∧ nb' ≤ 100009 ∧ ((1 ≤ f ∧ f ≤ 5 ∧ R = .inl (f, p')) ∨ (f = 0 ∧ p' = p ∧ ((k = 0 ∧ a' = a ∧ rs' = rs1) ∨ (k = 1 ∧ ∃ x, pNum F n a 0 9 = .inr x ∧ a' = x.2.2 ∧ rs' = ups rs1 0 x.1) ∨ (k = 2 ∧ ∃ x y, pNum F n a 0 9 = .inr x ∧ pNum F n x.2.2 0 9 = .inr y ∧ a' = y.2.2 ∧ rs' = ups (ups rs1 0 x.1) 1 y.1) ∨ (k = 3 ∧ ∃ x y z, pNum F n a 0 9 = .inr x ∧ pNum F n x.2.2 0 9 = .inr y ∧ pNum F n y.2.2 0 9 = .inr z ∧ a' = z.2.2 ∧ rs' = ups (ups (ups rs1 0 x.1) 1 y.1) 2 z.1))))) (fun _ k _ _ _ _ _ => (3 - k).toNat) ?_ ⟨by omega, by omega, by omega, by omega, by omega, by omega, Or.inr ⟨rfl, rfl, Or.inl ⟨rfl, rfl, rfl⟩⟩⟩
  intro f k p3 a3 nb3 na3 rs3 hi self hself
  obtain ⟨i1, i2, i3, i4, i5, i6, i9⟩ := hi
  have fin : (k = 3 ∨ f ≠ 0) → Q f p3 a3 nb3 na3 rs3 := fun hx => by
    rcases i9 with ⟨b1, b2, b3⟩ | ⟨b1, b2, b4⟩
    · rw [b3] at h
      exact h _ _ _ _ i3 i4 i5 i6
    · subst b1 b2
      rcases b4 with ⟨d1, _⟩ | ⟨d1, _⟩ | ⟨d1, _⟩ | ⟨d1, x, y, z, d2, d3, d4, d5, d8⟩
      · omega
      · omega
      · omega
      · rw [d2, ob_r, d3, ob_r, d4, ob_r] at hR
        rw [← hR] at h
        rw [d5]
        refine h _ _ _ i5 i6 (fun q q0 q1 => ?_)
        show rs3 q = ups (ups (ups rs 0 x.1) 1 y.1) 2 z.1 q
        rw [d8]
        by_cases g2 : q = 2
        · rw [g2, ups_s, ups_s]
        · rw [ups_n g2, ups_n g2]
          by_cases g1 : q = 1
          · rw [g1, ups_s, ups_s]
          · rw [ups_n g1, ups_n g1]
            by_cases g0 : q = 0
            · rw [g0, ups_s, ups_s]
            · rw [ups_n g0, ups_n g0]; exact hk q q0 q1
  refine cB_i (fun _ => fin (Or.inl (by omega))) (fun hk3 => cB_i (fun e => jn1_i (cB_t trivial ?_)) (fun e => fin (Or.inr e)))
  rcases i9 with ⟨b1, b2, b3⟩ | ⟨b1, b2, b4⟩
  · omega
  · subst b1 b2
    refine sm_num hn ⟨i3, i4⟩ ⟨i5, i6⟩ ?_
    cases hw : pNum F n a3 0 9 with
    | inl w =>
      intro a' nb' na' a0 a1 n0 n1
      refine wO_i (by simp only [inb]; omega) (wO_i (by simp only [iR]; omega) (hself _ _ _ _ _ _ _ ⟨by omega, by omega, a0, a1, n0, n1, Or.inl ⟨(pNum_p w hw).1, (pNum_p w hw).2, ?_⟩⟩ (by omega)))
      rcases b4 with ⟨d1, d2, _⟩ | ⟨d1, x, d2, d3, _⟩ | ⟨d1, x, y, d2, d2', d3, _⟩ | ⟨d1, _⟩
      · rw [d2] at hw
        rw [hw, ob_l] at hR; exact hR.symm
      · rw [d3] at hw
        rw [d2, ob_r, hw, ob_l] at hR; exact hR.symm
      · rw [d3] at hw
        rw [d2, ob_r, d2', ob_r, hw, ob_l] at hR; exact hR.symm
      · omega
    | inr v =>
      have cv := pNum_r i4 hw
      refine wO_i (by simp only [inb]; omega) (wO_i (by simp only [iR]; omega) (hself _ _ _ _ _ _ _ ⟨by omega, by omega, by omega, cv.2.2.2.2, by omega, by omega, Or.inr ⟨rfl, rfl, ?_⟩⟩ (by omega)))
      rcases b4 with ⟨d1, d2, d4⟩ | ⟨d1, x, d2, d3, d4⟩ | ⟨d1, x, y, d2, d2', d3, d4⟩ | ⟨d1, _⟩
      · rw [d2] at hw
        exact Or.inr (Or.inl ⟨by omega, v, hw, rfl, by rw [d4, d1]⟩)
      · rw [d3] at hw
        exact Or.inr (Or.inr (Or.inl ⟨by omega, x, v, d2, hw, rfl, by rw [d4, d1]⟩))
      · rw [d3] at hw
        exact Or.inr (Or.inr (Or.inr ⟨by omega, x, y, v, d2, d2', hw, rfl, by rw [d4, d1]⟩))
      · omega
theorem sm_one {n p a nb na : Int} {c : Nat} {F rs rs1 : Int → Int} {Q : Int → Int → Int → Int → Int → (Int → Int) → Prop} (hc : 3 ≤ c ∧ c ≤ 4) (hn : 0 ≤ n ∧ n ≤ 240) (ha : 0 ≤ a ∧ a ≤ n) (hb : 0 ≤ nb ∧ nb ≤ 100009) (hk : ∀ q, 0 ≤ q → q < 5 → rs1 q = rs q) (h : match pOneM F n a c rs with
    | .inl x => ∀ a' nb' na' rs', 0 ≤ a' → a' ≤ n → 0 ≤ nb' → nb' ≤ 100009 → Q x.1 x.2 a' nb' na' rs'
    | .inr s => ∀ nb' na' rs', 0 ≤ nb' → nb' ≤ 100009 → (∀ q, 0 ≤ q → q < 5 → rs' q = s.2 q) → Q 0 p s.1 nb' na' rs') : nf_M_takeSingles n p a nb na F rs1 c Q := by
  unfold nf_M_takeSingles
  simp only [ci_m1, ci_m10, ci_m1001, ci_m1002, ci_m1003, ci_m1004, ci_0, ci_1, ci_10, ci_100, ci_1000, ci_10000, ci_101, ci_103, ci_104, ci_105, ci_107, ci_108, ci_110, ci_111, ci_114, ci_115, ci_116, ci_118, ci_119, ci_12, ci_122, ci_1431655765, ci_15, ci_16, ci_2, ci_20, ci_23, ci_24, ci_240, ci_252645135, ci_255, ci_256, ci_3, ci_32, ci_4, ci_420, ci_48, ci_5, ci_5040, ci_57, ci_59, ci_6, ci_60, ci_63, ci_64, ci_7, ci_70, ci_8, ci_858993459, ci_9, ci_900, ci_97, ci_99, ci_999, ci_9999, cl_0, cl_1, cl_10, cl_1000000000000, cl_122, cl_2, cl_2000000000000, cl_23, cl_255, cl_27, cl_3, cl_4, cl_48, cl_57, cl_6, cl_8, cl_96, cl_97, cl_99, cl_999, cl_9999]
  refine jn1_i (cB_f (by omega) (jn1_i (cB_f (by omega) ?_)))
  generalize hR : pOneM F n a c rs = R at h
  unfold pOneM at hR
  refine nlp7_i (fun f k p' a' nb' na' rs' => (c : Int) ≤ k ∧ k ≤ c + 1 ∧ 0 ≤ a' ∧ a' ≤ n ∧ 0 ≤ nb' ∧ nb' ≤ 100009 ∧ ((1 ≤ f ∧ f ≤ 5 ∧ R = .inl (f, p')) ∨ (f = 0 ∧ p' = p ∧ ((k = c ∧ a' = a ∧ rs' = rs1) ∨ (k = c + 1 ∧ ∃ x, pNum F n a 0 20 = .inr x ∧ a' = x.2.2 ∧ rs' = ups rs1 c x.1))))) (fun _ k _ _ _ _ _ => (c + 1 - k).toNat) ?_ ⟨by omega, by omega, by omega, by omega, by omega, by omega, Or.inr ⟨rfl, rfl, Or.inl ⟨rfl, rfl, rfl⟩⟩⟩
  intro f k p3 a3 nb3 na3 rs3 hi self hself
  obtain ⟨i1, i2, i3, i4, i5, i6, i9⟩ := hi
  have fin : (k = c + 1 ∨ f ≠ 0) → Q f p3 a3 nb3 na3 rs3 := fun hx => by
    rcases i9 with ⟨b1, b2, b3⟩ | ⟨b1, b2, b4⟩
    · rw [b3] at h
      exact h _ _ _ _ i3 i4 i5 i6
    · subst b1 b2
      rcases b4 with ⟨d1, _⟩ | ⟨d1, x, d2, d5, d8⟩
      · omega
      · rw [d2, ob_r] at hR
        rw [← hR] at h
        rw [d5]
        refine h _ _ _ i5 i6 (fun q q0 q1 => ?_)
        show rs3 q = ups rs c x.1 q
        rw [d8]
        by_cases g0 : q = c
        · rw [g0, ups_s, ups_s]
        · rw [ups_n g0, ups_n g0]; exact hk q q0 q1
  refine cB_i (fun _ => fin (Or.inl (by omega))) (fun hk3 => cB_i (fun e => jn1_i (cB_f (by omega) ?_)) (fun e => fin (Or.inr e)))
  rcases i9 with ⟨b1, b2, b3⟩ | ⟨b1, b2, b4⟩
  · omega
  · subst b1 b2
    refine sm_num hn ⟨i3, i4⟩ ⟨i5, i6⟩ ?_
    rcases b4 with ⟨d1, d2, d4⟩ | ⟨d1, _⟩
    · subst d2 d4
      cases hw : pNum F n a3 0 20 with
      | inl w =>
        intro a' nb' na' a0 a1 n0 n1
        rw [hw, ob_l] at hR
        exact wO_i (by simp only [inb]; omega) (wO_i (by simp only [iR]; omega) (hself _ _ _ _ _ _ _ ⟨by omega, by omega, a0, a1, n0, n1, Or.inl ⟨(pNum_p w hw).1, (pNum_p w hw).2, hR.symm⟩⟩ (by omega)))
      | inr v =>
        have cv := pNum_r i4 hw
        exact wO_i (by simp only [inb]; omega) (wO_i (by simp only [iR]; omega) (hself _ _ _ _ _ _ _ ⟨by omega, by omega, by omega, cv.2.2.2.2, by omega, by omega, Or.inr ⟨rfl, rfl, Or.inr ⟨by omega, v, hw, rfl, by rw [d1]⟩⟩⟩ (by omega)))
    · omega
