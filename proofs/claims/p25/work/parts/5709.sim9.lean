/-! IN STEP 9: the model reads a clause, the whole text -/
theorem sk_i {T : Int → Int} {n a : Int} (h : a ≤ n) : sk T n (sk T n a) = sk T n a := by
  have hs := sk_p (T := T) h
  exact sk_u (Int.le_refl _) hs.2.1 (by omega) hs.2.2.2
theorem pWord_t {T : Int → Int} {n a : Int} {si : Nat} (h : sk T n a = a) (hi : iw T n a si = true) : pWord T n a si = .inr (a + slenN si) := by
  unfold pWord
  rw [h, if_pos hi]
theorem sm_end {n p a : Int} {F : Int → Int} {A : Int → Prop} {B : Int → Int → Int → Prop} (hn : 0 ≤ n ∧ n ≤ 240) (ha : 0 ≤ a ∧ a ≤ n) (h : match pEnd F n a with
    | .inl x => ∀ a', 0 ≤ a' → a' ≤ n → B x.1 x.2 a'
    | .inr b => A b) : nf_M_here n a F fun r29 z28 => cB (r29 = 59) (wO (iR (z28 + 1)) (z28 + 1) fun v30 => A v30) (nf_M_fails p 1 z28 fun r32 z31 => B r32 z31 z28) := by
  have hs := sk_p (T := F) ha.2
  unfold pEnd at h
  refine sm_here hn ha (fun hlt => cB_i (fun e => wO_i (by simp only [iR]; omega) ?_) (fun e => sp_fails ?_)) (fun heq => cB_f (by decide) (sp_fails ?_))
  · rw [if_pos ⟨hlt, e⟩] at h; exact h
  · rw [if_neg (fun q => e q.2)] at h; exact h _ (by omega) hs.2.1
  · rw [if_neg (fun q => by omega)] at h; exact h _ (by omega) hs.2.1
theorem pRowM_r {T : Int → Int} {n a rp : Int} {rk rw : Int → Int} (hn : a ≤ n) : ∀ s, pRowM T n a rp rk rw = .inr s → a ≤ s.1 ∧ s.1 ≤ n := by
  unfold pRowM
  refine ob_q fun x e2 => ob_q fun a2 e3 => ob_q fun a3 e4 => ob_q fun y e5 => ob_q fun a4 e6 => ob_q fun z e7 => fun s e => ?_
  have c2 := pNum_r hn e2
  have g3 : a2 = x.2.2 := (pIf_r e3).2
  have c4 := pWord_r (show a2 ≤ n by omega) e4
  have c5 := pNum_r c4.2 e5
  have c6 := pWord_r c5.2.2.2.2 e6
  have c7 := pNum_r c6.2 e7
  cases e
  exact ⟨by show a ≤ z.2.2; omega, c7.2.2.2.2⟩
theorem pRowM_p {T : Int → Int} {n a rp : Int} {rk rw : Int → Int} : ∀ x, pRowM T n a rp rk rw = .inl x → pP x := by
  unfold pRowM
  exact ob_p pNum_p fun _ _ => ob_p (pIf_p (by omega)) fun _ _ => ob_p pWord_p fun _ _ => ob_p pNum_p fun _ _ => ob_p pWord_p fun _ _ => ob_p pNum_p fun _ _ => fun _ e => by cases e
theorem pOddsM_r {T : Int → Int} {n a : Int} {t : Int → Bool} {ro : Int → Int} (hn : a ≤ n) : ∀ s, pOddsM T n a t ro = .inr s → a ≤ s.1 ∧ s.1 ≤ n := by
  unfold pOddsM
  refine ob_q fun s e2 => ob_q fun a2 e3 => ob_q fun x e4 => ob_q fun y e5 => ob_q fun z e6 => ob_q fun a3 e7 => fun s' e => ?_
  have c2 := pNum_r hn e2
  have g3 : a2 = s.2.2 := (pIf_m e3).2
  have c4 := pNum_r (show a2 ≤ n by omega) e4
  have c5 := pNum_r c4.2.2.2.2 e5
  have c6 := pNum_r c5.2.2.2.2 e6
  have g7 : a3 = z.2.2 := (pIf_r e7).2
  cases e
  exact ⟨by show a ≤ a3; omega, by show a3 ≤ n; omega⟩
theorem pOddsM_p {T : Int → Int} {n a : Int} {t : Int → Bool} {ro : Int → Int} : ∀ x, pOddsM T n a t ro = .inl x → pP x := by
  unfold pOddsM
  exact ob_p pNum_p fun _ _ => ob_p (pIf_n (by omega)) fun _ _ => ob_p pNum_p fun _ _ => ob_p pNum_p fun _ _ => ob_p pNum_p fun _ _ => ob_p (pIf_p (by omega)) fun _ _ => fun _ e => by cases e
theorem pWtsM_r {T : Int → Int} {n a : Int} {rs : Int → Int} (hn : a ≤ n) : ∀ s, pWtsM T n a rs = .inr s → a ≤ s.1 ∧ s.1 ≤ n := by
  unfold pWtsM
  refine ob_q fun x e4 => ob_q fun y e5 => ob_q fun z e6 => fun s' e => ?_
  have c4 := pNum_r hn e4
  have c5 := pNum_r c4.2.2.2.2 e5
  have c6 := pNum_r c5.2.2.2.2 e6
  cases e
  exact ⟨by show a ≤ z.2.2; omega, c6.2.2.2.2⟩
theorem pWtsM_p {T : Int → Int} {n a : Int} {rs : Int → Int} : ∀ x, pWtsM T n a rs = .inl x → pP x := by
  unfold pWtsM
  exact ob_p pNum_p fun _ _ => ob_p pNum_p fun _ _ => ob_p pNum_p fun _ _ => fun _ e => by cases e
theorem pOneM_r {T : Int → Int} {n a : Int} {si : Nat} {rs : Int → Int} (hn : a ≤ n) : ∀ s, pOneM T n a si rs = .inr s → a ≤ s.1 ∧ s.1 ≤ n := by
  unfold pOneM
  refine ob_q fun x e4 => fun s' e => ?_
  have c4 := pNum_r hn e4
  cases e
  exact ⟨by show a ≤ x.2.2; omega, c4.2.2.2.2⟩
theorem pOneM_p {T : Int → Int} {n a : Int} {si : Nat} {rs : Int → Int} : ∀ x, pOneM T n a si rs = .inl x → pP x := by
  unfold pOneM
  exact ob_p pNum_p fun _ _ => fun _ e => by cases e
def mR (rk1 rw1 ro1 rs1 : Int → Int) (rp : Int) (rk rw ro rs : Int → Int) : Prop := (∀ q, 0 ≤ q → q < rp → rk1 q = rk q ∧ rw1 q = rw q) ∧ (∀ q, 0 ≤ q → q < 12 → ro1 q = ro q) ∧ (∀ q, 0 ≤ q → q < 5 → rs1 q = rs q)
theorem bt_up {ts r c : Int} (h0 : 0 ≤ r) (h1 : r < 32) (h2 : 0 ≤ c) (h3 : c < 32) : bit (ior ts (ishl 1 r)) c = (bit ts c || decide (r = c)) := by
  rw [bt_ior, bt_shl h0 h1 h2 h3]
theorem sm_clause {n p a w we nb na rp ts ss : Int} {t : Int → Bool} {F rk rw ro rs rk1 rw1 ro1 rs1 : Int → Int} {Q : Int → Int → Int → Int → Int → Int → Int → Int → Int → Int → (Int → Int) → (Int → Int) → (Int → Int) → (Int → Int) → Prop} (hn : 0 ≤ n ∧ n ≤ 240) (ha : 0 ≤ a ∧ a ≤ n) (hsk : sk F n a = a) (hb : 0 ≤ nb ∧ nb ≤ 100009) (hp : 0 ≤ rp ∧ rp ≤ 24) (hT : mT ts ss t) (hR : mR rk1 rw1 ro1 rs1 rp rk rw ro rs) (h : match pClause F n a t rp rk rw ro rs with
    | .inl x => ∀ a' w' we' nb' na' rp' ts' ss' rk' rw' ro' rs', 0 ≤ a' → a' ≤ n → 0 ≤ nb' → nb' ≤ 100009 → Q x.1 x.2 a' w' we' nb' na' rp' ts' ss' rk' rw' ro' rs'
    | .inr s => ∀ w' we' nb' na' ts' ss' rk' rw' ro' rs', 0 ≤ nb' → nb' ≤ 100009 → mT ts' ss' s.2.1 → mR rk' rw' ro' rs' s.2.2.1 s.2.2.2.1 s.2.2.2.2.1 s.2.2.2.2.2.1 s.2.2.2.2.2.2 → Q 0 p s.1 w' we' nb' na' s.2.2.1 ts' ss' rk' rw' ro' rs') : nf_M_takeClause n p a w we nb na rp ts ss F rk1 rw1 ro1 rs1 Q := by
  unfold nf_M_takeClause
  simp only [ci_m1, ci_m10, ci_m1001, ci_m1002, ci_m1003, ci_m1004, ci_0, ci_1, ci_10, ci_100, ci_1000, ci_10000, ci_101, ci_103, ci_104, ci_105, ci_107, ci_108, ci_110, ci_111, ci_114, ci_115, ci_116, ci_118, ci_119, ci_12, ci_122, ci_1431655765, ci_15, ci_16, ci_2, ci_20, ci_23, ci_24, ci_240, ci_252645135, ci_255, ci_256, ci_3, ci_32, ci_4, ci_420, ci_48, ci_5, ci_5040, ci_57, ci_59, ci_6, ci_60, ci_63, ci_64, ci_7, ci_70, ci_8, ci_858993459, ci_9, ci_900, ci_97, ci_99, ci_999, ci_9999, cl_0, cl_1, cl_10, cl_1000000000000, cl_122, cl_2, cl_2000000000000, cl_23, cl_255, cl_27, cl_3, cl_4, cl_48, cl_57, cl_6, cl_8, cl_96, cl_97, cl_99, cl_999, cl_9999]
  obtain ⟨R1, R2, R3⟩ := hR
  obtain ⟨T1, T2⟩ := hT
  unfold pClause at h
  refine sm_word hn ha (fun w' we' hw z0 z1 => ?_)
  rw [hsk] at hw z0 ⊢
  have w0 := hw 0 (by decide)
  have w1 := hw 1 (by decide)
  have w2 := hw 2 (by decide)
  have w3 := hw 3 (by decide)
  have w4 := hw 4 (by decide)
  refine sm_clauseOf (fun e0 => ?_) (fun e0 e1 => ?_) (fun e0 e1 e2 => ?_) (fun e0 e1 e2 e3 => ?_) (fun e0 e1 e2 e3 e4 => ?_) (fun e0 e1 e2 e3 e4 => ?_)
  · have i0 := w0.1.mp e0
    have el := w0.2 i0
    rw [if_pos i0, pRow_e, pWord_t hsk i0] at h
    simp only [ob_r, ob_a] at h
    rw [← el] at h
    refine jn1_i (jn0_i (cB_t (by omega) (jn0_i (cB_f (by omega) (cB_t rfl (wL_i (wL_i (jn13_i (cB_t rfl (sm_row hn ⟨by omega, z1⟩ hb hp R1 ?_))))))))))
    cases g1 : pRowM F n we' rp rk rw with
    | inl x =>
      rw [g1, ob_l] at h
      have hx : 1 ≤ x.1 := (pRowM_p x g1).1
      intro a1 b1 b2 b3 b4 b5 b6 b7 _ _ _ _
      ((repeat' (first | with_reducible refine cB_f (by omega) ?_ | with_reducible refine wL_i ?_ | with_reducible refine cB_i (fun _ => ?_) (fun _ => ?_) | with_reducible refine jn0_i ?_ | with_reducible refine jn1_i ?_ | with_reducible refine jn2_i ?_ | with_reducible refine jn3_i ?_ | with_reducible refine jn4_i ?_ | with_reducible refine jn5_i ?_ | with_reducible refine jn6_i ?_ | with_reducible refine jn7_i ?_ | with_reducible refine jn8_i ?_ | with_reducible refine jn9_i ?_ | with_reducible refine jn10_i ?_ | with_reducible refine jn11_i ?_ | with_reducible refine jn12_i ?_ | with_reducible refine jn13_i ?_ | with_reducible refine nlp4_i (fun _ _ _ _ => True) (fun _ _ _ _ => 0) (fun _ _ _ _ _ _ _ => ?_) trivial)); (all_goals exact h _ _ _ _ _ _ _ _ _ _ _ _ (by omega) (by omega) (by omega) (by omega)))
    | inr s =>
      rw [g1, ob_r] at h
      have c1 := pRowM_r z1 s g1
      intro b1 b2 b3 b4 b5 b6 n0 n1 g
      refine cB_t (Int.le_refl 0) (sm_end hn ⟨by omega, c1.2⟩ ?_)
      cases g2 : pEnd F n s.1 with
      | inl x =>
        rw [g2, ob_l] at h
        intro a1 a2 a3
        exact h _ _ _ _ _ _ _ _ _ _ _ _ a2 a3 n0 n1
      | inr b =>
        rw [g2, ob_r] at h
        exact h _ _ _ _ _ _ _ _ _ _ n0 n1 ⟨T1, fun c c0 c1 => by rw [bt_up (by omega) (by omega) (by omega) (by omega), T2 c c0 c1, decide_eq_false (by omega), Bool.or_false]⟩ ⟨g, R2, R3⟩
  · have n0 : ¬ iw F n a 0 = true := fun q => e0 (w0.1.mpr q)
    have i1 := w1.1.mp e1
    have el := w1.2 i1
    rw [if_neg n0, if_pos i1, pOdds_e, pWord_t hsk i1] at h
    simp only [ob_r, ob_a] at h
    rw [← el] at h
    refine jn1_i (jn0_i (cB_t (by omega) (jn0_i (cB_f (by omega) (cB_t rfl (wL_i (wL_i (jn13_i (cB_f (by decide) (cB_t rfl (sm_odds hn ⟨by omega, z1⟩ hb T1 R2 ?_)))))))))))
    cases g1 : pOddsM F n we' t ro with
    | inl x =>
      rw [g1, ob_l] at h
      have hx : 1 ≤ x.1 := (pOddsM_p x g1).1
      intro a1 b1 b2 b3 b4 _ _ _ _
      ((repeat' (first | with_reducible refine cB_f (by omega) ?_ | with_reducible refine wL_i ?_ | with_reducible refine cB_i (fun _ => ?_) (fun _ => ?_) | with_reducible refine jn0_i ?_ | with_reducible refine jn1_i ?_ | with_reducible refine jn2_i ?_ | with_reducible refine jn3_i ?_ | with_reducible refine jn4_i ?_ | with_reducible refine jn5_i ?_ | with_reducible refine jn6_i ?_ | with_reducible refine jn7_i ?_ | with_reducible refine jn8_i ?_ | with_reducible refine jn9_i ?_ | with_reducible refine jn10_i ?_ | with_reducible refine jn11_i ?_ | with_reducible refine jn12_i ?_ | with_reducible refine jn13_i ?_ | with_reducible refine nlp4_i (fun _ _ _ _ => True) (fun _ _ _ _ => 0) (fun _ _ _ _ _ _ _ => ?_) trivial)); (all_goals exact h _ _ _ _ _ _ _ _ _ _ _ _ (by omega) (by omega) (by omega) (by omega)))
    | inr s =>
      rw [g1, ob_r] at h
      have c1 := pOddsM_r z1 s g1
      intro b1 b2 b3 b4 n0 n1 g g' g''
      refine cB_t (Int.le_refl 0) (sm_end hn ⟨by omega, c1.2⟩ ?_)
      cases g2 : pEnd F n s.1 with
      | inl x =>
        rw [g2, ob_l] at h
        intro a1 a2 a3
        exact h _ _ _ _ _ _ _ _ _ _ _ _ a2 a3 n0 n1
      | inr b =>
        rw [g2, ob_r] at h
        exact h _ _ _ _ _ _ _ _ _ _ n0 n1 ⟨g, fun c c0 c1 => by rw [bt_up (by omega) (by omega) (by omega) (by omega), T2 c c0 c1, decide_eq_false (by omega), Bool.or_false]; exact (g' _ (by omega)).symm⟩ ⟨R1, g'', R3⟩
  · have n0 : ¬ iw F n a 0 = true := fun q => e0 (w0.1.mpr q)
    have n1 : ¬ iw F n a 1 = true := fun q => e1 (w1.1.mpr q)
    have i2 := w2.1.mp e2
    have el := w2.2 i2
    have T2c : bit ts 2 = t 4 := T2 2 (by omega) (by omega)
    rw [if_neg n0, if_neg n1, if_pos i2] at h
    refine jn1_i (jn0_i (cB_f (by omega) (wL_i (wL_i (cB_i (fun ey => ?_) (fun ey => ?_))))))
    · have e9 := (bt1 (x := ts) (k := 2) (by omega) (by omega)).mp ey
      rw [T2c] at e9
      rw [pWts_e, if_pos (by exact e9)] at h
      simp only [ob_l] at h
      exact jn0_i (cB_f (by omega) (cB_f (by decide) (jn1_i (cB_t (by omega) (sp_fails (h _ _ _ _ _ _ _ _ _ _ _ _ ha.1 ha.2 hb.1 hb.2))))))
    · have e9 : ¬ t 4 = true := fun q => ey ((bt1 (x := ts) (k := 2) (by omega) (by omega)).mpr (by rw [T2c, q]))
      rw [pWts_e, if_neg (by exact e9)] at h
      simp only [ob_r, ob_a] at h
      rw [pWord_t hsk i2] at h
      simp only [ob_r, ob_a] at h
      rw [← el] at h
      refine jn0_i (cB_f (by omega) (cB_t rfl (wL_i (wL_i (jn13_i (cB_f (by decide) (cB_f (by decide) (sm_wts hn ⟨by omega, z1⟩ hb R3 ?_))))))))
      cases g1 : pWtsM F n we' rs with
      | inl x =>
        rw [g1, ob_l] at h
        have hx : 1 ≤ x.1 := (pWtsM_p x g1).1
        intro a1 b1 b2 b3 _ _ _ _
        ((repeat' (first | with_reducible refine cB_f (by omega) ?_ | with_reducible refine wL_i ?_ | with_reducible refine cB_i (fun _ => ?_) (fun _ => ?_) | with_reducible refine jn0_i ?_ | with_reducible refine jn1_i ?_ | with_reducible refine jn2_i ?_ | with_reducible refine jn3_i ?_ | with_reducible refine jn4_i ?_ | with_reducible refine jn5_i ?_ | with_reducible refine jn6_i ?_ | with_reducible refine jn7_i ?_ | with_reducible refine jn8_i ?_ | with_reducible refine jn9_i ?_ | with_reducible refine jn10_i ?_ | with_reducible refine jn11_i ?_ | with_reducible refine jn12_i ?_ | with_reducible refine jn13_i ?_ | with_reducible refine nlp4_i (fun _ _ _ _ => True) (fun _ _ _ _ => 0) (fun _ _ _ _ _ _ _ => ?_) trivial)); (all_goals exact h _ _ _ _ _ _ _ _ _ _ _ _ (by omega) (by omega) (by omega) (by omega)))
      | inr s =>
        rw [g1, ob_r] at h
        have c1 := pWtsM_r z1 s g1
        intro b1 b2 b3 m0 m1 g
        refine cB_t (Int.le_refl 0) (sm_end hn ⟨by omega, c1.2⟩ ?_)
        cases g2 : pEnd F n s.1 with
        | inl x =>
          rw [g2, ob_l] at h
          intro a1 a2 a3
          exact h _ _ _ _ _ _ _ _ _ _ _ _ a2 a3 m0 m1
        | inr b =>
          rw [g2, ob_r] at h
          refine h _ _ _ _ _ _ _ _ _ _ m0 m1 ⟨fun j j0 j1 => ?_, fun c c0 c1 => ?_⟩ ⟨R1, R2, g⟩
          · show bit ss j = tl t 4 j
            rw [T1 j j0 j1]; unfold tl; rw [if_neg (by omega)]
          · show bit (ior ts (ishl 1 2)) c = tl t 4 (c + 2)
            rw [bt_up (by omega) (by omega) (by omega) (by omega), T2 c c0 c1]
            unfold tl
            by_cases ec : c = 2
            · rw [if_pos (by omega), ec]; simp
            · rw [if_neg (by omega), decide_eq_false (by omega), Bool.or_false]
  · have n0 : ¬ iw F n a 0 = true := fun q => e0 (w0.1.mpr q)
    have n1 : ¬ iw F n a 1 = true := fun q => e1 (w1.1.mpr q)
    have n2 : ¬ iw F n a 2 = true := fun q => e2 (w2.1.mpr q)
    have i3 := w3.1.mp e3
    have el := w3.2 i3
    have T2c : bit ts 3 = t 5 := T2 3 (by omega) (by omega)
    rw [if_neg n0, if_neg n1, if_neg n2, if_pos i3] at h
    refine jn1_i (jn0_i (cB_f (by omega) (wL_i (wL_i (cB_i (fun ey => ?_) (fun ey => ?_))))))
    · have e9 := (bt1 (x := ts) (k := 3) (by omega) (by omega)).mp ey
      rw [T2c] at e9
      rw [pOne_e, if_pos (by exact e9)] at h
      simp only [ob_l] at h
      exact jn0_i (cB_f (by omega) (cB_f (by decide) (jn1_i (cB_t (by omega) (sp_fails (h _ _ _ _ _ _ _ _ _ _ _ _ ha.1 ha.2 hb.1 hb.2))))))
    · have e9 : ¬ t 5 = true := fun q => ey ((bt1 (x := ts) (k := 3) (by omega) (by omega)).mpr (by rw [T2c, q]))
      rw [pOne_e, if_neg (by exact e9)] at h
      simp only [ob_r, ob_a] at h
      rw [pWord_t hsk i3] at h
      simp only [ob_r, ob_a] at h
      rw [← el] at h
      refine jn0_i (cB_f (by omega) (cB_t rfl (wL_i (wL_i (jn13_i (cB_f (by decide) (cB_f (by decide) (sm_one (c := 3) ⟨by omega, by omega⟩ hn ⟨by omega, z1⟩ hb R3 ?_))))))))
      cases g1 : pOneM F n we' 3 rs with
      | inl x =>
        rw [g1, ob_l] at h
        have hx : 1 ≤ x.1 := (pOneM_p x g1).1
        intro a1 b1 b2 b3 _ _ _ _
        ((repeat' (first | with_reducible refine cB_f (by omega) ?_ | with_reducible refine wL_i ?_ | with_reducible refine cB_i (fun _ => ?_) (fun _ => ?_) | with_reducible refine jn0_i ?_ | with_reducible refine jn1_i ?_ | with_reducible refine jn2_i ?_ | with_reducible refine jn3_i ?_ | with_reducible refine jn4_i ?_ | with_reducible refine jn5_i ?_ | with_reducible refine jn6_i ?_ | with_reducible refine jn7_i ?_ | with_reducible refine jn8_i ?_ | with_reducible refine jn9_i ?_ | with_reducible refine jn10_i ?_ | with_reducible refine jn11_i ?_ | with_reducible refine jn12_i ?_ | with_reducible refine jn13_i ?_ | with_reducible refine nlp4_i (fun _ _ _ _ => True) (fun _ _ _ _ => 0) (fun _ _ _ _ _ _ _ => ?_) trivial)); (all_goals exact h _ _ _ _ _ _ _ _ _ _ _ _ (by omega) (by omega) (by omega) (by omega)))
      | inr s =>
        rw [g1, ob_r] at h
        have c1 := pOneM_r z1 s g1
        intro b1 b2 b3 m0 m1 g
        refine cB_t (Int.le_refl 0) (sm_end hn ⟨by omega, c1.2⟩ ?_)
        cases g2 : pEnd F n s.1 with
        | inl x =>
          rw [g2, ob_l] at h
          intro a1 a2 a3
          exact h _ _ _ _ _ _ _ _ _ _ _ _ a2 a3 m0 m1
        | inr b =>
          rw [g2, ob_r] at h
          refine h _ _ _ _ _ _ _ _ _ _ m0 m1 ⟨fun j j0 j1 => ?_, fun c c0 c1 => ?_⟩ ⟨R1, R2, g⟩
          · show bit ss j = tl t 5 j
            rw [T1 j j0 j1]; unfold tl; rw [if_neg (by omega)]
          · show bit (ior ts (ishl 1 3)) c = tl t 5 (c + 2)
            rw [bt_up (by omega) (by omega) (by omega) (by omega), T2 c c0 c1]
            unfold tl
            by_cases ec : c = 3
            · rw [if_pos (by omega), ec]; simp
            · rw [if_neg (by omega), decide_eq_false (by omega), Bool.or_false]
  · have n0 : ¬ iw F n a 0 = true := fun q => e0 (w0.1.mpr q)
    have n1 : ¬ iw F n a 1 = true := fun q => e1 (w1.1.mpr q)
    have n2 : ¬ iw F n a 2 = true := fun q => e2 (w2.1.mpr q)
    have n3 : ¬ iw F n a 3 = true := fun q => e3 (w3.1.mpr q)
    have i4 := w4.1.mp e4
    have el := w4.2 i4
    have T2c : bit ts 4 = t 6 := T2 4 (by omega) (by omega)
    rw [if_neg n0, if_neg n1, if_neg n2, if_neg n3, if_pos i4] at h
    refine jn1_i (jn0_i (cB_f (by omega) (wL_i (wL_i (cB_i (fun ey => ?_) (fun ey => ?_))))))
    · have e9 := (bt1 (x := ts) (k := 4) (by omega) (by omega)).mp ey
      rw [T2c] at e9
      rw [pOne_e, if_pos (by exact e9)] at h
      simp only [ob_l] at h
      exact jn0_i (cB_f (by omega) (cB_f (by decide) (jn1_i (cB_t (by omega) (sp_fails (h _ _ _ _ _ _ _ _ _ _ _ _ ha.1 ha.2 hb.1 hb.2))))))
    · have e9 : ¬ t 6 = true := fun q => ey ((bt1 (x := ts) (k := 4) (by omega) (by omega)).mpr (by rw [T2c, q]))
      rw [pOne_e, if_neg (by exact e9)] at h
      simp only [ob_r, ob_a] at h
      rw [pWord_t hsk i4] at h
      simp only [ob_r, ob_a] at h
      rw [← el] at h
      refine jn0_i (cB_f (by omega) (cB_t rfl (wL_i (wL_i (jn13_i (cB_f (by decide) (cB_f (by decide) (sm_one (c := 4) ⟨by omega, by omega⟩ hn ⟨by omega, z1⟩ hb R3 ?_))))))))
      cases g1 : pOneM F n we' 4 rs with
      | inl x =>
        rw [g1, ob_l] at h
        have hx : 1 ≤ x.1 := (pOneM_p x g1).1
        intro a1 b1 b2 b3 _ _ _ _
        ((repeat' (first | with_reducible refine cB_f (by omega) ?_ | with_reducible refine wL_i ?_ | with_reducible refine cB_i (fun _ => ?_) (fun _ => ?_) | with_reducible refine jn0_i ?_ | with_reducible refine jn1_i ?_ | with_reducible refine jn2_i ?_ | with_reducible refine jn3_i ?_ | with_reducible refine jn4_i ?_ | with_reducible refine jn5_i ?_ | with_reducible refine jn6_i ?_ | with_reducible refine jn7_i ?_ | with_reducible refine jn8_i ?_ | with_reducible refine jn9_i ?_ | with_reducible refine jn10_i ?_ | with_reducible refine jn11_i ?_ | with_reducible refine jn12_i ?_ | with_reducible refine jn13_i ?_ | with_reducible refine nlp4_i (fun _ _ _ _ => True) (fun _ _ _ _ => 0) (fun _ _ _ _ _ _ _ => ?_) trivial)); (all_goals exact h _ _ _ _ _ _ _ _ _ _ _ _ (by omega) (by omega) (by omega) (by omega)))
      | inr s =>
        rw [g1, ob_r] at h
        have c1 := pOneM_r z1 s g1
        intro b1 b2 b3 m0 m1 g
        refine cB_t (Int.le_refl 0) (sm_end hn ⟨by omega, c1.2⟩ ?_)
        cases g2 : pEnd F n s.1 with
        | inl x =>
          rw [g2, ob_l] at h
          intro a1 a2 a3
          exact h _ _ _ _ _ _ _ _ _ _ _ _ a2 a3 m0 m1
        | inr b =>
          rw [g2, ob_r] at h
          refine h _ _ _ _ _ _ _ _ _ _ m0 m1 ⟨fun j j0 j1 => ?_, fun c c0 c1 => ?_⟩ ⟨R1, R2, g⟩
          · show bit ss j = tl t 6 j
            rw [T1 j j0 j1]; unfold tl; rw [if_neg (by omega)]
          · show bit (ior ts (ishl 1 4)) c = tl t 6 (c + 2)
            rw [bt_up (by omega) (by omega) (by omega) (by omega), T2 c c0 c1]
            unfold tl
            by_cases ec : c = 4
            · rw [if_pos (by omega), ec]; simp
            · rw [if_neg (by omega), decide_eq_false (by omega), Bool.or_false]
  · have n0 : ¬ iw F n a 0 = true := fun q => e0 (w0.1.mpr q)
    have n1 : ¬ iw F n a 1 = true := fun q => e1 (w1.1.mpr q)
    have n2 : ¬ iw F n a 2 = true := fun q => e2 (w2.1.mpr q)
    have n3 : ¬ iw F n a 3 = true := fun q => e3 (w3.1.mpr q)
    have n4 : ¬ iw F n a 4 = true := fun q => e4 (w4.1.mpr q)
    rw [if_neg n0, if_neg n1, if_neg n2, if_neg n3, if_neg n4] at h
    exact jn1_i (jn0_i (cB_t (by omega) (jn0_i (cB_t (by omega) (jn1_i (cB_f (by omega) (sp_fails (h _ _ _ _ _ _ _ _ _ _ _ _ ha.1 ha.2 hb.1 hb.2))))))))
