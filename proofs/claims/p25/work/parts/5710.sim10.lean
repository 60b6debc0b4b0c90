/-! IN STEP 10: the model's hall -/
theorem sm_bare {a b c : Int} {ro rs : Int → Int} {Q : Int → Int → Int → (Int → Int) → (Int → Int) → Prop} (h : ∀ ro' rs', (∀ q, 0 ≤ q → q < 12 → ro' q = ro0 q) → (∀ q, 0 ≤ q → q < 5 → rs' q = rs0 q) → Q 0 0 0 ro' rs') : nf_M_bare a b c ro rs Q := by
  unfold nf_M_bare
  simp only [ci_m1, ci_m10, ci_m1001, ci_m1002, ci_m1003, ci_m1004, ci_0, ci_1, ci_10, ci_100, ci_1000, ci_10000, ci_101, ci_103, ci_104, ci_105, ci_107, ci_108, ci_110, ci_111, ci_114, ci_115, ci_116, ci_118, ci_119, ci_12, ci_122, ci_1431655765, ci_15, ci_16, ci_2, ci_20, ci_23, ci_24, ci_240, ci_252645135, ci_255, ci_256, ci_3, ci_32, ci_4, ci_420, ci_48, ci_5, ci_5040, ci_57, ci_59, ci_6, ci_60, ci_63, ci_64, ci_7, ci_70, ci_8, ci_858993459, ci_9, ci_900, ci_97, ci_99, ci_999, ci_9999, cl_0, cl_1, cl_10, cl_1000000000000, cl_122, cl_2, cl_2000000000000, cl_23, cl_255, cl_27, cl_3, cl_4, cl_48, cl_57, cl_6, cl_8, cl_96, cl_97, cl_99, cl_999, cl_9999]
  refine nlp2_i (fun s S' => 0 ≤ s ∧ s ≤ 4 ∧ ∀ k, 0 ≤ k → k < 3 * s → S' k = ro0 k) (fun s _ => (4 - s).toNat) ?_ ⟨by omega, by omega, by omega⟩
  intro s S1 hi self hself
  obtain ⟨i1, i2, i3⟩ := hi
  refine cB_i (fun _ => ?_) (fun _ => ?_)
  · refine wO_i (by simp only [inb]; omega) (wO_i (by simp only [inb]; omega) (wO_i (by simp only [inb]; omega) (wO_i (by simp only [inb]; omega) (wO_i (by simp only [inb]; omega) (h _ _ (fun k k1 k2 => i3 k k1 (by omega)) (fun k k1 k2 => ?_))))))
    rcases (show k = 0 ∨ k = 1 ∨ k = 2 ∨ k = 3 ∨ k = 4 by omega) with rfl | rfl | rfl | rfl | rfl
    · rw [ups_n (by omega), ups_n (by omega), ups_n (by omega), ups_n (by omega), ups_s]; rfl
    · rw [ups_n (by omega), ups_n (by omega), ups_n (by omega), ups_s]; rfl
    · rw [ups_n (by omega), ups_n (by omega), ups_s]; rfl
    · rw [ups_n (by omega), ups_s]; rfl
    · rw [ups_s]; rfl
  · refine wO_i (by simp only [iR]; omega) (wO_i (by simp only [inb]; omega) (wO_i (by simp only [iR]; omega) (wO_i (by simp only [iR]; omega) (wO_i (by simp only [inb]; omega) (wO_i (by simp only [iR]; omega) (wO_i (by simp only [iR]; omega) (wO_i (by simp only [inb]; omega) (wO_i (by simp only [iR]; omega) (hself _ _ ⟨by omega, by omega, fun k k1 k2 => ?_⟩ (by omega))))))))))
    by_cases e2 : k = 3 * s + 2
    · rw [e2, ups_s]; unfold ro0; rw [if_neg (by omega), if_neg (by omega)]
    · rw [ups_n e2]
      by_cases e1 : k = 3 * s + 1
      · rw [e1, ups_s]; unfold ro0; rw [if_neg (by omega), if_pos (by omega)]
      · rw [ups_n e1]
        by_cases e0 : k = 3 * s
        · rw [e0, ups_s]; unfold ro0; rw [if_pos (by omega)]
        · rw [ups_n e0]; exact i3 k k1 (by omega)
theorem sm_keepHall {pg hs rp : Int} {pk pw oo sg rk rw ro rs : Int → Int} {Q : Int → Int → (Int → Int) → (Int → Int) → (Int → Int) → (Int → Int) → Prop} (hh : 0 ≤ hs ∧ hs ≤ 100000) (h : ∀ pk' pw' oo' sg', (∀ q, 0 ≤ q → q < 24 → pk' q = rk q ∧ pw' q = rw q) → (∀ q, 0 ≤ q → q < 12 → oo' q = ro q) → (∀ q, 0 ≤ q → q < 5 → sg' q = rs q) → Q rp (hs + 1) pk' pw' oo' sg') : nf_M_keepHall pg hs rp pk pw oo sg rk rw ro rs Q := by
  unfold nf_M_keepHall
  simp only [ci_m1, ci_m10, ci_m1001, ci_m1002, ci_m1003, ci_m1004, ci_0, ci_1, ci_10, ci_100, ci_1000, ci_10000, ci_101, ci_103, ci_104, ci_105, ci_107, ci_108, ci_110, ci_111, ci_114, ci_115, ci_116, ci_118, ci_119, ci_12, ci_122, ci_1431655765, ci_15, ci_16, ci_2, ci_20, ci_23, ci_24, ci_240, ci_252645135, ci_255, ci_256, ci_3, ci_32, ci_4, ci_420, ci_48, ci_5, ci_5040, ci_57, ci_59, ci_6, ci_60, ci_63, ci_64, ci_7, ci_70, ci_8, ci_858993459, ci_9, ci_900, ci_97, ci_99, ci_999, ci_9999, cl_0, cl_1, cl_10, cl_1000000000000, cl_122, cl_2, cl_2000000000000, cl_23, cl_255, cl_27, cl_3, cl_4, cl_48, cl_57, cl_6, cl_8, cl_96, cl_97, cl_99, cl_999, cl_9999]
  refine nlp3_i (fun i pk' pw' => 0 ≤ i ∧ i ≤ 24 ∧ ∀ q, 0 ≤ q → q < i → pk' q = rk q ∧ pw' q = rw q) (fun i _ _ => (24 - i).toNat) ?_ ⟨by omega, by omega, by omega⟩
  intro i pk1 pw1 hi self hself
  obtain ⟨i1, i2, i3⟩ := hi
  refine cB_i (fun _ => ?_) (fun _ => ?_)
  · refine nlp2_i (fun j oo' => 0 ≤ j ∧ j ≤ 12 ∧ ∀ q, 0 ≤ q → q < j → oo' q = ro q) (fun j _ => (12 - j).toNat) ?_ ⟨by omega, by omega, by omega⟩
    intro j oo1 hj self2 hself2
    obtain ⟨j1, j2, j3⟩ := hj
    refine cB_i (fun _ => ?_) (fun _ => ?_)
    · refine nlp2_i (fun k sg' => 0 ≤ k ∧ k ≤ 5 ∧ ∀ q, 0 ≤ q → q < k → sg' q = rs q) (fun k _ => (5 - k).toNat) ?_ ⟨by omega, by omega, by omega⟩
      intro k sg1 hk self3 hself3
      obtain ⟨k1, k2, k3⟩ := hk
      refine cB_i (fun _ => wO_i (by simp only [iR]; omega) (h _ _ _ _ (fun q q1 q2 => i3 q q1 (by omega)) (fun q q1 q2 => j3 q q1 (by omega)) (fun q q1 q2 => k3 q q1 (by omega)))) (fun _ => ?_)
      refine wO_i (by simp only [inb]; omega) (wO_i (by simp only [inb]; omega) (wO_i (by simp only [iR]; omega) (hself3 _ _ ⟨by omega, by omega, fun q q1 q2 => ?_⟩ (by omega))))
      by_cases e : q = k
      · subst e; rw [ups_s]
      · rw [ups_n e]; exact k3 q q1 (by omega)
    · refine wO_i (by simp only [inb]; omega) (wO_i (by simp only [inb]; omega) (wO_i (by simp only [iR]; omega) (hself2 _ _ ⟨by omega, by omega, fun q q1 q2 => ?_⟩ (by omega))))
      by_cases e : q = j
      · subst e; rw [ups_s]
      · rw [ups_n e]; exact j3 q q1 (by omega)
  · refine wO_i (by simp only [inb]; omega) (wO_i (by simp only [inb]; omega) (wO_i (by simp only [inb]; omega) (wO_i (by simp only [inb]; omega) (wO_i (by simp only [iR]; omega) (hself _ _ _ ⟨by omega, by omega, fun q q1 q2 => ?_⟩ (by omega))))))
    by_cases e : q = i
    · subst e; rw [ups_s, ups_s]; exact ⟨rfl, rfl⟩
    · rw [ups_n e, ups_n e]; exact i3 q q1 (by omega)
theorem sm_hall {pg hs n fp a w we nb na rp ts ss ev : Int} {pk pw oo sg F rk rw ro rs : Int → Int} {Q : Int → Int → Int → Int → Int → Int → Int → Int → Int → Int → Int → Int → Int → (Int → Int) → (Int → Int) → (Int → Int) → (Int → Int) → (Int → Int) → (Int → Int) → (Int → Int) → (Int → Int) → Prop} (hh : 0 ≤ hs ∧ hs ≤ 100000) (hn : 0 ≤ n ∧ n ≤ 240) (hF : ∀ k, 0 ≤ k → k < 240 → 0 ≤ F k ∧ F k ≤ 255) (hb : 0 ≤ nb ∧ nb ≤ 100009) (h0 : 0 < ev → Q (-1003) pg hs n fp a w we nb na rp ts ss pk pw oo sg rk rw ro rs) (h : ev ≤ 0 → match pHall F n with
    | .inl x => pP x → ∀ a' w' we' nb' na' rp' ts' ss' rk' rw' ro' rs', 0 ≤ nb' → nb' ≤ 100009 → Q (-10 - x.1) pg hs 0 x.2 a' w' we' nb' na' rp' ts' ss' pk pw oo sg rk' rw' ro' rs'
    | .inr s => rI 0 s.2.2.1 s.2.2.2.2.1 s.2.2.2.2.2.1 s.2.2.2.2.2.2 → ∀ a' w' we' nb' na' ts' ss' pk' pw' oo' sg' rk' rw' ro' rs', 0 ≤ nb' → nb' ≤ 100009 → mR pk' pw' oo' sg' s.2.2.1 s.2.2.2.1 s.2.2.2.2.1 s.2.2.2.2.2.1 s.2.2.2.2.2.2 → Q s.2.2.1 s.2.2.1 (hs + 1) 0 (-1) a' w' we' nb' na' s.2.2.1 ts' ss' pk' pw' oo' sg' rk' rw' ro' rs') : nf_M_hall pg hs n fp a w we nb na rp ts ss ev pk pw oo sg F rk rw ro rs Q := by
  unfold nf_M_hall
  simp only [ci_m1, ci_m10, ci_m1001, ci_m1002, ci_m1003, ci_m1004, ci_0, ci_1, ci_10, ci_100, ci_1000, ci_10000, ci_101, ci_103, ci_104, ci_105, ci_107, ci_108, ci_110, ci_111, ci_114, ci_115, ci_116, ci_118, ci_119, ci_12, ci_122, ci_1431655765, ci_15, ci_16, ci_2, ci_20, ci_23, ci_24, ci_240, ci_252645135, ci_255, ci_256, ci_3, ci_32, ci_4, ci_420, ci_48, ci_5, ci_5040, ci_57, ci_59, ci_6, ci_60, ci_63, ci_64, ci_7, ci_70, ci_8, ci_858993459, ci_9, ci_900, ci_97, ci_99, ci_999, ci_9999, cl_0, cl_1, cl_10, cl_1000000000000, cl_122, cl_2, cl_2000000000000, cl_23, cl_255, cl_27, cl_3, cl_4, cl_48, cl_57, cl_6, cl_8, cl_96, cl_97, cl_99, cl_999, cl_9999]
  refine cB_i (fun hev => sm_bare (fun ro1 rs1 hr1 hr2 => ?_)) (fun _ => h0 (by omega))
  have h := h hev
  generalize hR : pHall F n = R at h
  have hs0 := sk_p (T := F) hn.1
  refine nlp14_i (fun f p' a' _ _ nb' _ rp' ts' ss' rk' rw' ro' rs' => 0 ≤ a' ∧ a' ≤ n ∧ 0 ≤ nb' ∧ nb' ≤ 100009 ∧ ((pP (f, p') ∧ R = .inl (f, p')) ∨ (f = 0 ∧ p' = -1 ∧ ∃ (k : Nat) (t : Int → Bool) (rk rw ro rs : Int → Int), R = pRun F n k (sk F n a', t, rp', rk, rw, ro, rs) ∧ n - sk F n a' < k ∧ mT ts' ss' t ∧ mR rk' rw' ro' rs' rp' rk rw ro rs ∧ rI 0 rp' rw ro rs))) (fun f _ a' _ _ _ _ _ _ _ _ _ _ _ => if f = 0 then (n - a').toNat + 1 else 0) ?_ ⟨by omega, hn.1, hb.1, hb.2, Or.inr ⟨rfl, rfl, 241, _, _, _, _, _, hR.symm, by omega, ⟨fun j _ _ => bt_0 j, fun c _ _ => bt_0 c⟩, ⟨by omega, hr1, hr2⟩, rI_0⟩⟩
  intro f1 p1 a1 w1 we1 nb1 na1 rp1 ts1 ss1 rk1 rw1 ro1 rs1 hi self hself
  obtain ⟨i1, i2, i3, i4, i5⟩ := hi
  have hs := sk_p (T := F) i2
  refine jn1_s (fun _ => f1 ≠ 0 ∨ n ≤ sk F n a1) (fun z hz => ?_) ?_
  · rcases i5 with ⟨b1, b2⟩ | ⟨b1, b2, k, t, rk2, rw2, ro2, rs2, b5, b6, b7, b8, b9⟩
    · rw [b2] at h
      have hx1 : 1 ≤ f1 := b1.1
      have hx2 : f1 ≤ 5 := b1.2
      exact cB_f (by omega) (wO_i (by simp only [iR]; omega) (h b1 _ _ _ _ _ _ _ _ _ _ _ _ i3 i4))
    · rw [pRun_e (by show n ≤ sk F n a1; omega)] at b5
      rw [b5] at h
      subst b1 b2
      exact cB_t (Int.le_refl 0) (sm_keepHall hh (fun pk' pw' oo' sg' k1 k2 k3 => h b9 _ _ _ _ _ _ _ _ _ _ _ _ _ _ _ i3 i4 ⟨fun q q0 q1 => by
        have e := k1 q q0 (by have : q < rp1 := q1; have := b9.2.1; omega)
        rw [e.1, e.2]; exact b8.1 q q0 q1, fun q q0 q1 => by rw [k2 q q0 q1]; exact b8.2.1 q q0 q1, fun q q0 q1 => by rw [k3 q q0 q1]; exact b8.2.2 q q0 q1⟩))
  · rcases i5 with ⟨b1, b2⟩ | ⟨b1, b2, k, t, rk2, rw2, ro2, rs2, b5, b6, b7, b8, b9⟩
    · have hx1 : 1 ≤ f1 := b1.1
      exact cB_f (by omega) (Or.inl (by omega))
    · subst b1 b2
      refine cB_t rfl (sm_here hn ⟨i1, i2⟩ (fun hlt => ?_) (fun he => cB_t (by decide) (Or.inr (by omega))))
      have hF1 := hF (sk F n a1) (by omega) (by omega)
      refine cB_f (by omega) ?_
      rw [pRun_s (by show sk F n a1 < n; omega) b6] at b5
      dsimp only at b5
      refine sm_clause hn ⟨by omega, hs.2.1⟩ (sk_i i2) ⟨i3, i4⟩ ⟨b9.1, b9.2.1⟩ b7 b8 ?_
      cases e1 : pClause F n (sk F n a1) t rp1 rk2 rw2 ro2 rs2 with
      | inl x =>
        rw [e1, ob_l] at b5
        intro a' w' we' nb' na' rp' ts' ss' rk' rw' ro' rs' a0 a2 n0 n1
        have hp := pClause_p x e1
        have hp1 : 1 ≤ x.1 := hp.1
        refine hself _ _ _ _ _ _ _ _ _ _ _ _ _ _ ⟨a0, a2, n0, n1, Or.inl ⟨hp, b5⟩⟩ ?_
        rw [if_pos rfl, if_neg (by omega)]; omega
      | inr s =>
        rw [e1, ob_r] at b5
        have c1 := pClause_r hs.2.1 b9 s e1
        have hs2 := sk_p (T := F) c1.2.1
        intro w' we' nb' na' ts' ss' rk' rw' ro' rs' n0 n1 a0 a2
        refine hself _ _ _ _ _ _ _ _ _ _ _ _ _ _ ⟨by omega, c1.2.1, n0, n1, Or.inr ⟨rfl, rfl, k - 1, _, _, _, _, _, b5, by omega, a0, a2, c1.2.2⟩⟩ ?_
        rw [if_pos rfl, if_pos rfl]; omega
