/-! IN STEP 6: the model's words and numbers keep to the grammar -/
theorem sm_here {n a : Int} {F : Int → Int} {Q : Int → Int → Prop} (hn : 0 ≤ n ∧ n ≤ 240) (ha : 0 ≤ a ∧ a ≤ n) (h1 : sk F n a < n → Q (F (sk F n a)) (sk F n a)) (h2 : sk F n a = n → Q (-1) (sk F n a)) : nf_M_here n a F Q := by
  refine sp_here hn ha (fun a' b1 b2 b3 => ⟨fun c1 c2 => ?_, fun c1 => ?_⟩)
  · have e := sk_u b1 b2 b3 (fun _ => c2)
    subst e
    exact h1 c1
  · have e := sk_u b1 b2 b3 (fun c2 => by omega)
    subst e
    exact h2 c1
def wv (U : Nat → Int) : Nat → Int
  | 0 => 0
  | k + 1 => if 1000000000000 < wv U k then 2000000000000 else 27 * wv U k + U k - 96
def cd (si : Nat) : Int := wv (fun k => schr si (k : Int)) (slenN si)
theorem wv_c (U V : Nat → Int) : ∀ m : Nat, (∀ k, k < m → U k = V k) → wv U m = wv V m := by
  intro m
  induction m with
  | zero => intro _; rfl
  | succ m ih =>
    intro h
    show (if 1000000000000 < wv U m then _ else _) = (if 1000000000000 < wv V m then _ else _)
    rw [ih (fun k hk => h k (by omega)), h m (by omega)]
theorem wv_0 (U : Nat → Int) : ∀ m : Nat, (∀ k, k < m → 97 ≤ U k ∧ U k ≤ 122) → 0 ≤ wv U m := by
  intro m
  induction m with
  | zero => intro _; exact Int.le_refl _
  | succ m ih =>
    intro h
    have a := ih (fun k hk => h k (by omega))
    have b := h m (by omega)
    show 0 ≤ (if 1000000000000 < wv U m then _ else _)
    split <;> omega
theorem wv_i (U V : Nat → Int) : ∀ m m' : Nat, (∀ k, k < m → 97 ≤ U k ∧ U k ≤ 122) → (∀ k, k < m' → 97 ≤ V k ∧ V k ≤ 122) → wv U m = wv V m' → wv U m < 1000000000000 → m = m' ∧ ∀ k, k < m → U k = V k := by
  intro m
  induction m with
  | zero =>
    intro m' _ hV e _
    cases m' with
    | zero => exact ⟨rfl, fun k hk => by omega⟩
    | succ j =>
      have a := wv_0 V j (fun k hk => hV k (by omega))
      have b := hV j (by omega)
      have e' : (0 : Int) = if 1000000000000 < wv V j then 2000000000000 else 27 * wv V j + V j - 96 := e
      split at e' <;> omega
  | succ m ih =>
    intro m' hU hV e hl
    have a := wv_0 U m (fun k hk => hU k (by omega))
    have b := hU m (by omega)
    have eU : wv U (m + 1) = if 1000000000000 < wv U m then 2000000000000 else 27 * wv U m + U m - 96 := rfl
    cases m' with
    | zero =>
      have e' : wv U (m + 1) = 0 := e
      rw [eU] at e'
      split at e' <;> omega
    | succ j =>
      have c := wv_0 V j (fun k hk => hV k (by omega))
      have d := hV j (by omega)
      have eV : wv V (j + 1) = if 1000000000000 < wv V j then 2000000000000 else 27 * wv V j + V j - 96 := rfl
      rw [eU, eV] at e
      rw [eU] at hl
      have k1 : ¬ (1000000000000 < wv U m) := fun q => by rw [if_pos q] at hl; omega
      rw [if_neg k1] at e hl
      have k2 : ¬ (1000000000000 < wv V j) := fun q => by rw [if_pos q] at e; omega
      rw [if_neg k2] at e
      have g := ih j (fun k hk => hU k (by omega)) (fun k hk => hV k (by omega)) (by omega) (by omega)
      refine ⟨by omega, fun k hk => ?_⟩
      by_cases ek : k = m
      · obtain ⟨g1, _⟩ := g
        subst ek; subst g1
        omega
      · exact g.2 k (by omega)
theorem sc_b2 : ∀ i, i < 7 → ∀ k, k < slenN i → 97 ≤ schr i (k : Int) ∧ schr i (k : Int) ≤ 122 := by decide +kernel
theorem cd_b : ∀ i, i < 7 → cd i < 1000000000000 := by decide +kernel
theorem word_iff {T : Int → Int} {n s z : Int} {si : Nat} (hsi : si < 7) (h0 : s ≤ z) (h1 : z ≤ n) (hl : ∀ j, s ≤ j → j < z → 97 ≤ T j ∧ T j ≤ 122) (he : z < n → ¬ (97 ≤ T z ∧ T z ≤ 122)) : (wv (fun k => T (s + (k : Int))) (z - s).toNat = cd si ↔ iw T n s si = true) ∧ (iw T n s si = true → z = s + slenN si) := by
  have p2 : iw T n s si = true → z = s + slenN si := fun h => by
    obtain ⟨g1, g2, g3⟩ := iw_t.mp h
    rcases Int.lt_trichotomy z (s + slenN si) with c | c | c
    · have a := g2 (z - s) (by omega) (by omega)
      rw [show s + (z - s) = z by omega] at a
      have b := sc_b2 si hsi (z - s).toNat (by omega)
      rw [Int.toNat_of_nonneg (by omega)] at b
      exact absurd ⟨by omega, by omega⟩ (he (by omega))
    · exact c
    · have a := hl (s + slenN si) (by omega) c
      exact absurd ⟨by omega, a.1, a.2⟩ g3
  refine ⟨⟨fun h => ?_, fun h => ?_⟩, p2⟩
  · have g := wv_i (fun k => T (s + (k : Int))) (fun k => schr si (k : Int)) (z - s).toNat (slenN si) (fun k hk => hl _ (by omega) (by omega)) (fun k hk => sc_b2 si hsi k hk) h (by rw [h]; exact cd_b si hsi)
    refine iw_t.mpr ⟨by omega, fun k k0 k1 => ?_, fun c => ?_⟩
    · have q := g.2 k.toNat (by omega)
      rwa [Int.toNat_of_nonneg k0] at q
    · have ez : z = s + slenN si := by omega
      rw [← ez] at c
      exact he c.1 c.2
  · have ez := p2 h
    obtain ⟨g1, g2, g3⟩ := iw_t.mp h
    rw [show (z - s).toNat = slenN si by omega]
    exact wv_c _ _ _ (fun k hk => g2 (k : Int) (by omega) (by omega))
theorem sm_word {n a w we : Int} {F : Int → Int} {Q : Int → Int → Int → Prop} (hn : 0 ≤ n ∧ n ≤ 240) (ha : 0 ≤ a ∧ a ≤ n) (h : ∀ w' we', (∀ si, si < 7 → (w' = cd si ↔ iw F n (sk F n a) si = true) ∧ (iw F n (sk F n a) si = true → we' = sk F n a + slenN si)) → sk F n a ≤ we' → we' ≤ n → Q (sk F n a) w' we') : nf_M_readWord n a w we F Q := by
  unfold nf_M_readWord
  simp only [ci_m1, ci_m10, ci_m1001, ci_m1002, ci_m1003, ci_m1004, ci_0, ci_1, ci_10, ci_100, ci_1000, ci_10000, ci_101, ci_103, ci_104, ci_105, ci_107, ci_108, ci_110, ci_111, ci_114, ci_115, ci_116, ci_118, ci_119, ci_12, ci_122, ci_1431655765, ci_15, ci_16, ci_2, ci_20, ci_23, ci_24, ci_240, ci_252645135, ci_255, ci_256, ci_3, ci_32, ci_4, ci_420, ci_48, ci_5, ci_5040, ci_57, ci_59, ci_6, ci_60, ci_63, ci_64, ci_7, ci_70, ci_8, ci_858993459, ci_9, ci_900, ci_97, ci_99, ci_999, ci_9999, cl_0, cl_1, cl_10, cl_1000000000000, cl_122, cl_2, cl_2000000000000, cl_23, cl_255, cl_27, cl_3, cl_4, cl_48, cl_57, cl_6, cl_8, cl_96, cl_97, cl_99, cl_999, cl_9999]
  have hs := sk_p (T := F) ha.2
  obtain ⟨s, es⟩ : ∃ s, sk F n a = s := ⟨_, rfl⟩
  rw [es] at h hs
  have key : nlp2 (fun self5 (z3 : Int) (z4 : Int) =>
      cB (n ≤ z4)
        (Q s z3 z4)
        (wO (inb z4 240) (F z4) fun v6 =>
        wL v6 fun v7 =>
        nf_M_in  v7 97 122 fun r8 =>
        cB (r8 = 0)
          (Q s z3 z4)
          (wL (lcm3 z3 1000000000000) fun v9 =>
          jn1 (fun (t10 : Int) =>
              wO (iR (z4 + 1)) (z4 + 1) fun v12 =>
              self5 t10 v12) fun j11 =>
          cB (v9 ≤ 0)
            (wO (lR (27 * z3)) (27 * z3) fun v13 =>
            wO (inb z4 240) (F z4) fun v14 =>
            wL v14 fun v15 =>
            wO (lR (v13 + v15)) (v13 + v15) fun v16 =>
            wO (lR (v16 - 96)) (v16 - 96) fun v17 =>
            j11 v17)
            (j11 2000000000000)))) 0 s := by
    refine nlp2_i (fun z i => s ≤ i ∧ i ≤ n ∧ (∀ j, s ≤ j → j < i → 97 ≤ F j ∧ F j ≤ 122) ∧ z = wv (fun k => F (s + (k : Int))) (i - s).toNat) (fun _ i => (n - i).toNat) ?_ ⟨by omega, by omega, by omega, by rw [show (s - s).toNat = 0 by omega]; rfl⟩
    intro z i hi self hself
    obtain ⟨i1, i2, i3, i4⟩ := hi
    have fin : (i < n → ¬ (97 ≤ F i ∧ F i ≤ 122)) → Q s z i := fun he => h _ _ (fun si hsi => by rw [i4]; exact word_iff hsi i1 i2 i3 he) i1 i2
    refine cB_i (fun _ => fin (by omega)) (fun _ => wO_i (by simp only [inb]; omega) (wL_i (sp_in (cB_i (fun hr => cB_f (by decide) (wL_i ?_)) (fun hr => cB_t rfl (fin (fun _ => hr)))))))
    have z0 := wv_0 (fun k => F (s + (k : Int))) (i - s).toNat (fun k hk => i3 _ (by omega) (by omega))
    rw [← i4] at z0
    have zs : wv (fun k => F (s + (k : Int))) (i + 1 - s).toNat = if 1000000000000 < z then 2000000000000 else 27 * z + F i - 96 := by
      have e : (i + 1 - s).toNat = (i - s).toNat + 1 := by omega
      rw [e]
      show (if 1000000000000 < wv (fun k => F (s + (k : Int))) (i - s).toNat then _ else 27 * wv (fun k => F (s + (k : Int))) (i - s).toNat + F (s + ((i - s).toNat : Int)) - 96) = _
      rw [← i4, show s + ((i - s).toNat : Int) = i by omega]
    have hlt : ∀ j, s ≤ j → j < i + 1 → 97 ≤ F j ∧ F j ≤ 122 := fun j b d => by
      by_cases e : j = i
      · rw [e]; exact hr
      · exact i3 j b (by omega)
    refine jn1_s (fun t => t = if 1000000000000 < z then 2000000000000 else 27 * z + F i - 96) (fun t ht => wO_i (by simp only [iR]; omega) (hself _ _ ⟨by omega, by omega, hlt, by rw [ht, zs]⟩ (by omega))) ?_
    refine cB_i (fun hz => ?_) (fun hz => ?_)
    · have hz2 : z ≤ 1000000000000 := by
        unfold lcm3 at hz
        split at hz <;> omega
      refine wO_i (by simp only [lR]; omega) (wO_i (by simp only [inb]; omega) (wL_i (wO_i (by simp only [lR]; omega) (wO_i (by simp only [lR]; omega) ?_))))
      rw [if_neg (by omega)]
    · have hz2 : 1000000000000 < z := by
        unfold lcm3 at hz
        split at hz
        · omega
        · split at hz <;> omega
      rw [if_pos hz2]
  exact sm_here hn ha (fun _ => by rw [es]; exact key) (fun _ => by rw [es]; exact key)
theorem lcm3_0 {x y : Int} : lcm3 x y = 0 ↔ x = y := by
  unfold lcm3
  split
  · omega
  · split <;> omega
theorem sm_clauseOf {w : Int} {Q : Int → Prop} (h0 : w = cd 0 → Q 0) (h1 : w ≠ cd 0 → w = cd 1 → Q 1) (h2 : w ≠ cd 0 → w ≠ cd 1 → w = cd 2 → Q 2) (h3 : w ≠ cd 0 → w ≠ cd 1 → w ≠ cd 2 → w = cd 3 → Q 3) (h4 : w ≠ cd 0 → w ≠ cd 1 → w ≠ cd 2 → w ≠ cd 3 → w = cd 4 → Q 4) (h5 : w ≠ cd 0 → w ≠ cd 1 → w ≠ cd 2 → w ≠ cd 3 → w ≠ cd 4 → Q (-1)) : nf_M_clauseOf w Q := by
  unfold nf_M_clauseOf
  simp only [ci_m1, ci_m10, ci_m1001, ci_m1002, ci_m1003, ci_m1004, ci_0, ci_1, ci_10, ci_100, ci_1000, ci_10000, ci_101, ci_103, ci_104, ci_105, ci_107, ci_108, ci_110, ci_111, ci_114, ci_115, ci_116, ci_118, ci_119, ci_12, ci_122, ci_1431655765, ci_15, ci_16, ci_2, ci_20, ci_23, ci_24, ci_240, ci_252645135, ci_255, ci_256, ci_3, ci_32, ci_4, ci_420, ci_48, ci_5, ci_5040, ci_57, ci_59, ci_6, ci_60, ci_63, ci_64, ci_7, ci_70, ci_8, ci_858993459, ci_9, ci_900, ci_97, ci_99, ci_999, ci_9999, cl_0, cl_1, cl_10, cl_1000000000000, cl_122, cl_2, cl_2000000000000, cl_23, cl_255, cl_27, cl_3, cl_4, cl_48, cl_57, cl_6, cl_8, cl_96, cl_97, cl_99, cl_999, cl_9999]
  have d0 : cd 0 = 13550 := by decide +kernel
  have d1 : cd 1 = 298288 := by decide +kernel
  have d2 : cd 2 = 8987342923 := by decide +kernel
  have d3 : cd 3 = 144941 := by decide +kernel
  have d4 : cd 4 = 240373 := by decide +kernel
  repeat' (first | with_reducible refine wO_i ?_ ?_ | with_reducible refine wL_i ?_ | with_reducible refine cB_f (by decide) ?_ | with_reducible refine cB_t (by decide) ?_ | with_reducible refine cB_i (fun _ => ?_) (fun _ => ?_) | with_reducible refine jn0_i ?_ | with_reducible refine jn1_i ?_ | with_reducible refine jn2_i ?_ | with_reducible refine jn3_i ?_ | with_reducible refine jn4_i ?_ | with_reducible refine jn5_i ?_ | with_reducible refine jn6_i ?_ | with_reducible refine sp_code ⟨by omega, by omega⟩ ⟨by omega, by omega⟩ ⟨by omega, by omega⟩ ?_ | with_reducible refine sp_longer ⟨by omega, by omega⟩ ⟨by omega, by omega⟩ ?_)
  all_goals (simp only [lcm3_0] at *)
  · exact h0 (by omega)
  · exact h1 (by omega) (by omega)
  · exact h2 (by omega) (by omega) (by omega)
  · exact h3 (by omega) (by omega) (by omega) (by omega)
  · exact h4 (by omega) (by omega) (by omega) (by omega) (by omega)
  · exact h5 (by omega) (by omega) (by omega) (by omega) (by omega)
theorem sm_needs {n p a w we d : Int} {si : Nat} {F : Int → Int} {Q : Int → Int → Int → Int → Int → Prop} (hsi : si < 7) (hd : d = cd si) (hn : 0 ≤ n ∧ n ≤ 240) (ha : 0 ≤ a ∧ a ≤ n) (h : match pWord F n a si with
    | .inl x => ∀ a' w' we', 0 ≤ a' → a' ≤ n → Q x.1 x.2 a' w' we'
    | .inr b => ∀ w' we', Q 0 p b w' we') : nf_M_needs n p a w we F d Q := by
  unfold nf_M_needs
  simp only [ci_m1, ci_m10, ci_m1001, ci_m1002, ci_m1003, ci_m1004, ci_0, ci_1, ci_10, ci_100, ci_1000, ci_10000, ci_101, ci_103, ci_104, ci_105, ci_107, ci_108, ci_110, ci_111, ci_114, ci_115, ci_116, ci_118, ci_119, ci_12, ci_122, ci_1431655765, ci_15, ci_16, ci_2, ci_20, ci_23, ci_24, ci_240, ci_252645135, ci_255, ci_256, ci_3, ci_32, ci_4, ci_420, ci_48, ci_5, ci_5040, ci_57, ci_59, ci_6, ci_60, ci_63, ci_64, ci_7, ci_70, ci_8, ci_858993459, ci_9, ci_900, ci_97, ci_99, ci_999, ci_9999, cl_0, cl_1, cl_10, cl_1000000000000, cl_122, cl_2, cl_2000000000000, cl_23, cl_255, cl_27, cl_3, cl_4, cl_48, cl_57, cl_6, cl_8, cl_96, cl_97, cl_99, cl_999, cl_9999]
  have hs := sk_p (T := F) ha.2
  refine sm_word hn ha (fun w' we' hw z0 z1 => wL_i (cB_i (fun e => ?_) (fun e => sp_fails ?_)))
  · have e1 := lcm3_0.mp e
    have e2 := (hw si hsi).1.mp (by rw [e1, hd])
    rw [pWord, if_pos e2] at h
    rw [(hw si hsi).2 e2]
    exact h _ _
  · have e2 : ¬ iw F n (sk F n a) si = true := fun q => e (lcm3_0.mpr (by rw [(hw si hsi).1.mpr q, hd]))
    rw [pWord, if_neg e2] at h
    exact h _ _ _ (by omega) hs.2.1
theorem sm_num {n p a nb na lo hi : Int} {F : Int → Int} {Q : Int → Int → Int → Int → Int → Prop} (hn : 0 ≤ n ∧ n ≤ 240) (ha : 0 ≤ a ∧ a ≤ n) (hb : 0 ≤ nb ∧ nb ≤ 100009) (h : match pNum F n a lo hi with
    | .inl x => ∀ a' nb' na', 0 ≤ a' → a' ≤ n → 0 ≤ nb' → nb' ≤ 100009 → Q x.1 x.2 a' nb' na'
    | .inr y => Q 0 p y.2.2 y.1 y.2.1) : nf_M_takeNumber n p a nb na F lo hi Q := by
  unfold nf_M_takeNumber
  simp only [ci_m1, ci_m10, ci_m1001, ci_m1002, ci_m1003, ci_m1004, ci_0, ci_1, ci_10, ci_100, ci_1000, ci_10000, ci_101, ci_103, ci_104, ci_105, ci_107, ci_108, ci_110, ci_111, ci_114, ci_115, ci_116, ci_118, ci_119, ci_12, ci_122, ci_1431655765, ci_15, ci_16, ci_2, ci_20, ci_23, ci_24, ci_240, ci_252645135, ci_255, ci_256, ci_3, ci_32, ci_4, ci_420, ci_48, ci_5, ci_5040, ci_57, ci_59, ci_6, ci_60, ci_63, ci_64, ci_7, ci_70, ci_8, ci_858993459, ci_9, ci_900, ci_97, ci_99, ci_999, ci_9999, cl_0, cl_1, cl_10, cl_1000000000000, cl_122, cl_2, cl_2000000000000, cl_23, cl_255, cl_27, cl_3, cl_4, cl_48, cl_57, cl_6, cl_8, cl_96, cl_97, cl_99, cl_999, cl_9999]
  have hs := sk_p (T := F) ha.2
  have one : fg F n (sk F n a) = sk F n a → nf_M_fails p 1 (sk F n a) fun r28 z27 => Q r28 z27 (sk F n a) nb na := fun e => sp_fails (by rw [pNum, if_pos e] at h; exact h _ _ _ (by omega) hs.2.1 hb.1 hb.2)
  unfold pNum at h
  refine sm_here hn ha (fun hlt => wL_i (sp_in (cB_i (fun hd => cB_f (by decide) ?_) (fun hd => cB_t rfl (one (fg_u (Int.le_refl _) hs.2.1 (by omega) (fun _ => hd))))))) (fun hlt => wL_i (sp_in (cB_i (fun hd => by omega) (fun hd => cB_t rfl (one (fg_u (Int.le_refl _) hs.2.1 (by omega) (by omega)))))))
  clear one
  generalize sk F n a = s at *
  refine nlp2_i (fun z v => s ≤ z ∧ z ≤ n ∧ (∀ j, s ≤ j → j < z → 48 ≤ F j ∧ F j ≤ 57) ∧ (z - s ≤ 3 → v = dc F s (z - s).toNat) ∧ 0 ≤ v ∧ v ≤ 100009 ∧ (z = s → v = 0) ∧ (z = s + 1 → v ≤ 9) ∧ (z = s + 2 → v ≤ 99)) (fun z _ => (n - z).toNat) ?_ ⟨by omega, by omega, by omega, fun _ => dc_0.symm, by omega, by omega, by omega, by omega, by omega⟩
  intro z v hi self hself
  obtain ⟨i1, i2, i3, i4, i5, i6, i7, i8, i9⟩ := hi
  refine jn0_s (z < n → ¬ (48 ≤ F z ∧ F z ≤ 57)) (fun hz => ?_) ?_
  · have ne : z ≠ s := fun e => by
      rw [e] at hz
      exact hz hlt hd
    rw [fg_u i1 i2 i3 hz, if_neg ne] at h
    have two : ¬ (z - s ≤ 3 ∧ lo ≤ dc F s (z - s).toNat ∧ dc F s (z - s).toNat ≤ hi) → Q 2 s z v s := fun hq => by
      rw [if_neg hq] at h
      exact h _ _ _ (by omega) i2 i5 i6
    refine wO_i (by simp only [iR]; omega) (jn0_s (¬ (z - s ≤ 3 ∧ lo ≤ dc F s (z - s).toNat ∧ dc F s (z - s).toNat ≤ hi)) (fun hq => sp_fails (two hq)) ?_)
    refine cB_i (fun e3 => fun hq => by omega) (fun e3 => wL_i (wL_i (wL_i (sp_in (cB_i (fun e4 => cB_f (by decide) ?_) (fun e4 => cB_t rfl (fun hq => e4 ?_)))))))
    · have ev := i4 (by omega)
      rw [if_pos (by rw [← ev]; exact ⟨by omega, e4.1, e4.2⟩)] at h
      rw [← ev] at h
      exact h
    · rw [i4 hq.1]; exact hq.2
  · refine cB_i (fun _ => by omega) (fun _ => wO_i (by simp only [inb]; omega) (wL_i (sp_in (cB_i (fun hg => cB_f (by decide) ?_) (fun hg => cB_t rfl (fun _ => hg))))))
    have hfg : ∀ j, s ≤ j → j < z + 1 → 48 ≤ F j ∧ F j ≤ 57 := fun j a b => by
      by_cases e : j = z
      · rw [e]; exact hg
      · exact i3 j a (by omega)
    refine jn1_s (fun v' => 0 ≤ v' ∧ v' ≤ 100009 ∧ (z = s → v' ≤ 9) ∧ (z = s + 1 → v' ≤ 99) ∧ (z + 1 - s ≤ 3 → v' = dc F s (z + 1 - s).toNat)) (fun v' hv => wO_i (by simp only [iR]; omega) (hself _ _ ⟨by omega, by omega, hfg, hv.2.2.2.2, hv.1, hv.2.1, by omega, by omega, by omega⟩ (by omega))) ?_
    refine cB_i (fun _ => ?_) (fun _ => ⟨by omega, by omega, by omega, by omega, by omega⟩)
    refine wO_i (by simp only [iR]; omega) (wO_i (by simp only [inb]; omega) (wO_i (by simp only [iR]; omega) (wO_i (by simp only [iR]; omega) ⟨by omega, by omega, by omega, by omega, fun _ => ?_⟩)))
    rw [dc_s i1, ← i4 (by omega)]; omega
