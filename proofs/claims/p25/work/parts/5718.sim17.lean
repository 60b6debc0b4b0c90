/-! IN STEP 18: what is sure; grant -/
theorem all_c : (List.range 7).all (fun K => (List.range K).all (fun c => bit (ishl 1 (K : Int) - 1) (c : Int))) = true := by decide +kernel
theorem all_b {K c : Int} (h0 : 0 ≤ K) (h1 : K ≤ 6) (h2 : 0 ≤ c) (h3 : c < K) : bit (ishl 1 K - 1) c = true := by
  have a1 := List.all_eq_true.mp all_c K.toNat (List.mem_range.mpr (by omega))
  have a2 := List.all_eq_true.mp a1 c.toNat (List.mem_range.mpr (by omega))
  rwa [Int.toNat_of_nonneg h0, Int.toNat_of_nonneg h2] at a2
theorem so_load {n cn k : Int} {gk gm gp cg cy cz F : Int → Int} {Q : Int → (Int → Int) → Prop} (hn : 0 ≤ n ∧ n ≤ 16) (hc : 0 ≤ cn ∧ cn ≤ 6) (hcg : ∀ c, 0 ≤ c → c < cn → 0 ≤ cg c ∧ cg c < n) (h : ∀ F', (∀ c, 0 ≤ c → c < cn → ∀ t, 0 ≤ t → t < 32 → (bit (F' c) t = true ↔ fitC n gk gm gp cg cy cz c t)) → Q cn F') : nf_Matching_load n gk gm gp cn cg cy cz k F Q := by
  unfold nf_Matching_load
  simp only [ci_m1, ci_m10, ci_m1001, ci_m1002, ci_m1003, ci_m1004, ci_0, ci_1, ci_10, ci_100, ci_1000, ci_10000, ci_101, ci_103, ci_104, ci_105, ci_107, ci_108, ci_110, ci_111, ci_114, ci_115, ci_116, ci_118, ci_119, ci_12, ci_122, ci_1431655765, ci_15, ci_16, ci_2, ci_20, ci_23, ci_24, ci_240, ci_252645135, ci_255, ci_256, ci_3, ci_32, ci_4, ci_420, ci_48, ci_5, ci_5040, ci_57, ci_59, ci_6, ci_60, ci_63, ci_64, ci_7, ci_70, ci_8, ci_858993459, ci_9, ci_900, ci_97, ci_99, ci_999, ci_9999, cl_0, cl_1, cl_10, cl_1000000000000, cl_122, cl_2, cl_2000000000000, cl_23, cl_255, cl_27, cl_3, cl_4, cl_48, cl_57, cl_6, cl_8, cl_96, cl_97, cl_99, cl_999, cl_9999]
  refine wL_i ?_
  have e : imin cn 6 = cn := by unfold imin; split <;> omega
  rw [e]
  refine nlp2_i (fun c F' => 0 ≤ c ∧ c ≤ cn ∧ ∀ j, 0 ≤ j → j < c → ∀ t, 0 ≤ t → t < 32 → (bit (F' j) t = true ↔ fitC n gk gm gp cg cy cz j t)) (fun c _ => (cn - c).toNat) ?_ ⟨by omega, by omega, by omega⟩
  intro c F1 hi self hself
  obtain ⟨i1, i2, i3⟩ := hi
  refine cB_i (fun _ => h _ (fun j j0 j1 => i3 j j0 (by omega))) (fun _ => so_thingsFor hn ⟨i1, by omega, by omega⟩ (hcg c i1 (by omega)) (fun r _ hr => wO_i (by simp only [inb]; omega) (wO_i (by simp only [iR]; omega) (hself _ _ ⟨by omega, by omega, fun j j0 j1 => ?_⟩ (by omega)))))
  by_cases e2 : j = c
  · rw [e2, ups_s]; exact hr
  · rw [ups_n e2]; exact i3 j j0 (by omega)
def aw (K : Nat) (f : Int → Int → Bool) (c : Int) (t : Int) : Int := if f c t = true then ww K (fo f c t) 16 (ishl 1 (K : Int) - 1) else 0
def onS (K : Nat) (f : Int → Int → Bool) (c r : Int) : Prop :=
  (r = -1 ∧ (ww K f 16 (ishl 1 (K : Int) - 1) = 0 ∨ (∀ t, 0 ≤ t → t < 16 → aw K f c t = 0) ∨ ∃ t1 t2, 0 ≤ t1 ∧ t1 < 16 ∧ 0 ≤ t2 ∧ t2 < 16 ∧ t1 ≠ t2 ∧ aw K f c t1 ≠ 0 ∧ aw K f c t2 ≠ 0)) ∨ (0 ≤ r ∧ r < 16 ∧ ww K f 16 (ishl 1 (K : Int) - 1) ≠ 0 ∧ aw K f c r ≠ 0 ∧ ∀ t, 0 ≤ t → t < 16 → t ≠ r → aw K f c t = 0)
theorem so_only {k c : Int} {F W : Int → Int} {Q : Int → (Int → Int) → (Int → Int) → Prop} (hk : 0 ≤ k ∧ k ≤ 6) (hc : 0 ≤ c ∧ c < k) (h : ∀ r F' W', onS k.toNat (fun c t => bit (F c) t) c r → Q r F' W') : nf_Matching_onlyThingOf k F W c Q := by
  unfold nf_Matching_onlyThingOf
  simp only [ci_m1, ci_m10, ci_m1001, ci_m1002, ci_m1003, ci_m1004, ci_0, ci_1, ci_10, ci_100, ci_1000, ci_10000, ci_101, ci_103, ci_104, ci_105, ci_107, ci_108, ci_110, ci_111, ci_114, ci_115, ci_116, ci_118, ci_119, ci_12, ci_122, ci_1431655765, ci_15, ci_16, ci_2, ci_20, ci_23, ci_24, ci_240, ci_252645135, ci_255, ci_256, ci_3, ci_32, ci_4, ci_420, ci_48, ci_5, ci_5040, ci_57, ci_59, ci_6, ci_60, ci_63, ci_64, ci_7, ci_70, ci_8, ci_858993459, ci_9, ci_900, ci_97, ci_99, ci_999, ci_9999, cl_0, cl_1, cl_10, cl_1000000000000, cl_122, cl_2, cl_2000000000000, cl_23, cl_255, cl_27, cl_3, cl_4, cl_48, cl_57, cl_6, cl_8, cl_96, cl_97, cl_99, cl_999, cl_9999]
  have ek : ((k.toNat : Nat) : Int) = k := by omega
  generalize hf : (fun c t => bit (F c) t) = f at h
  refine wO_i (by simp only [iR]; omega) (sp_within (cB_i (fun _ => cB_f (by decide) ?_) (fun a => absurd ⟨by omega, by omega⟩ a)))
  refine so_number hk (fun W1 => ?_)
  rw [hf]
  refine wL_i (cB_i (fun e => h _ _ _ (Or.inl ⟨rfl, Or.inl (by rw [ek]; exact lcm3_0.mp e)⟩)) (fun e => wO_i (by simp only [inb]; omega) ?_))
  have hA : ww k.toNat f 16 (ishl 1 k - 1) ≠ 0 := fun q => e (lcm3_0.mpr q)
  refine nlp4_i (fun o t F' _ => 0 ≤ t ∧ t ≤ 16 ∧ (∀ j, j ≠ c → F' j = F j) ∧ ((o = -1 ∧ ∀ q, 0 ≤ q → q < t → aw k.toNat f c q = 0) ∨ (0 ≤ o ∧ o < t ∧ aw k.toNat f c o ≠ 0 ∧ ∀ q, 0 ≤ q → q < t → q ≠ o → aw k.toNat f c q = 0))) (fun _ t _ _ => (16 - t).toNat) ?_ ⟨by omega, by omega, fun _ _ => rfl, Or.inl ⟨rfl, by omega⟩⟩
  intro o t F2 W2 hi self hself
  obtain ⟨i1, i2, i3, i4⟩ := hi
  refine cB_i (fun _ => h _ _ _ ?_) (fun _ => wL_i (wL_i ?_))
  · have e16 : t = 16 := by omega
    subst e16
    rcases i4 with ⟨o1, o2⟩ | ⟨o1, o2, o3, o4⟩
    · exact Or.inl ⟨o1, Or.inr (Or.inl o2)⟩
    · exact Or.inr ⟨o1, o2, by rw [ek]; exact hA, o3, o4⟩
  · have hft : f c t = bit (F c) t := by rw [← hf]
    have bt0 := bt (x := F c) i1 (show t < 32 by omega)
    refine jn3_s (fun o' F' _ => (∀ j, j ≠ c → F' j = F j) ∧ ((o' = -1 ∧ ∀ q, 0 ≤ q → q < t + 1 → aw k.toNat f c q = 0) ∨ (0 ≤ o' ∧ o' < t + 1 ∧ aw k.toNat f c o' ≠ 0 ∧ ∀ q, 0 ≤ q → q < t + 1 → q ≠ o' → aw k.toNat f c q = 0))) (fun o' F' W' ho => wO_i (by simp only [iR]; omega) (hself _ _ _ _ ⟨by omega, by omega, ho.1, ho.2⟩ (by omega))) ?_
    have skip : aw k.toNat f c t = 0 → ((o = -1 ∧ ∀ q, 0 ≤ q → q < t + 1 → aw k.toNat f c q = 0) ∨ (0 ≤ o ∧ o < t + 1 ∧ aw k.toNat f c o ≠ 0 ∧ ∀ q, 0 ≤ q → q < t + 1 → q ≠ o → aw k.toNat f c q = 0)) := fun z => by
      rcases i4 with ⟨o1, o2⟩ | ⟨o1, o2, o3, o4⟩
      · refine Or.inl ⟨o1, fun q q0 q1 => ?_⟩
        by_cases eq : q = t
        · rw [eq]; exact z
        · exact o2 q q0 (by omega)
      · refine Or.inr ⟨o1, by omega, o3, fun q q0 q1 q2 => ?_⟩
        by_cases eq : q = t
        · rw [eq]; exact z
        · exact o4 q q0 (by omega) q2
    refine cB_i (fun e1 => ⟨i3, skip ?_⟩) (fun e1 => wL_i (wO_i (by simp only [inb]; omega) (so_number hk (fun W3 => ?_))))
    · unfold aw
      rw [hft]
      have hb : ¬ bit (F c) t = true := fun q => by rw [bt0, if_pos q] at e1; omega
      rw [if_neg hb]
    · have hb : f c t = true := by
        rw [hft]
        cases hbb : bit (F c) t
        · rw [bt0, hbb] at e1; exact absurd rfl e1
        · rfl
      have i3' : ∀ j, j ≠ c → ups F2 c (ishl 1 t) j = F j := fun j hj => by rw [ups_n hj]; exact i3 j hj
      have ew : ww k.toNat (fun c' t' => bit (ups F2 c (ishl 1 t) c') t') 16 (ishl 1 k - 1) = aw k.toNat f c t := by
        unfold aw
        rw [if_pos hb, ek]
        refine ww_e (by omega) 16 (fun j t' hj ht' => ?_) _
        unfold fo
        by_cases ej : (j : Int) = c
        · rw [if_pos ej, ej, ups_s, bt_shl i1 (by omega) (by omega) (by omega)]
          by_cases et : t = t'
          · rw [decide_eq_true et, decide_eq_true et.symm]
          · rw [decide_eq_false et, decide_eq_false (fun q => et q.symm)]
        · rw [if_neg ej, i3' _ ej, ← hf]
      rw [ew]
      refine wL_i (cB_i (fun e2 => ⟨i3', skip (lcm3_0.mp e2)⟩) (fun e2 => ?_))
      have hz : aw k.toNat f c t ≠ 0 := fun q => e2 (lcm3_0.mpr q)
      rcases i4 with ⟨o1, o2⟩ | ⟨o1, o2, o3, o4⟩
      · refine cB_t o1 ⟨i3', Or.inr ⟨i1, by omega, hz, fun q q0 q1 q2 => o2 q q0 (by omega)⟩⟩
      · exact cB_f (by omega) (h _ _ _ (Or.inl ⟨rfl, Or.inr (Or.inr ⟨o, t, o1, by omega, i1, by omega, by omega, o3, hz⟩)⟩))
def suS (K gu : Nat) (f : Int → Int → Bool) (c r : Int) : Prop :=
  (r = -1 ∧ (ww K f gu (ishl 1 (K : Int) - 1) ≤ 0 ∨ ∀ t : Int, 0 ≤ t → t < gu → ¬ (f c t = true ∧ ww K (fa f c t) gu (ishl 1 (K : Int) - 1) = ww K f gu (ishl 1 (K : Int) - 1)))) ∨ (0 ≤ r ∧ r < gu ∧ 0 < ww K f gu (ishl 1 (K : Int) - 1) ∧ f c r = true ∧ ww K (fa f c r) gu (ishl 1 (K : Int) - 1) = ww K f gu (ishl 1 (K : Int) - 1))
theorem sm_sureOf {pg gu cl c : Int} {f : Int → Int → Bool} {pk hg ki mk cg cy cn wt : Int → Int} {Q : Int → (Int → Int) → Prop} (hpg : 0 ≤ pg ∧ pg ≤ 24) (hgu : 0 ≤ gu ∧ gu ≤ 16) (hcl : 0 ≤ cl ∧ cl ≤ 6) (hh : ∀ p, 0 ≤ p → p < 24 → -1 ≤ hg p ∧ hg p < 16) (hcg : ∀ c, 0 ≤ c → c < 6 → 0 ≤ cg c ∧ cg c < 16) (hf : ∀ k t, 0 ≤ k → k < cl → 0 ≤ t → t < 16 → (f k t = true ↔ fitM pg pk hg mk (ki (cg k)) (cy k) (cn k) t)) (hc : 0 ≤ c ∧ c < cl) (h : ∀ r wt', suS cl.toNat gu.toNat f c r → Q r wt') : nf_M_sureOf pg gu cl pk hg ki mk cg cy cn wt c Q := by
  unfold nf_M_sureOf
  simp only [ci_m1, ci_m10, ci_m1001, ci_m1002, ci_m1003, ci_m1004, ci_0, ci_1, ci_10, ci_100, ci_1000, ci_10000, ci_101, ci_103, ci_104, ci_105, ci_107, ci_108, ci_110, ci_111, ci_114, ci_115, ci_116, ci_118, ci_119, ci_12, ci_122, ci_1431655765, ci_15, ci_16, ci_2, ci_20, ci_23, ci_24, ci_240, ci_252645135, ci_255, ci_256, ci_3, ci_32, ci_4, ci_420, ci_48, ci_5, ci_5040, ci_57, ci_59, ci_6, ci_60, ci_63, ci_64, ci_7, ci_70, ci_8, ci_858993459, ci_9, ci_900, ci_97, ci_99, ci_999, ci_9999, cl_0, cl_1, cl_10, cl_1000000000000, cl_122, cl_2, cl_2000000000000, cl_23, cl_255, cl_27, cl_3, cl_4, cl_48, cl_57, cl_6, cl_8, cl_96, cl_97, cl_99, cl_999, cl_9999]
  have ek : ((cl.toNat : Nat) : Int) = cl := by omega
  refine sm_waysWith hpg hgu hcl hh hcg hf (fun W1 => ?_)
  have e1 : ww cl.toNat (fx f (-1) (-1)) gu.toNat (ishl 1 cl - 1) = ww cl.toNat f gu.toNat (ishl 1 cl - 1) := ww_e (by omega) _ (fun j t _ _ => by unfold fx; simp) _
  rw [e1]
  have hfa : ∀ t, ww cl.toNat (fx f c t) gu.toNat (ishl 1 cl - 1) = ww cl.toNat (fa f c t) gu.toNat (ishl 1 cl - 1) := fun t => ww_e (by omega) _ (fun j t' _ _ => by unfold fx fa; rw [decide_eq_false (show ¬ c < 0 by omega)]; rfl) _
  generalize hA : ww cl.toNat f gu.toNat (ishl 1 cl - 1) = A
  have fin : ∀ o g W', (A ≤ 0 ∧ o = -1) ∨ (g = gu ∧ ((o = -1 ∧ ∀ q, 0 ≤ q → q < g → ¬ (f c q = true ∧ ww cl.toNat (fa f c q) gu.toNat (ishl 1 cl - 1) = A)) ∨ (0 ≤ o ∧ o < g ∧ 0 < A ∧ f c o = true ∧ ww cl.toNat (fa f c o) gu.toNat (ishl 1 cl - 1) = A))) → Q o W' := fun o g W' q => h _ _ (by
    unfold suS
    rw [ek, hA]
    rcases q with ⟨q1, q2⟩ | ⟨q1, q2 | q2⟩
    · exact Or.inl ⟨q2, Or.inl q1⟩
    · exact Or.inl ⟨q2.1, Or.inr (fun t t0 t1 => q2.2 t t0 (by omega))⟩
    · exact Or.inr ⟨q2.1, by omega, q2.2.2.1, q2.2.2.2.1, q2.2.2.2.2⟩)
  refine nlp3_i (fun o g _ => 0 ≤ g ∧ g ≤ gu ∧ (A ≤ 0 → o = -1) ∧ ((o = -1 ∧ ∀ q, 0 ≤ q → q < g → ¬ (f c q = true ∧ ww cl.toNat (fa f c q) gu.toNat (ishl 1 cl - 1) = A)) ∨ (0 ≤ o ∧ o < g ∧ 0 < A ∧ f c o = true ∧ ww cl.toNat (fa f c o) gu.toNat (ishl 1 cl - 1) = A))) (fun _ g _ => (gu - g).toNat) ?_ ⟨by omega, by omega, fun _ => rfl, Or.inl ⟨rfl, by omega⟩⟩
  intro o g W2 hi self hself
  obtain ⟨i1, i2, i0, i3⟩ := hi
  have l3 : lcm3 A 0 ≤ 0 ↔ A ≤ 0 := by
    unfold lcm3
    split
    · omega
    · split <;> omega
  refine cB_i (fun _ => fin o g W2 (Or.inr ⟨by omega, i3⟩)) (fun _ => wL_i (cB_i (fun e => fin o g W2 (Or.inl ⟨l3.mp e, i0 (l3.mp e)⟩)) (fun e => sm_fitsOf hpg hh hcg ⟨hc.1, by omega⟩ (fun r _ hr => wL_i (wL_i ?_)))))
  have hA0 : 0 < A := by
    rcases Int.lt_or_le 0 A with z | z
    · exact z
    · exact absurd (l3.mpr z) e
  have hfg : bit r g = true ↔ f c g = true := (hr g i1 (by omega)).trans (hf c g hc.1 hc.2 i1 (by omega)).symm
  refine jn2_s (fun _ t => (t = 0 ∧ ¬ (f c g = true ∧ ww cl.toNat (fa f c g) gu.toNat (ishl 1 cl - 1) = A)) ∨ (t = 1 ∧ f c g = true ∧ ww cl.toNat (fa f c g) gu.toNat (ishl 1 cl - 1) = A)) (fun W' t ht => ?_) ?_
  · refine jn1_s (fun o' => (o' = -1 ∧ ∀ q, 0 ≤ q → q < g + 1 → ¬ (f c q = true ∧ ww cl.toNat (fa f c q) gu.toNat (ishl 1 cl - 1) = A)) ∨ (0 ≤ o' ∧ o' < g + 1 ∧ 0 < A ∧ f c o' = true ∧ ww cl.toNat (fa f c o') gu.toNat (ishl 1 cl - 1) = A)) (fun o' ho => wO_i (by simp only [iR]; omega) (hself _ _ _ ⟨by omega, by omega, fun z => by omega, ho⟩ (by omega))) (cB_i (fun e2 => ?_) (fun e2 => ?_))
    · have ng : ¬ (f c g = true ∧ ww cl.toNat (fa f c g) gu.toNat (ishl 1 cl - 1) = A) := by
        rcases ht with ⟨_, q⟩ | ⟨q, _⟩
        · exact q
        · omega
      rcases i3 with ⟨o1, o2⟩ | ⟨o1, o2, o3⟩
      · refine Or.inl ⟨o1, fun q q0 q1 => ?_⟩
        by_cases eq : q = g
        · rw [eq]; exact ng
        · exact o2 q q0 (by omega)
      · exact Or.inr ⟨o1, by omega, o3⟩
    · rcases ht with ⟨q, _⟩ | ⟨_, q1, q2⟩
      · exact absurd q e2
      · exact Or.inr ⟨i1, by omega, hA0, q1, q2⟩
  · refine jn1_s (fun _ => ¬ (f c g = true ∧ ww cl.toNat (fa f c g) gu.toNat (ishl 1 cl - 1) = A)) (fun z hz => Or.inl ⟨rfl, hz⟩) (cB_i (fun e2 => sm_waysWith hpg hgu hcl hh hcg hf (fun W3 => ?_)) (fun e2 => fun q => e2 ((bt1 i1 (by omega)).mpr (hfg.mpr q.1))))
    rw [hfa]
    have q1 := hfg.mp ((bt1 i1 (by omega)).mp e2)
    exact wL_i (cB_i (fun e3 => Or.inr ⟨rfl, q1, lcm3_0.mp e3⟩) (fun e3 => fun q => e3 (lcm3_0.mpr q.2)))
theorem su_on {K gu : Nat} {f : Int → Int → Bool} {c r r' : Int} (hK : K ≤ 6) (hgu : gu ≤ 16) (hc : 0 ≤ c ∧ c < K) (hz : ∀ k t : Nat, k < K → gu ≤ t → f k t = false) (h1 : onS K f c r) (h2 : suS K gu f c r') : r = r' := by
  have hall := all_b (K := (K : Int)) (c := c) (by omega) (by omega) hc.1 hc.2
  have eA := ww_up (f := f) hK 16 hgu hz (ishl 1 (K : Int) - 1)
  have hzt : ∀ t : Int, 0 ≤ t → f c t = true → t < gu := fun t t0 q => by
    rcases Int.lt_or_le t gu with z | z
    · exact z
    · have := hz c.toNat t.toNat (by omega) (by omega)
      rw [Int.toNat_of_nonneg hc.1, Int.toNat_of_nonneg t0] at this
      rw [this] at q; exact absurd q (by decide)
  have eb : ∀ t : Int, 0 ≤ t → f c t = true → ww K (fa f c t) gu (ishl 1 (K : Int) - 1) = aw K f c t := fun t t0 q => by
    have tl := hzt t t0 q
    unfold aw
    rw [if_pos q]
    have e1 := ww_oa (K := K) (f := f) (c := c) t.toNat hK hc (by rw [Int.toNat_of_nonneg t0]; exact q) gu (ishl 1 (K : Int) - 1) hall
    rw [Int.toNat_of_nonneg t0] at e1
    rw [← e1]
    refine (ww_up (f := fo f c t) hK 16 hgu (fun k t' hk ht' => ?_) _).symm
    unfold fo
    by_cases e : (k : Int) = c
    · rw [if_pos e]; exact decide_eq_false (by omega)
    · rw [if_neg e]; exact hz k t' hk ht'
  have hsum := ww_sum (f := f) hK hc 16 (ishl 1 (K : Int) - 1) hall
  have hs2 : ww K f 16 (ishl 1 (K : Int) - 1) = sumN (fun t => aw K f c t) 16 := hsum
  have an : ∀ t, 0 ≤ aw K f c t := fun t => by
    unfold aw
    split
    · exact ww_n _ _ _ _
    · exact Int.le_refl _
  have af : ∀ t, aw K f c t ≠ 0 → f c t = true := fun t q => by
    unfold aw at q
    by_cases e : f c t = true
    · exact e
    · rw [if_neg e] at q; exact absurd rfl q
  have two : ∀ t1 t2, 0 ≤ t1 → t1 < 16 → 0 ≤ t2 → t2 < 16 → t1 ≠ t2 → aw K f c t1 + aw K f c t2 ≤ ww K f 16 (ishl 1 (K : Int) - 1) := fun t1 t2 a b c' d e => by
    have := sumN_le2 (f := fun t => aw K f c t) (n := 16) (fun k _ => an k) (i := t1.toNat) (j := t2.toNat) (by omega) (by omega) (by omega)
    rw [Int.toNat_of_nonneg a, Int.toNat_of_nonneg c'] at this
    rw [hs2]; exact this
  rcases h1 with ⟨a1, a2⟩ | ⟨a1, a2, a3, a4, a5⟩
  · rcases h2 with ⟨b1, _⟩ | ⟨b1, b2, b3, b4, b5⟩
    · rw [a1, b1]
    · exfalso
      rw [eb r' b1 b4, ← eA] at b5
      rw [← eA] at b3
      rcases a2 with a2 | a2 | ⟨t1, t2, c1, c2, c3, c4, c5, c6, c7⟩
      · omega
      · have := a2 r' b1 (by omega)
        omega
      · have n1 := an t1
        have n2 := an t2
        by_cases e : t1 = r'
        · have := two r' t2 b1 (by omega) c3 c4 (by omega)
          omega
        · have := two r' t1 b1 (by omega) c1 c2 (by omega)
          omega
  · have hA : ww K f 16 (ishl 1 (K : Int) - 1) = aw K f c r := by
      rw [hs2, sumN_one (j := r.toNat) (by omega) (fun k hk e => a5 k (by omega) (by omega) (by omega)), Int.toNat_of_nonneg a1]
    have fr := af r a4
    have rl := hzt r a1 fr
    rcases h2 with ⟨b1, b2⟩ | ⟨b1, b2, b3, b4, b5⟩
    · exfalso
      rcases b2 with b2 | b2
      · have := an r
        rw [← eA] at b2
        omega
      · exact b2 r a1 rl ⟨fr, by rw [eb r a1 fr, ← eA, hA]⟩
    · rw [eb r' b1 b4, ← eA] at b5
      by_cases e : r' = r
      · exact e.symm
      · have := a5 r' b1 (by omega) e
        omega
