/-! IN STEP 15: claims; what fits -/
abbrev cV (gn x1 x2 x3 : Int) : Prop := (0 ≤ x2 ∧ x2 ≤ 255) ∧ (0 ≤ x3 ∧ x3 ≤ 255) ∧ iand x2 x3 = 0
def dC (cn : Int) (gb gh cg : Int → Int) (x1 : Int) : Prop := gb x1 = -1 ∧ gh x1 = -1 ∧ ∀ c, 0 ≤ c → c < cn → cg c ≠ x1
theorem so_Hclaim {gn cn x1 x2 x3 : Int} {gb gh cg cy cz : Int → Int} {Q : Int → Int → (Int → Int) → (Int → Int) → (Int → Int) → Prop} (hg : 0 ≤ gn ∧ gn ≤ 16) (hCn : 0 ≤ cn ∧ cn ≤ 6) (h0 : ¬ (0 ≤ x1 ∧ x1 < gn) → Q (-1001) cn cg cy cz) (h1 : 0 ≤ x1 ∧ x1 < gn → ¬ cV gn x1 x2 x3 → Q (-1002) cn cg cy cz) (h2 : 0 ≤ x1 ∧ x1 < gn → cV gn x1 x2 x3 → ¬ dC cn gb gh cg x1 → Q (-1003) cn cg cy cz) (h3 : 0 ≤ x1 ∧ x1 < gn → cV gn x1 x2 x3 → dC cn gb gh cg x1 → cn = 6 → Q (-1004) cn cg cy cz) (h4 : 0 ≤ x1 ∧ x1 < gn → cV gn x1 x2 x3 → dC cn gb gh cg x1 → cn < 6 → Q cn (cn + 1) (ups cg cn x1) (ups cy cn x2) (ups cz cn x3)) : nf_H_claim gn gb gh cn cg cy cz x1 x2 x3 Q := by
  unfold nf_H_claim nf_Claims_add
  simp only [ci_m1, ci_m10, ci_m1001, ci_m1002, ci_m1003, ci_m1004, ci_0, ci_1, ci_10, ci_100, ci_1000, ci_10000, ci_101, ci_103, ci_104, ci_105, ci_107, ci_108, ci_110, ci_111, ci_114, ci_115, ci_116, ci_118, ci_119, ci_12, ci_122, ci_1431655765, ci_15, ci_16, ci_2, ci_20, ci_23, ci_24, ci_240, ci_252645135, ci_255, ci_256, ci_3, ci_32, ci_4, ci_420, ci_48, ci_5, ci_5040, ci_57, ci_59, ci_6, ci_60, ci_63, ci_64, ci_7, ci_70, ci_8, ci_858993459, ci_9, ci_900, ci_97, ci_99, ci_999, ci_9999, cl_0, cl_1, cl_10, cl_1000000000000, cl_122, cl_2, cl_2000000000000, cl_23, cl_255, cl_27, cl_3, cl_4, cl_48, cl_57, cl_6, cl_8, cl_96, cl_97, cl_99, cl_999, cl_9999]
  refine sp_knows (cB_i (fun a1 => cB_f (by decide) ?_) (fun a1 => cB_t rfl (h0 (fun v => a1 ⟨v.1, v.2, by omega⟩))))
  have u : 0 ≤ x1 ∧ x1 < gn := ⟨a1.1, a1.2.1⟩
  refine sp_within (cB_i (fun a2 => cB_f (by decide) ?_) (fun a => cB_t rfl (h1 u (fun v => a v.1))))
  refine sp_within (cB_i (fun a3 => cB_f (by decide) ?_) (fun a => cB_t rfl (h1 u (fun v => a v.2.1))))
  have ig : inb x1 16 := by simp only [inb]; omega
  refine wL_i (cB_i (fun a4 => ?_) (fun a => h1 u (fun v => a v.2.2)))
  have v : cV gn x1 x2 x3 := ⟨a2, a3, a4⟩
  refine wO_i ig (cB_i (fun e1 => wO_i ig (cB_i (fun e2 => ?_) (fun e => h2 u v (fun q => e q.2.1)))) (fun e => h2 u v (fun q => e q.1)))
  refine sp_isOf hCn (fun e => cB_f (by decide) (h2 u v (fun q => by obtain ⟨c, c0, c1, c2⟩ := e; exact q.2.2 c c0 c1 c2))) (fun e3 => cB_t rfl ?_)
  refine cB_i (fun _ => cB_f (by omega) (cB_t (by omega) ?_)) (fun _ => h3 u v ⟨e1, e2, e3⟩ (by omega))
  have ic : inb cn 6 := by simp only [inb]; omega
  exact wO_i ic (wO_i ic (wO_i ic (wO_i (by simp only [iR]; omega) (h4 u v ⟨e1, e2, e3⟩ (by omega)))))
def dM (cl : Int) (br ha mg : Int → Int) (x1 : Int) : Prop := br x1 < 0 ∧ ha x1 < 0 ∧ ∀ c, 0 ≤ c → c < cl → mg c ≠ x1
theorem sm_claim {gu cl x1 x2 x3 : Int} {br ha mg my mz : Int → Int} {Q : Int → Int → (Int → Int) → (Int → Int) → (Int → Int) → Prop} (hg : 0 ≤ gu ∧ gu ≤ 16) (hCn : 0 ≤ cl ∧ cl ≤ 6) (h0 : ¬ (0 ≤ x1 ∧ x1 < gu) → Q (-1001) cl mg my mz) (h1 : 0 ≤ x1 ∧ x1 < gu → ¬ cV gu x1 x2 x3 → Q (-1002) cl mg my mz) (h2 : 0 ≤ x1 ∧ x1 < gu → cV gu x1 x2 x3 → ¬ dM cl br ha mg x1 → Q (-1003) cl mg my mz) (h3 : 0 ≤ x1 ∧ x1 < gu → cV gu x1 x2 x3 → dM cl br ha mg x1 → cl = 6 → Q (-1004) cl mg my mz) (h4 : 0 ≤ x1 ∧ x1 < gu → cV gu x1 x2 x3 → dM cl br ha mg x1 → cl < 6 → Q cl (cl + 1) (ups mg cl x1) (ups my cl x2) (ups mz cl x3)) : nf_M_claim gu cl br ha mg my mz x1 x2 x3 Q := by
  unfold nf_M_claim
  simp only [ci_m1, ci_m10, ci_m1001, ci_m1002, ci_m1003, ci_m1004, ci_0, ci_1, ci_10, ci_100, ci_1000, ci_10000, ci_101, ci_103, ci_104, ci_105, ci_107, ci_108, ci_110, ci_111, ci_114, ci_115, ci_116, ci_118, ci_119, ci_12, ci_122, ci_1431655765, ci_15, ci_16, ci_2, ci_20, ci_23, ci_24, ci_240, ci_252645135, ci_255, ci_256, ci_3, ci_32, ci_4, ci_420, ci_48, ci_5, ci_5040, ci_57, ci_59, ci_6, ci_60, ci_63, ci_64, ci_7, ci_70, ci_8, ci_858993459, ci_9, ci_900, ci_97, ci_99, ci_999, ci_9999, cl_0, cl_1, cl_10, cl_1000000000000, cl_122, cl_2, cl_2000000000000, cl_23, cl_255, cl_27, cl_3, cl_4, cl_48, cl_57, cl_6, cl_8, cl_96, cl_97, cl_99, cl_999, cl_9999]
  refine sp_isGuest hg (cB_i (fun u => cB_f (by decide) ?_) (fun a1 => cB_t rfl (h0 a1)))
  refine wL_i (sp_in (cB_i (fun a2 => cB_f (by decide) ?_) (fun a => cB_t rfl (h1 u (fun v => a v.1)))))
  refine wL_i (sp_in (cB_i (fun a3 => cB_f (by decide) ?_) (fun a => cB_t rfl (h1 u (fun v => a v.2.1)))))
  have ig : inb x1 16 := by simp only [inb]; omega
  refine wL_i (cB_i (fun a4 => ?_) (fun a => h1 u (fun v => a v.2.2)))
  have v : cV gu x1 x2 x3 := ⟨a2, a3, a4⟩
  refine wO_i ig (cB_i (fun e => h2 u v (fun q => by have := q.1; omega)) (fun e1 => wO_i ig (cB_i (fun e => h2 u v (fun q => by have := q.2.1; omega)) (fun e2 => ?_))))
  refine sm_hasClaim hCn (fun e => cB_f (by decide) (h2 u v (fun q => by obtain ⟨c, c0, c1, c2⟩ := e; exact q.2.2 c c0 c1 c2))) (fun e3 => cB_t rfl ?_)
  refine cB_i (fun e => h3 u v ⟨by omega, by omega, e3⟩ e) (fun _ => ?_)
  have ic : inb cl 6 := by simp only [inb]; omega
  refine wO_i ic (wO_i ic (wO_i ic (wO_i (by simp only [iR]; omega) (wO_i (by simp only [iR]; omega) ?_))))
  rw [show cl + 1 - 1 = cl by omega]
  exact h4 u v ⟨by omega, by omega, e3⟩ (by omega)
theorem sim_claim {pg gn en cn nn gu ev cl ni x1 x2 x3 : Int} {pk gs gk gt gm gb gp gh ef cg cy cz nl so ki ti mk br ha hb hg er mg my mz pl we le : Int → Int} {K : Int → Int → (Int → Int) → (Int → Int) → (Int → Int) → Int → Int → (Int → Int) → (Int → Int) → (Int → Int) → Prop} (hm : mF gu ev cl ni so ti ha hb hg er mg le) (hs : RS pg pk gn gs gk gt gm gb gp gh en ef cn cg cy cz nn nl gu so ki ti mk br ha hb hg ev er cl mg my mz ni pl we le) (h : ∀ r cn' cg' cy' cz' cl' mg' my' mz', (0 ≤ cn' ∧ cn' ≤ 6) → mF gu ev cl' ni so ti ha hb hg er mg' le → RS pg pk gn gs gk gt gm gb gp gh en ef cn' cg' cy' cz' nn nl gu so ki ti mk br ha hb hg ev er cl' mg' my' mz' ni pl we le → K r cn' cg' cy' cz' r cl' mg' my' mz') : nf_H_claim gn gb gh cn cg cy cz x1 x2 x3 fun r a1 a2 a3 a4 => nf_M_claim gu cl br ha mg my mz x1 x2 x3 fun r' b1 b2 b3 b4 => K r a1 a2 a3 a4 r' b1 b2 b3 b4 := by
  have hs0 := hs
  have hgu : 0 ≤ gu ∧ gu ≤ 16 := ⟨hm.1.1, hm.1.2.1⟩
  have hCl := hm.2.2.1
  obtain ⟨⟨rfl, rfl, rfl, rfl⟩, G, P, E, F, C, N⟩ := hs
  have same := fun r => h r _ _ _ _ _ _ _ _ hCl hm hs0
  have vv : 0 ≤ x1 ∧ x1 < gn → (dC cn gb gh cg x1 ↔ dM cn br ha mg x1) := fun u => by
    have g1 := G x1 u.1 u.2
    have h4 := hm.1.2.2.2.1 x1 u.1 u.2
    unfold dC dM
    rw [g1.1.2.2.2.2.1, g1.1.2.2.2.2.2]
    exact ⟨fun q => ⟨by omega, by omega, fun c c0 c1 => by rw [← (C c c0 c1).1.1]; exact q.2.2 c c0 c1⟩, fun q => ⟨by omega, by omega, fun c c0 c1 => by rw [(C c c0 c1).1.1]; exact q.2.2 c c0 c1⟩⟩
  refine so_Hclaim hgu hCl (fun u => sm_claim hgu hCl (fun _ => same _) (fun w => absurd w u) (fun w => absurd w u) (fun w => absurd w u) (fun w => absurd w u)) (fun u v => sm_claim hgu hCl (fun w => absurd u w) (fun _ _ => same _) (fun _ w => absurd w v) (fun _ w => absurd w v) (fun _ w => absurd w v)) (fun u v zc => sm_claim hgu hCl (fun w => absurd u w) (fun _ w => absurd v w) (fun _ _ _ => same _) (fun _ _ w => absurd ((vv u).mpr w) zc) (fun _ _ w => absurd ((vv u).mpr w) zc)) (fun u v zc zd => sm_claim hgu hCl (fun w => absurd u w) (fun _ w => absurd v w) (fun _ _ w => absurd ((vv u).mp zc) w) (fun _ _ _ _ => same _) (fun _ _ _ w => by omega)) (fun u v zc zd => sm_claim hgu hCl (fun w => absurd u w) (fun _ w => absurd v w) (fun _ _ w => absurd ((vv u).mp zc) w) (fun _ _ _ w => by omega) (fun _ _ c2 _ => ?_))
  refine h _ _ _ _ _ _ _ _ _ ⟨by omega, by omega⟩ ⟨hm.1, hm.2.1, ⟨by omega, by omega⟩, hm.2.2.2.1, hm.2.2.2.2.1, fun c c0 c1 => ?_, hm.2.2.2.2.2.2⟩ ⟨⟨rfl, rfl, rfl, rfl⟩, G, P, E, F, fun c c0 c1 => ?_, N⟩
  · by_cases e : c = cn
    · subst e; rw [ups_s]; omega
    · rw [ups_n e]; exact hm.2.2.2.2.2.1 c c0 c1
  · by_cases e : c = cn
    · subst e
      refine ⟨⟨by rw [ups_s, ups_s], by rw [ups_s, ups_s], by rw [ups_s, ups_s]⟩, by rw [ups_s]; exact u, by rw [ups_s]; exact v.1, by rw [ups_s]; exact v.2.1⟩
    · rw [ups_n e, ups_n e, ups_n e, ups_n e, ups_n e, ups_n e]; exact C c c0 (by omega)
/-! sets of bits -/
theorem bit_x {a b : Int} (ha : iR a) (hb : iR b) (h : ∀ k, 0 ≤ k → k < 32 → bit a k = bit b k) : a = b := by
  obtain ⟨a1, a2⟩ := ha
  obtain ⟨b1, b2⟩ := hb
  have e : BitVec.ofInt 32 a = BitVec.ofInt 32 b := by
    apply BitVec.eq_of_getLsbD_eq
    intro i hi
    have := h (i : Int) (by omega) (by omega)
    unfold bit at this
    rwa [Int.toNat_natCast] at this
  have e2 := congrArg BitVec.toInt e
  rw [BitVec.toInt_ofInt, BitVec.toInt_ofInt, Int.bmod_eq_of_le (by omega) (by omega), Int.bmod_eq_of_le (by omega) (by omega)] at e2
  exact e2
theorem iR_ior {a b : Int} : iR (ior a b) := by
  unfold ior iR
  have h1 := (Int32.ofInt a ||| Int32.ofInt b).toInt_lt
  have h2 := (Int32.ofInt a ||| Int32.ofInt b).le_toInt
  omega
def fitC (gn : Int) (gk gm gp cg cy cz : Int → Int) (c t : Int) : Prop := 0 ≤ t ∧ t < gn ∧ gp t ≠ -1 ∧ gk t = gk (cg c) ∧ iand (cy c) (ixor (gm t) (-1)) = 0 ∧ iand (cz c) (gm t) = 0
theorem so_thingsFor {n cn c : Int} {gk gm gp cg cy cz : Int → Int} {Q : Int → Prop} (hn : 0 ≤ n ∧ n ≤ 16) (hc : 0 ≤ c ∧ c < cn ∧ c < 6) (hcg : 0 ≤ cg c ∧ cg c < n) (h : ∀ r, iR r → (∀ t, 0 ≤ t → t < 32 → (bit r t = true ↔ fitC n gk gm gp cg cy cz c t)) → Q r) : nf_Claims_thingsFor n gk gm gp cn cg cy cz c Q := by
  unfold nf_Claims_thingsFor
  simp only [ci_m1, ci_m10, ci_m1001, ci_m1002, ci_m1003, ci_m1004, ci_0, ci_1, ci_10, ci_100, ci_1000, ci_10000, ci_101, ci_103, ci_104, ci_105, ci_107, ci_108, ci_110, ci_111, ci_114, ci_115, ci_116, ci_118, ci_119, ci_12, ci_122, ci_1431655765, ci_15, ci_16, ci_2, ci_20, ci_23, ci_24, ci_240, ci_252645135, ci_255, ci_256, ci_3, ci_32, ci_4, ci_420, ci_48, ci_5, ci_5040, ci_57, ci_59, ci_6, ci_60, ci_63, ci_64, ci_7, ci_70, ci_8, ci_858993459, ci_9, ci_900, ci_97, ci_99, ci_999, ci_9999, cl_0, cl_1, cl_10, cl_1000000000000, cl_122, cl_2, cl_2000000000000, cl_23, cl_255, cl_27, cl_3, cl_4, cl_48, cl_57, cl_6, cl_8, cl_96, cl_97, cl_99, cl_999, cl_9999]
  have ic : inb c 6 := by simp only [inb]; omega
  refine sp_cknows (cB_t hc (cB_f (by decide) (wO_i ic (sp_kindOf (cB_t ⟨hcg.1, hcg.2, by omega⟩ ?_)))))
  refine nlp2_i (fun s i => 0 ≤ i ∧ i ≤ n ∧ iR s ∧ ∀ t, 0 ≤ t → t < 32 → (bit s t = true ↔ (t < i ∧ fitC n gk gm gp cg cy cz c t))) (fun _ i => (n - i).toNat) ?_ ⟨by omega, by omega, by simp only [iR]; omega, fun t t0 t1 => by rw [bt_0]; exact ⟨fun q => absurd q (by decide), fun q => by omega⟩⟩
  intro s i hi self hself
  obtain ⟨i1, i2, i3, i4⟩ := hi
  refine cB_i (fun _ => h s i3 (fun t t0 t1 => ?_)) (fun _ => wO_i ic (sp_marksOf (cB_t ⟨i1, by omega, by omega⟩ (wL_i (wL_i ?_)))))
  · rw [i4 t t0 t1]
    exact ⟨fun q => q.2, fun q => ⟨by have := q.2.1; omega, q⟩⟩
  · have no : ¬ fitC n gk gm gp cg cy cz c i → wO (iR (i + 1)) (i + 1) fun v15 => self s v15 := fun nf => wO_i (by simp only [iR]; omega) (hself _ _ ⟨by omega, by omega, i3, fun t t0 t1 => by
      rw [i4 t t0 t1]
      by_cases e : t = i
      · subst e; exact ⟨fun q => by omega, fun q => absurd q.2 nf⟩
      · exact ⟨fun q => ⟨by omega, q.2⟩, fun q => ⟨by omega, q.2⟩⟩⟩ (by omega))
    refine jn1_s (fun t11 => (t11 = 1 ∧ iand (cy c) (ixor (gm i) (-1)) = 0 ∧ iand (cz c) (gm i) = 0) ∨ (t11 = 0 ∧ ¬ (iand (cy c) (ixor (gm i) (-1)) = 0 ∧ iand (cz c) (gm i) = 0))) (fun t11 ht => ?_) ?_
    · refine jn1_i (cB_i (fun e => ?_) (fun e => sp_hangs (cB_i (fun e2 => cB_f (by decide) (sp_kindOf (cB_t ⟨i1, by omega, by omega⟩ (cB_i (fun e3 => wL_i (wL_i ?_)) (fun e3 => ?_))))) (fun e2 => cB_t rfl ?_))))
      · rcases ht with ⟨q, _⟩ | ⟨_, q⟩
        · omega
        · exact no (fun w => q ⟨w.2.2.2.2.1, w.2.2.2.2.2⟩)
      · have q : iand (cy c) (ixor (gm i) (-1)) = 0 ∧ iand (cz c) (gm i) = 0 := by
          rcases ht with ⟨_, q⟩ | ⟨q, _⟩
          · exact q
          · omega
        have yes : fitC n gk gm gp cg cy cz c i := ⟨i1, by omega, e2.2.2.2, e3, q.1, q.2⟩
        refine wO_i (by simp only [iR]; omega) (hself _ _ ⟨by omega, by omega, iR_ior, fun t t0 t1 => ?_⟩ (by omega))
        rw [bt_ior, bt_shl i1 (by omega) t0 t1, Bool.or_eq_true_iff, i4 t t0 t1, decide_eq_true_eq]
        constructor
        · rintro (q | q)
          · exact ⟨by omega, q.2⟩
          · rw [← q]; exact ⟨by omega, yes⟩
        · rintro ⟨q1, q2⟩
          by_cases e : i = t
          · exact Or.inr e
          · exact Or.inl ⟨by omega, q2⟩
      · exact no (fun w => e3 w.2.2.2.1)
      · exact no (fun w => e2 ⟨i1, by omega, by omega, w.2.2.1⟩)
    · refine jn0_s (¬ (iand (cy c) (ixor (gm i) (-1)) = 0 ∧ iand (cz c) (gm i) = 0)) (fun q => Or.inr ⟨rfl, q⟩) (cB_i (fun e1 => wO_i ic (sp_marksOf (cB_t ⟨i1, by omega, by omega⟩ (wL_i (cB_i (fun e2 => Or.inl ⟨rfl, e1, e2⟩) (fun e2 => fun q => e2 q.2)))))) (fun e1 => fun q => e1 q.1))
def fitM (pg : Int) (pk hg mk : Int → Int) (k y n t : Int) : Prop := ∃ p, 0 ≤ p ∧ p < pg ∧ hg p = t ∧ pk p = k ∧ iand y (ixor (mk t) (-1)) = 0 ∧ iand n (mk t) = 0
theorem sm_fitting {pg k y n : Int} {pk hg mk : Int → Int} {Q : Int → Prop} (hpg : 0 ≤ pg ∧ pg ≤ 24) (hh : ∀ p, 0 ≤ p → p < 24 → -1 ≤ hg p ∧ hg p < 16) (h : ∀ r, iR r → (∀ t, 0 ≤ t → t < 32 → (bit r t = true ↔ fitM pg pk hg mk k y n t)) → Q r) : nf_M_fitting pg pk hg mk k y n Q := by
  unfold nf_M_fitting
  simp only [ci_m1, ci_m10, ci_m1001, ci_m1002, ci_m1003, ci_m1004, ci_0, ci_1, ci_10, ci_100, ci_1000, ci_10000, ci_101, ci_103, ci_104, ci_105, ci_107, ci_108, ci_110, ci_111, ci_114, ci_115, ci_116, ci_118, ci_119, ci_12, ci_122, ci_1431655765, ci_15, ci_16, ci_2, ci_20, ci_23, ci_24, ci_240, ci_252645135, ci_255, ci_256, ci_3, ci_32, ci_4, ci_420, ci_48, ci_5, ci_5040, ci_57, ci_59, ci_6, ci_60, ci_63, ci_64, ci_7, ci_70, ci_8, ci_858993459, ci_9, ci_900, ci_97, ci_99, ci_999, ci_9999, cl_0, cl_1, cl_10, cl_1000000000000, cl_122, cl_2, cl_2000000000000, cl_23, cl_255, cl_27, cl_3, cl_4, cl_48, cl_57, cl_6, cl_8, cl_96, cl_97, cl_99, cl_999, cl_9999]
  refine nlp2_i (fun s i => 0 ≤ i ∧ i ≤ pg ∧ iR s ∧ ∀ t, 0 ≤ t → t < 32 → (bit s t = true ↔ fitM i pk hg mk k y n t)) (fun _ i => (pg - i).toNat) ?_ ⟨by omega, by omega, by simp only [iR]; omega, fun t t0 t1 => by rw [bt_0]; exact ⟨fun q => absurd q (by decide), fun ⟨p, p0, p1, _⟩ => by omega⟩⟩
  intro s i hi self hself
  obtain ⟨i1, i2, i3, i4⟩ := hi
  refine cB_i (fun _ => h s i3 (fun t t0 t1 => ?_)) (fun _ => wO_i (by simp only [inb]; omega) ?_)
  · have : i = pg := by omega
    subst this
    exact i4 t t0 t1
  · have h1 := hh i i1 (by omega)
    have ih : 0 ≤ hg i → inb (hg i) 16 := fun q => by simp only [inb]; omega
    refine jn1_s (fun t5 => (t5 = 1 ∧ 0 ≤ hg i ∧ pk i = k) ∨ (t5 = 0 ∧ ¬ (0 ≤ hg i ∧ pk i = k))) (fun t5 ht5 => ?_) (jn0_s (¬ (0 ≤ hg i ∧ pk i = k)) (fun q => Or.inr ⟨rfl, q⟩) (cB_i (fun e => fun q => by omega) (fun e => wO_i (by simp only [inb]; omega) (cB_i (fun e2 => Or.inl ⟨rfl, by omega, e2⟩) (fun e2 => fun q => e2 q.2)))))
    refine jn1_s (fun t7 => t5 = 1 → t7 = mk (hg i)) (fun t7 ht7 => ?_) (cB_i (fun e => fun q => by omega) (fun e => ?_))
    · refine jn1_s (fun t9 => (t9 = 0 ∧ ¬ (0 ≤ hg i ∧ pk i = k ∧ iand y (ixor (mk (hg i)) (-1)) = 0 ∧ iand n (mk (hg i)) = 0)) ∨ (t9 = ishl 1 (hg i) ∧ 0 ≤ hg i ∧ pk i = k ∧ iand y (ixor (mk (hg i)) (-1)) = 0 ∧ iand n (mk (hg i)) = 0)) (fun t9 ht9 => wL_i (wO_i (by simp only [iR]; omega) (hself _ _ ⟨by omega, by omega, iR_ior, fun t t0 t1 => ?_⟩ (by omega)))) ?_
      · rw [bt_ior, Bool.or_eq_true_iff, i4 t t0 t1]
        rcases ht9 with ⟨e, q⟩ | ⟨e, q1, q2, q3, q4⟩
        · rw [e, bt_0]
          constructor
          · rintro (⟨p, p0, p1, p2⟩ | w)
            · exact ⟨p, p0, by omega, p2⟩
            · exact absurd w (by decide)
          · rintro ⟨p, p0, p1, p2, p3, p4, p5⟩
            by_cases ep : p = i
            · subst ep
              rw [← p2] at p4 p5
              exact absurd ⟨by omega, p3, p4, p5⟩ q
            · exact Or.inl ⟨p, p0, by omega, p2, p3, p4, p5⟩
        · rw [e, bt_shl q1 (by omega) t0 t1, decide_eq_true_eq]
          constructor
          · rintro (⟨p, p0, p1, p2⟩ | w)
            · exact ⟨p, p0, by omega, p2⟩
            · exact ⟨i, i1, by omega, w, q2, by rw [← w]; exact q3, by rw [← w]; exact q4⟩
          · rintro ⟨p, p0, p1, p2, p3, p4, p5⟩
            by_cases ep : p = i
            · subst ep; exact Or.inr p2
            · exact Or.inl ⟨p, p0, by omega, p2, p3, p4, p5⟩
      · refine jn0_s (¬ (0 ≤ hg i ∧ pk i = k ∧ iand y (ixor (mk (hg i)) (-1)) = 0 ∧ iand n (mk (hg i)) = 0)) (fun q => Or.inl ⟨rfl, q⟩) (cB_i (fun e => fun q => ?_) (fun e => ?_))
        · rcases ht5 with ⟨w, _⟩ | ⟨_, w⟩
          · omega
          · exact w ⟨q.1, q.2.1⟩
        · have g : 0 ≤ hg i ∧ pk i = k ∧ t5 = 1 := by
            rcases ht5 with ⟨w1, w2⟩ | ⟨w, _⟩
            · exact ⟨w2.1, w2.2, w1⟩
            · omega
          have e7 := ht7 g.2.2
          subst e7
          exact wL_i (wL_i (cB_i (fun c1 => wL_i (cB_i (fun c2 => wL_i (Or.inr ⟨rfl, g.1, g.2.1, c1, c2⟩)) (fun c2 => fun q => c2 q.2.2.2))) (fun c1 => fun q => c1 q.2.2.1)))
    · have g : 0 ≤ hg i := by
        rcases ht5 with ⟨_, w⟩ | ⟨w, _⟩
        · exact w.1
        · omega
      exact wO_i (ih g) (fun _ => rfl)
