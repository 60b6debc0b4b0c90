/-! IN STEP 19: sure, ways, grant -/
theorem RS_fit {pg gn en cn nn gu ev cl ni c t : Int} {pk gs gk gt gm gb gp gh ef cg cy cz nl so ki ti mk br ha hb hg er mg my mz pl we le : Int → Int} (hpg : 0 ≤ pg ∧ pg ≤ 24) (hm : mF gu ev cl ni so ti ha hb hg er mg le) (hs : RS pg pk gn gs gk gt gm gb gp gh en ef cn cg cy cz nn nl gu so ki ti mk br ha hb hg ev er cl mg my mz ni pl we le) (hc : 0 ≤ c ∧ c < cl) (ht : 0 ≤ t) : fitC gn gk gm gp cg cy cz c t ↔ fitM pg pk hg mk (ki (mg c)) (my c) (mz c) t := by
  obtain ⟨⟨rfl, rfl, rfl, rfl⟩, G, ⟨P1, P2⟩, E, F, C, N⟩ := hs
  have c1 := C c hc.1 hc.2
  have g1 := G (mg c) c1.2.1.1 c1.2.1.2
  unfold fitC fitM
  rw [c1.1.1, c1.1.2.1, c1.1.2.2, g1.1.2.1]
  constructor
  · rintro ⟨t0, t1, t2, t3, t4, t5⟩
    have g2 := G t t0 t1
    rw [g2.1.2.1] at t3
    rw [g2.1.2.2.2.1] at t4 t5
    rcases P2 t t0 t1 with q | ⟨q1, q2, q3⟩
    · exact absurd q t2
    · exact ⟨gp t, q1, q2, (P1 t (gp t) t0 t1 q1 (by omega)).mp rfl, by rw [q3, t3], t4, t5⟩
  · rintro ⟨p, p0, p1, p2, p3, p4, p5⟩
    have h5 := hm.1.2.2.2.2.1 p p0 (by omega)
    have tl : t < gn := by omega
    have g2 := G t ht tl
    have e := (P1 t p ht tl p0 (by omega)).mpr p2
    refine ⟨ht, tl, by omega, ?_, by rw [g2.1.2.2.2.1]; exact p4, by rw [g2.1.2.2.2.1]; exact p5⟩
    rcases P2 t ht tl with q | ⟨q1, q2, q3⟩
    · omega
    · rw [g2.1.2.1, ← q3, e, p3]
theorem RS_hh {gu ev cl ni : Int} {so ti ha hb hg er mg le : Int → Int} (hm : mF gu ev cl ni so ti ha hb hg er mg le) : ∀ p, 0 ≤ p → p < 24 → -1 ≤ hg p ∧ hg p < 16 := fun p a b => by
  have := hm.1.2.2.2.2.1 p a b
  have := hm.1.2.1
  omega
theorem sim_only {pg gn en cn nn gu ev cl ni x k : Int} {pk gs gk gt gm gb gp gh ef cg cy cz nl so ki ti mk br ha hb hg er mg my mz pl we le F W : Int → Int} {K : Int → Int → (Int → Int) → (Int → Int) → Prop} (hpg : 0 ≤ pg ∧ pg ≤ 24) (hm : mF gu ev cl ni so ti ha hb hg er mg le) (hs : RS pg pk gn gs gk gt gm gb gp gh en ef cn cg cy cz nn nl gu so ki ti mk br ha hb hg ev er cl mg my mz ni pl we le) (hc : 0 ≤ x ∧ x < cl) (h : ∀ r F' W', (-1 ≤ r ∧ r < gu) → (0 ≤ r → ∃ p, 0 ≤ p ∧ p < pg ∧ hg p = r) → (∀ (Q : Int → (Int → Int) → Prop) (wt : Int → Int), (∀ wt', Q r wt') → nf_M_sureOf pg gu cl pk hg ki mk mg my mz wt x Q) → K cn r F' W') : nf_Matching_load gn gk gm gp cn cg cy cz k F fun z2 f3 => nf_Matching_onlyThingOf z2 f3 W x fun r f4 f5 => K z2 r f4 f5 := by
  have hs0 := hs
  have hgu : 0 ≤ gu ∧ gu ≤ 16 := ⟨hm.1.1, hm.1.2.1⟩
  have hCl := hm.2.2.1
  obtain ⟨⟨rfl, rfl, rfl, rfl⟩, G, P, E, FF, C, N⟩ := hs
  refine so_load hgu hCl (fun c c0 c1 => by rw [(C c c0 c1).1.1]; exact (C c c0 c1).2.1) (fun F' hF' => ?_)
  refine so_only hCl hc (fun r F2 W2 hr => ?_)
  have hf : ∀ k t, 0 ≤ k → k < cn → 0 ≤ t → t < 16 → (bit (F' k) t = true ↔ fitM pg pk hg mk (ki (mg k)) (my k) (mz k) t) := fun k t k0 k1 t0 t1 => (hF' k k0 k1 t t0 (by omega)).trans (RS_fit hpg hm hs0 ⟨k0, k1⟩ t0)
  have key : ∀ r', suS cn.toNat gn.toNat (fun c t => bit (F' c) t) x r' → r = r' := fun r' h2 => su_on (K := cn.toNat) (gu := gn.toNat) (by omega) (by omega) ⟨hc.1, by omega⟩ (fun k t hk ht => by
    cases hb2 : bit (F' k) t
    · rfl
    · by_cases t32 : t < 32
      · have := (hF' k (by omega) (by omega) t (by omega) (by omega)).mp hb2
        have := this.2.1
        omega
      · have : bit (F' k) t = false := by
          unfold bit
          exact BitVec.getLsbD_of_ge _ _ (by omega)
        rw [this] at hb2; exact absurd hb2 (by decide)) hr h2
  have fr : 0 ≤ r → bit (F' x) r = true ∧ r < 16 := fun r0 => by
    rcases hr with ⟨q, _⟩ | ⟨_, q1, _, q2, _⟩
    · omega
    · refine ⟨?_, q1⟩
      unfold aw at q2
      by_cases e : bit (F' x) r = true
      · exact e
      · rw [if_neg e] at q2; exact absurd rfl q2
  have fr2 : 0 ≤ r → ∃ p, 0 ≤ p ∧ p < pg ∧ hg p = r := fun r0 => by
    obtain ⟨p, p0, p1, p2, _⟩ := (hf x r hc.1 hc.2 r0 (fr r0).2).mp (fr r0).1
    exact ⟨p, p0, p1, p2⟩
  refine h r F2 W2 ⟨?_, ?_⟩ fr2 (fun Q wt hQ => sm_sureOf hpg hgu hCl (RS_hh hm) hm.2.2.2.2.2.1 hf hc (fun r' wt' hr' => by rw [← key r' hr']; exact hQ wt'))
  · rcases hr with ⟨q, _⟩ | ⟨q, _⟩ <;> omega
  · rcases Int.lt_or_le r 0 with z | z
    · omega
    · obtain ⟨p, p0, p1, p2⟩ := fr2 z
      have := hm.1.2.2.2.2.1 p p0 (by omega)
      omega
def rmv (x n : Int) (F : Int → Int) : Int → Int := fun i => if x ≤ i ∧ i + 1 < n then F (i + 1) else F i
theorem rmv_l {x n l : Int} {F z : Int → Int} (h : ∀ i, z i = if x ≤ i ∧ i < l then F (i + 1) else F i) (hl : x ≤ l) : ∀ i, ups z l (z (l + 1)) i = if x ≤ i ∧ i < l + 1 then F (i + 1) else F i := fun i => by
  by_cases e : i = l
  · rw [e, ups_s, h (l + 1), if_neg (by omega), if_pos (by omega)]
  · rw [ups_n e, h i]
    by_cases c : x ≤ i ∧ i < l
    · rw [if_pos c, if_pos (by omega)]
    · rw [if_neg c, if_neg (by omega)]
theorem so_remove {cn x : Int} {cg cy cz : Int → Int} {Q : Int → (Int → Int) → (Int → Int) → (Int → Int) → Prop} (hCn : 0 ≤ cn ∧ cn ≤ 6) (hx : 0 ≤ x ∧ x < cn) (h : ∀ cg' cy' cz', (∀ i, cg' i = rmv x cn cg i) → (∀ i, cy' i = rmv x cn cy i) → (∀ i, cz' i = rmv x cn cz i) → Q (cn - 1) cg' cy' cz') : nf_Claims_remove cn cg cy cz x Q := by
  unfold nf_Claims_remove
  simp only [ci_m1, ci_m10, ci_m1001, ci_m1002, ci_m1003, ci_m1004, ci_0, ci_1, ci_10, ci_100, ci_1000, ci_10000, ci_101, ci_103, ci_104, ci_105, ci_107, ci_108, ci_110, ci_111, ci_114, ci_115, ci_116, ci_118, ci_119, ci_12, ci_122, ci_1431655765, ci_15, ci_16, ci_2, ci_20, ci_23, ci_24, ci_240, ci_252645135, ci_255, ci_256, ci_3, ci_32, ci_4, ci_420, ci_48, ci_5, ci_5040, ci_57, ci_59, ci_6, ci_60, ci_63, ci_64, ci_7, ci_70, ci_8, ci_858993459, ci_9, ci_900, ci_97, ci_99, ci_999, ci_9999, cl_0, cl_1, cl_10, cl_1000000000000, cl_122, cl_2, cl_2000000000000, cl_23, cl_255, cl_27, cl_3, cl_4, cl_48, cl_57, cl_6, cl_8, cl_96, cl_97, cl_99, cl_999, cl_9999]
  refine sp_cknows (cB_t ⟨hx.1, hx.2, by omega⟩ (cB_f (by decide) ?_))
  refine nlp4_i (fun l a b c => x ≤ l ∧ l < cn ∧ (∀ i, a i = if x ≤ i ∧ i < l then cg (i + 1) else cg i) ∧ (∀ i, b i = if x ≤ i ∧ i < l then cy (i + 1) else cy i) ∧ (∀ i, c i = if x ≤ i ∧ i < l then cz (i + 1) else cz i)) (fun l _ _ _ => (cn - l).toNat) ?_ ⟨by omega, by omega, fun i => by rw [if_neg (by omega)], fun i => by rw [if_neg (by omega)], fun i => by rw [if_neg (by omega)]⟩
  intro l a b c hi self hself
  obtain ⟨i1, i2, i3, i4, i5⟩ := hi
  refine wO_i (by simp only [iR]; omega) (jn0_s (cn ≤ l + 1) (fun e => wO_i (by simp only [iR]; omega) (h _ _ _ (fun i => ?_) (fun i => ?_) (fun i => ?_))) ?_)
  · rw [i3 i]; unfold rmv
    by_cases q : x ≤ i ∧ i < l
    · rw [if_pos q, if_pos (by omega)]
    · rw [if_neg q, if_neg (by omega)]
  · rw [i4 i]; unfold rmv
    by_cases q : x ≤ i ∧ i < l
    · rw [if_pos q, if_pos (by omega)]
    · rw [if_neg q, if_neg (by omega)]
  · rw [i5 i]; unfold rmv
    by_cases q : x ≤ i ∧ i < l
    · rw [if_pos q, if_pos (by omega)]
    · rw [if_neg q, if_neg (by omega)]
  · refine cB_i (fun e => e) (fun e => wO_i (by simp only [iR]; omega) (cB_f (by omega) ?_))
    refine wO_i (by simp only [iR]; omega) (wO_i (by simp only [inb]; omega) (wO_i (by simp only [inb]; omega) (wO_i (by simp only [iR]; omega) (wO_i (by simp only [inb]; omega) (wO_i (by simp only [inb]; omega) (wO_i (by simp only [iR]; omega) (wO_i (by simp only [inb]; omega) (wO_i (by simp only [inb]; omega) (wO_i (by simp only [iR]; omega) (hself _ _ _ _ ⟨by omega, by omega, rmv_l (n := cn) i3 i1, rmv_l (n := cn) i4 i1, rmv_l (n := cn) i5 i1⟩ (by omega)))))))))))
abbrev grQ : Type := Int → Int → (Int → Int) → (Int → Int) → (Int → Int) → (Int → Int) → (Int → Int) → (Int → Int) → Prop
theorem sm_grant {pg gu cl x : Int} {pk hg ki mk ha mg my mz wt : Int → Int} {Q : grQ} {r : Int} (hpg : 0 ≤ pg ∧ pg ≤ 24) (hcl : 0 ≤ cl ∧ cl ≤ 6) (hcg : ∀ c, 0 ≤ c → c < 6 → 0 ≤ mg c ∧ mg c < 16) (hx : 0 ≤ x ∧ x < cl) (hr2 : 0 ≤ r → ∃ p, 0 ≤ p ∧ p < pg ∧ hg p = r) (hs : ∀ (Q : Int → (Int → Int) → Prop) (wt : Int → Int), (∀ wt', Q r wt') → nf_M_sureOf pg gu cl pk hg ki mk mg my mz wt x Q) (h0 : r < 0 → ∀ wt', Q (-1003) cl hg ha mg my mz wt') (h1 : 0 ≤ r → ∀ q, 0 ≤ q → q < pg → hg q = r → ∀ mg' my' mz' wt', (∀ i, mg' i = rmv x cl mg i) → (∀ i, my' i = rmv x cl my i) → (∀ i, mz' i = rmv x cl mz i) → Q r (cl - 1) (ups hg q (-1)) (ups ha (mg x) r) mg' my' mz' wt') : nf_M_grant pg gu cl pk hg ki mk ha mg my mz wt x Q := by
  unfold nf_M_grant
  simp only [ci_m1, ci_m10, ci_m1001, ci_m1002, ci_m1003, ci_m1004, ci_0, ci_1, ci_10, ci_100, ci_1000, ci_10000, ci_101, ci_103, ci_104, ci_105, ci_107, ci_108, ci_110, ci_111, ci_114, ci_115, ci_116, ci_118, ci_119, ci_12, ci_122, ci_1431655765, ci_15, ci_16, ci_2, ci_20, ci_23, ci_24, ci_240, ci_252645135, ci_255, ci_256, ci_3, ci_32, ci_4, ci_420, ci_48, ci_5, ci_5040, ci_57, ci_59, ci_6, ci_60, ci_63, ci_64, ci_7, ci_70, ci_8, ci_858993459, ci_9, ci_900, ci_97, ci_99, ci_999, ci_9999, cl_0, cl_1, cl_10, cl_1000000000000, cl_122, cl_2, cl_2000000000000, cl_23, cl_255, cl_27, cl_3, cl_4, cl_48, cl_57, cl_6, cl_8, cl_96, cl_97, cl_99, cl_999, cl_9999]
  refine sp_isClaim hcl (cB_t hx (cB_f (by decide) (hs _ _ (fun wt' => cB_i (fun hr => ?_) (fun hr => h0 (by omega) _)))))
  have g1 := hcg x hx.1 (by omega)
  obtain ⟨p, p0, p1, p2⟩ := hr2 hr
  refine wO_i (by simp only [inb]; omega) (wO_i (by simp only [inb]; omega) (sp_pegOf hpg (fun q q1 q2 q3 q4 => ?_)))
  have q0 : 0 ≤ q := by
    by_cases e : q = -1
    · exact absurd p2 (q4 e p p0 p1)
    · omega
  refine wO_i (by simp only [inb]; omega) ?_
  have h1 := h1 hr q q0 q2 (q3 q0)
  refine nlp4_i (fun l a b c => x ≤ l ∧ l < cl ∧ (∀ i, a i = if x ≤ i ∧ i < l then mg (i + 1) else mg i) ∧ (∀ i, b i = if x ≤ i ∧ i < l then my (i + 1) else my i) ∧ (∀ i, c i = if x ≤ i ∧ i < l then mz (i + 1) else mz i)) (fun l _ _ _ => (cl - l).toNat) ?_ ⟨by omega, by omega, fun i => by rw [if_neg (by omega)], fun i => by rw [if_neg (by omega)], fun i => by rw [if_neg (by omega)]⟩
  intro l a b c hi self hself
  obtain ⟨i1, i2, i3, i4, i5⟩ := hi
  refine wO_i (by simp only [iR]; omega) (cB_i (fun e => wO_i (by simp only [iR]; omega) (h1 _ _ _ _ (fun i => ?_) (fun i => ?_) (fun i => ?_))) (fun e => ?_))
  · rw [i3 i]; unfold rmv
    by_cases q : x ≤ i ∧ i < l
    · rw [if_pos q, if_pos (by omega)]
    · rw [if_neg q, if_neg (by omega)]
  · rw [i4 i]; unfold rmv
    by_cases q : x ≤ i ∧ i < l
    · rw [if_pos q, if_pos (by omega)]
    · rw [if_neg q, if_neg (by omega)]
  · rw [i5 i]; unfold rmv
    by_cases q : x ≤ i ∧ i < l
    · rw [if_pos q, if_pos (by omega)]
    · rw [if_neg q, if_neg (by omega)]
  · refine wO_i (by simp only [iR]; omega) (wO_i (by simp only [inb]; omega) (wO_i (by simp only [inb]; omega) (wO_i (by simp only [iR]; omega) (wO_i (by simp only [inb]; omega) (wO_i (by simp only [inb]; omega) (wO_i (by simp only [iR]; omega) (wO_i (by simp only [inb]; omega) (wO_i (by simp only [inb]; omega) (wO_i (by simp only [iR]; omega) (hself _ _ _ _ ⟨by omega, by omega, rmv_l (n := cl) i3 i1, rmv_l (n := cl) i4 i1, rmv_l (n := cl) i5 i1⟩ (by omega)))))))))))
theorem sim_grant {pg gn en cn nn gu ev cl ni x k : Int} {pk gs gk gt gm gb gp gh ef cg cy cz nl so ki ti mk br ha hb hg er mg my mz pl we le F W wt : Int → Int} {K : Int → (Int → Int) → (Int → Int) → Int → (Int → Int) → (Int → Int) → (Int → Int) → Int → (Int → Int) → (Int → Int) → grQ} (hpg : 0 ≤ pg ∧ pg ≤ 24) (hm : mF gu ev cl ni so ti ha hb hg er mg le) (hs : RS pg pk gn gs gk gt gm gb gp gh en ef cn cg cy cz nn nl gu so ki ti mk br ha hb hg ev er cl mg my mz ni pl we le) (h : ∀ r gp' gh' cn' cg' cy' cz' k' F' W' cl' hg' ha' mg' my' mz' wt', (0 ≤ cn' ∧ cn' ≤ 6) → mF gu ev cl' ni so ti ha' hb hg' er mg' le → RS pg pk gn gs gk gt gm gb gp' gh' en ef cn' cg' cy' cz' nn nl gu so ki ti mk br ha' hb hg' ev er cl' mg' my' mz' ni pl we le → K r gp' gh' cn' cg' cy' cz' k' F' W' r cl' hg' ha' mg' my' mz' wt') : nf_H_grant gn gk gm gp gh cn cg cy cz k F W x fun r a1 a2 a3 a4 a5 a6 a7 a8 a9 => nf_M_grant pg gu cl pk hg ki mk ha mg my mz wt x fun r' b1 b2 b3 b4 b5 b6 b7 => K r a1 a2 a3 a4 a5 a6 a7 a8 a9 r' b1 b2 b3 b4 b5 b6 b7 := by
  have hs0 := hs
  have hgu : 0 ≤ gu ∧ gu ≤ 16 := ⟨hm.1.1, hm.1.2.1⟩
  have hCl := hm.2.2.1
  obtain ⟨⟨rfl, rfl, rfl, rfl⟩, G, ⟨P1, P2⟩, ⟨E1, E2, E3, E4, E5⟩, FF, C, N⟩ := hs
  have same := fun r k' F' W' wt' => h r _ _ _ _ _ _ k' F' W' _ _ _ _ _ _ wt' hCl hm hs0
  unfold nf_H_grant
  simp only [ci_m1, ci_m10, ci_m1001, ci_m1002, ci_m1003, ci_m1004, ci_0, ci_1, ci_10, ci_100, ci_1000, ci_10000, ci_101, ci_103, ci_104, ci_105, ci_107, ci_108, ci_110, ci_111, ci_114, ci_115, ci_116, ci_118, ci_119, ci_12, ci_122, ci_1431655765, ci_15, ci_16, ci_2, ci_20, ci_23, ci_24, ci_240, ci_252645135, ci_255, ci_256, ci_3, ci_32, ci_4, ci_420, ci_48, ci_5, ci_5040, ci_57, ci_59, ci_6, ci_60, ci_63, ci_64, ci_7, ci_70, ci_8, ci_858993459, ci_9, ci_900, ci_97, ci_99, ci_999, ci_9999, cl_0, cl_1, cl_10, cl_1000000000000, cl_122, cl_2, cl_2000000000000, cl_23, cl_255, cl_27, cl_3, cl_4, cl_48, cl_57, cl_6, cl_8, cl_96, cl_97, cl_99, cl_999, cl_9999]
  refine sp_cknows (cB_i (fun hx6 => cB_f (by decide) ?_) (fun a => cB_t rfl ?_))
  · have hx : 0 ≤ x ∧ x < cn := ⟨hx6.1, hx6.2.1⟩
    refine sim_only hpg hm hs0 hx (fun r F' W' rb r2 hsu => cB_i (fun e => ?_) (fun e => ?_))
    · exact sm_grant hpg hCl hm.2.2.2.2.2.1 hx r2 hsu (fun _ wt' => same _ _ _ _ _) (fun q => by omega)
    · have r0 : 0 ≤ r := by omega
      have cx := C x hx.1 hx.2
      refine sp_guestOf (cB_t ⟨hx.1, hx.2, by omega⟩ ?_)
      unfold nf_Guests_handOver
      simp only [ci_m1, ci_m10, ci_m1001, ci_m1002, ci_m1003, ci_m1004, ci_0, ci_1, ci_10, ci_100, ci_1000, ci_10000, ci_101, ci_103, ci_104, ci_105, ci_107, ci_108, ci_110, ci_111, ci_114, ci_115, ci_116, ci_118, ci_119, ci_12, ci_122, ci_1431655765, ci_15, ci_16, ci_2, ci_20, ci_23, ci_24, ci_240, ci_252645135, ci_255, ci_256, ci_3, ci_32, ci_4, ci_420, ci_48, ci_5, ci_5040, ci_57, ci_59, ci_6, ci_60, ci_63, ci_64, ci_7, ci_70, ci_8, ci_858993459, ci_9, ci_900, ci_97, ci_99, ci_999, ci_9999, cl_0, cl_1, cl_10, cl_1000000000000, cl_122, cl_2, cl_2000000000000, cl_23, cl_255, cl_27, cl_3, cl_4, cl_48, cl_57, cl_6, cl_8, cl_96, cl_97, cl_99, cl_999, cl_9999]
      refine sp_knows (cB_t ⟨r0, rb.2, by omega⟩ (cB_f (by decide) (sp_knows (cB_t ⟨by omega, by omega, by omega⟩ (cB_f (by decide) (wO_i (by simp only [inb]; omega) (wO_i (by simp only [inb]; omega) ?_)))))))
      refine so_remove hCl hx (fun cg' cy' cz' d1 d2 d3 => ?_)
      refine sm_grant hpg hCl hm.2.2.2.2.2.1 hx r2 hsu (fun q => by omega) (fun _ q q0 q1 q2 mg' my' mz' wt' f1 f2 f3 => ?_)
      have q24 : q < 24 := by omega
      have h6 := hm.1.2.2.2.2.2.1
      have hmg := mS_go hm.1 (p := q) (k := mg x) ⟨q0, q24⟩ (by omega)
      rw [q2] at hmg
      rw [cx.1.1]
      refine h _ _ _ _ _ _ _ _ _ _ _ _ _ _ _ _ _ ⟨by omega, by omega⟩ ⟨hmg, hm.2.1, ⟨by omega, by omega⟩, hm.2.2.2.1, hm.2.2.2.2.1, fun c c0 c1 => ?_, hm.2.2.2.2.2.2⟩ ⟨⟨rfl, rfl, rfl, rfl⟩, fun g a b => ?_, ⟨fun g p a b c d => ?_, fun g a b => ?_⟩, ⟨E1, E2, E3, fun e' a b c => ?_, E5⟩, FF, fun c c0 c1 => ?_, N⟩
      · rw [f1 c]; unfold rmv
        split
        · exact hm.2.2.2.2.2.1 (c + 1) (by omega) (by omega)
        · exact hm.2.2.2.2.2.1 c c0 c1
      · have g1 := G g a b
        by_cases eg : g = mg x
        · rw [eg] at g1 ⊢
          exact ⟨⟨g1.1.1, g1.1.2.1, g1.1.2.2.1, g1.1.2.2.2.1, g1.1.2.2.2.2.1, by rw [ups_s, ups_s]⟩, g1.2⟩
        · rw [ups_n eg, ups_n eg]; exact g1
      · have q5 := P1 g p a b c d
        have q6 := (P1 r q r0 rb.2 q0 q24).mpr q2
        by_cases eg : g = r
        · subst eg
          rw [ups_s]
          by_cases ep : p = q
          · subst ep; rw [ups_s]; exact ⟨fun q => by omega, fun q => by omega⟩
          · rw [ups_n ep]
            exact ⟨fun q => by omega, fun w => by have := q5.mpr w; omega⟩
        · rw [ups_n eg]
          by_cases ep : p = q
          · subst ep; rw [ups_s]
            exact ⟨fun w => by have := q5.mp w; omega, fun w => by omega⟩
          · rw [ups_n ep]; exact q5
      · by_cases eg : g = r
        · subst eg; rw [ups_s]; exact Or.inl rfl
        · rw [ups_n eg]; exact P2 g a b
      · have w := E4 e' a b c
        have e2 := (E2 e' a b).2.2.2.2 (by omega)
        refine ⟨w.1, fun p p0 p1 => ?_⟩
        by_cases ep : p = q
        · subst ep; rw [ups_s]; omega
        · rw [ups_n ep]; exact w.2 p p0 p1
      · rw [d1 c, d2 c, d3 c, f1 c, f2 c, f3 c]
        unfold rmv
        by_cases z : x ≤ c ∧ c + 1 < cn
        · rw [if_pos z, if_pos z, if_pos z, if_pos z, if_pos z, if_pos z]; exact C (c + 1) (by omega) (by omega)
        · rw [if_neg z, if_neg z, if_neg z, if_neg z, if_neg z, if_neg z]; exact C c c0 (by omega)
  · unfold nf_M_grant
    simp only [ci_m1, ci_m10, ci_m1001, ci_m1002, ci_m1003, ci_m1004, ci_0, ci_1, ci_10, ci_100, ci_1000, ci_10000, ci_101, ci_103, ci_104, ci_105, ci_107, ci_108, ci_110, ci_111, ci_114, ci_115, ci_116, ci_118, ci_119, ci_12, ci_122, ci_1431655765, ci_15, ci_16, ci_2, ci_20, ci_23, ci_24, ci_240, ci_252645135, ci_255, ci_256, ci_3, ci_32, ci_4, ci_420, ci_48, ci_5, ci_5040, ci_57, ci_59, ci_6, ci_60, ci_63, ci_64, ci_7, ci_70, ci_8, ci_858993459, ci_9, ci_900, ci_97, ci_99, ci_999, ci_9999, cl_0, cl_1, cl_10, cl_1000000000000, cl_122, cl_2, cl_2000000000000, cl_23, cl_255, cl_27, cl_3, cl_4, cl_48, cl_57, cl_6, cl_8, cl_96, cl_97, cl_99, cl_999, cl_9999]
    exact sp_isClaim hCl (cB_f (fun v => a ⟨v.1, v.2, by omega⟩) (cB_t rfl (same _ _ _ _ _)))
