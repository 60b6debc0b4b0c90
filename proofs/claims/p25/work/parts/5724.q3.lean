/-! ANSWERS 3: exchanges, asks -/
noncomputable def exf (ha : Int → Int) (x : Int) : Int := @ite Int (0 ≤ ha x ∧ ha x ≠ x) (Classical.propDecidable _) (@ite Int (∃ n : Nat, 1 ≤ n ∧ n ≤ 16 ∧ (∀ j, j < n → x ≤ cs ha x j) ∧ cs ha x n < 0 ∧ ha (cs ha x (n - 1)) = x) (Classical.propDecidable _) 0 1) 0
theorem exf_n {ha : Int → Int} {x : Int} (h : ¬ (0 ≤ ha x ∧ ha x ≠ x)) : exf ha x = 0 := by
  unfold exf
  exact if_neg h
theorem exf_b (ha : Int → Int) (x : Int) : 0 ≤ exf ha x ∧ exf ha x ≤ 1 := by
  unfold exf
  split
  · split <;> omega
  · omega
theorem exf_0 {ha : Int → Int} {x : Int} {n : Nat} (h : 0 ≤ ha x ∧ ha x ≠ x) (n1 : 1 ≤ n) (n2 : n ≤ 16) (hc : ∀ j, j < n → x ≤ cs ha x j) (hend : cs ha x n < 0) (hr : ha (cs ha x (n - 1)) = x) : exf ha x = 0 := by
  unfold exf
  rw [if_pos h]
  exact if_pos ⟨n, n1, n2, hc, hend, hr⟩
theorem exf_1 {ha : Int → Int} {x : Int} {n : Nat} (x0 : 0 ≤ x) (h : 0 ≤ ha x ∧ ha x ≠ x) (n2 : n ≤ 16) (hc : ∀ j, j < n → 0 ≤ cs ha x j) (hend : cs ha x n < 0) (hr : ha (cs ha x (n - 1)) ≠ x ∨ ∃ j, j < n ∧ cs ha x j < x) : exf ha x = 1 := by
  unfold exf
  rw [if_pos h]
  refine if_neg ?_
  rintro ⟨m, m1, m2, mc, mend, mr⟩
  have e : m = n := ch_len hend hc n2 (Or.inl mend) (fun j hj => by have := mc j hj; omega) m2
  subst e
  rcases hr with q | ⟨j, j1, j2⟩
  · exact q mr
  · have := mc j j1; omega
theorem so_isLeast {gn a : Int} {gh so ti ha hb hg : Int → Int} {Q : Int → Prop} (hm : mS gn so ti ha hb hg) (hh : ∀ g, 0 ≤ g → g < gn → gh g = ha g) (hx : 0 ≤ a ∧ a < gn) (ha1 : 0 ≤ ha a ∧ ha a ≠ a) {n : Nat} (n1 : 1 ≤ n) (n2 : n ≤ 16) (hc : ∀ j, j < n → 0 ≤ cs ha a j) (hend : cs ha a n < 0) (h1 : ha (cs ha a (n - 1)) = a → (∀ j, j < n → a ≤ cs ha a j) → Q 1) (h0 : (ha (cs ha a (n - 1)) ≠ a ∨ ∃ j, j < n ∧ cs ha a j < a) → Q 0) : nf_Guests_isLeastOfRing gn gh a Q := by
  unfold nf_Guests_isLeastOfRing
  simp only [ci_m1, ci_m10, ci_m1001, ci_m1002, ci_m1003, ci_m1004, ci_0, ci_1, ci_10, ci_100, ci_1000, ci_10000, ci_101, ci_103, ci_104, ci_105, ci_107, ci_108, ci_110, ci_111, ci_114, ci_115, ci_116, ci_118, ci_119, ci_12, ci_122, ci_1431655765, ci_15, ci_16, ci_2, ci_20, ci_23, ci_24, ci_240, ci_252645135, ci_255, ci_256, ci_3, ci_32, ci_4, ci_420, ci_48, ci_5, ci_5040, ci_57, ci_59, ci_6, ci_60, ci_63, ci_64, ci_7, ci_70, ci_8, ci_858993459, ci_9, ci_900, ci_97, ci_99, ci_999, ci_9999, cl_0, cl_1, cl_10, cl_1000000000000, cl_122, cl_2, cl_2000000000000, cl_23, cl_255, cl_27, cl_3, cl_4, cl_48, cl_57, cl_6, cl_8, cl_96, cl_97, cl_99, cl_999, cl_9999]
  have hgu : 0 ≤ gn ∧ gn ≤ 16 := ⟨hm.1, hm.2.1⟩
  refine sp_isAstray (cB_t ⟨hx.1, hx.2, by omega, by rw [hh a hx.1 hx.2]; omega, by rw [hh a hx.1 hx.2]; exact ha1.2⟩ (cB_f (by decide) ?_))
  refine so_comesRound hm hh hx n1 n2 hc hend (fun e => cB_f (by decide) ?_) (fun e => cB_t rfl (h0 (Or.inl e)))
  refine nlp2_i (fun (g l : Int) => 0 ≤ l ∧ l ≤ n ∧ g = cs ha a l.toNat ∧ ∀ j, j < l.toNat → a ≤ cs ha a j) (fun _ l => (16 - l).toNat) ?_ ⟨by omega, by omega, rfl, by omega⟩
  intro g l hi self hself
  obtain ⟨i1, i2, i3, i4⟩ := hi
  have hb := cs_b hm.2.2.2.1 hx l.toNat
  have en : l = n → g < 0 := fun q => by
    rw [i3, show l.toNat = n by omega]; exact hend
  have el : l ≠ n → 0 ≤ g := fun q => by
    rw [i3]; exact hc l.toNat (by omega)
  refine jn0_s (l = n ∨ g < a) (fun s => cB_i (fun e1 => ?_) (fun e1 => ?_)) ?_
  · have e2 : l = n := by
      by_cases q : l = n
      · exact q
      · have := el q; omega
    exact h1 e (fun j hj => i4 j (by omega))
  · by_cases q : l = n
    · have := en q
      rw [← i3] at hb
      omega
    · exact h0 (Or.inr ⟨l.toNat, by omega, by rw [← i3]; omega⟩)
  · refine cB_i (fun e1 => Or.inl (by omega)) (fun e1 => cB_i (fun e2 => Or.inr e2) (fun e2 => ?_))
    have ln : l ≠ n := fun q => by have := en q; omega
    have ga : a ≤ cs ha a l.toNat := by rw [← i3]; omega
    rw [i3]
    refine so_next hgu hh hb.2 (wO_i (by simp only [iR]; omega) (hself _ _ ⟨by omega, by omega, by rw [show (l + 1).toNat = l.toNat + 1 by omega], fun j hj => ?_⟩ (by omega)))
    by_cases ej : j = l.toNat
    · rw [ej]; exact ga
    · exact i4 j (by omega)
theorem so_isLeastN {gn a : Int} {gh : Int → Int} {Q : Int → Prop} (h : ¬ (0 ≤ a ∧ a < gn ∧ a < 16 ∧ gh a ≠ -1 ∧ gh a ≠ a)) (h0 : Q 0) : nf_Guests_isLeastOfRing gn gh a Q := by
  unfold nf_Guests_isLeastOfRing
  simp only [ci_m1, ci_m10, ci_m1001, ci_m1002, ci_m1003, ci_m1004, ci_0, ci_1, ci_10, ci_100, ci_1000, ci_10000, ci_101, ci_103, ci_104, ci_105, ci_107, ci_108, ci_110, ci_111, ci_114, ci_115, ci_116, ci_118, ci_119, ci_12, ci_122, ci_1431655765, ci_15, ci_16, ci_2, ci_20, ci_23, ci_24, ci_240, ci_252645135, ci_255, ci_256, ci_3, ci_32, ci_4, ci_420, ci_48, ci_5, ci_5040, ci_57, ci_59, ci_6, ci_60, ci_63, ci_64, ci_7, ci_70, ci_8, ci_858993459, ci_9, ci_900, ci_97, ci_99, ci_999, ci_9999, cl_0, cl_1, cl_10, cl_1000000000000, cl_122, cl_2, cl_2000000000000, cl_23, cl_255, cl_27, cl_3, cl_4, cl_48, cl_57, cl_6, cl_8, cl_96, cl_97, cl_99, cl_999, cl_9999]
  exact sp_isAstray (cB_f h (cB_t rfl h0))
theorem exs_b (ha : Int → Int) (n : Nat) : 0 ≤ sumN (exf ha) n ∧ sumN (exf ha) n ≤ 1 * n := ⟨sumN_nn n (fun k _ => (exf_b ha k).1), sumN_b (M := 1) n (fun k _ => exf_b ha k)⟩
theorem so_Hexch {gn : Int} {gh so ti ha hb hg : Int → Int} {Q : Int → Prop} (hm : mS gn so ti ha hb hg) (hh : ∀ g, 0 ≤ g → g < gn → gh g = ha g) (h : Q (sumN (exf ha) gn.toNat)) : nf_H_exchanges gn gh Q := by
  unfold nf_H_exchanges
  simp only [ci_m1, ci_m10, ci_m1001, ci_m1002, ci_m1003, ci_m1004, ci_0, ci_1, ci_10, ci_100, ci_1000, ci_10000, ci_101, ci_103, ci_104, ci_105, ci_107, ci_108, ci_110, ci_111, ci_114, ci_115, ci_116, ci_118, ci_119, ci_12, ci_122, ci_1431655765, ci_15, ci_16, ci_2, ci_20, ci_23, ci_24, ci_240, ci_252645135, ci_255, ci_256, ci_3, ci_32, ci_4, ci_420, ci_48, ci_5, ci_5040, ci_57, ci_59, ci_6, ci_60, ci_63, ci_64, ci_7, ci_70, ci_8, ci_858993459, ci_9, ci_900, ci_97, ci_99, ci_999, ci_9999, cl_0, cl_1, cl_10, cl_1000000000000, cl_122, cl_2, cl_2000000000000, cl_23, cl_255, cl_27, cl_3, cl_4, cl_48, cl_57, cl_6, cl_8, cl_96, cl_97, cl_99, cl_999, cl_9999]
  have g1 := hm.2.1
  refine nlp2_i (fun l i => 0 ≤ i ∧ i ≤ gn ∧ l = sumN (exf ha) i.toNat) (fun _ i => (gn - i).toNat) ?_ ⟨by omega, by exact hm.1, rfl⟩
  intro l i hi self hself
  obtain ⟨i1, i2, i3⟩ := hi
  have s := sumN_s (f := exf ha) i1
  have b := exs_b ha i.toNat
  refine cB_i (fun _ => ?_) (fun _ => ?_)
  · rw [i3, show i = gn by omega]; exact h
  have hx : 0 ≤ i ∧ i < gn := ⟨i1, by omega⟩
  have hi1 := hh i hx.1 hx.2
  have hi2 := hm.2.2.2.1 i hx.1 hx.2
  refine sp_isAstray (cB_i (fun a => jn1_i (cB_f (by decide) (wO_i (by simp only [iR]; omega) ?_))) (fun a => jn1_i (cB_t rfl ?_)))
  · have a2 : 0 ≤ ha i ∧ ha i ≠ i := ⟨by omega, by omega⟩
    obtain ⟨n, n1, n2, hc, hend, hd⟩ := ch_ex hm hx
    refine so_isLeast hm hh hx a2 n1 n2 hc hend (fun q1 q2 => jn1_i (cB_f (by decide) (wO_i (by simp only [iR]; omega) (wO_i (by simp only [iR]; omega) (hself _ _ ⟨by omega, by omega, ?_⟩ (by omega)))))) (fun q => jn1_i (cB_t rfl (wO_i (by simp only [iR]; omega) (hself _ _ ⟨by omega, by omega, ?_⟩ (by omega)))))
    · rw [s, exf_0 a2 n1 n2 q2 hend q1]; omega
    · rw [s, exf_1 hx.1 a2 n2 hc hend q]; omega
  · refine so_isLeastN a (jn1_i (cB_t rfl (wO_i (by simp only [iR]; omega) (hself _ _ ⟨by omega, by omega, ?_⟩ (by omega)))))
    rw [s, exf_n (fun q => a ⟨hx.1, hx.2, by omega, by omega, by omega⟩)]; omega
theorem sm_exch {gu cm ir : Int} {so ti ha hb hg ch : Int → Int} {Q : Int → Int → Int → (Int → Int) → Prop} (hm : mS gu so ti ha hb hg) (h : ∀ a b c, Q (sumN (exf ha) gu.toNat) a b c) : nf_M_exchanges gu cm ir ha ch Q := by
  unfold nf_M_exchanges
  simp only [ci_m1, ci_m10, ci_m1001, ci_m1002, ci_m1003, ci_m1004, ci_0, ci_1, ci_10, ci_100, ci_1000, ci_10000, ci_101, ci_103, ci_104, ci_105, ci_107, ci_108, ci_110, ci_111, ci_114, ci_115, ci_116, ci_118, ci_119, ci_12, ci_122, ci_1431655765, ci_15, ci_16, ci_2, ci_20, ci_23, ci_24, ci_240, ci_252645135, ci_255, ci_256, ci_3, ci_32, ci_4, ci_420, ci_48, ci_5, ci_5040, ci_57, ci_59, ci_6, ci_60, ci_63, ci_64, ci_7, ci_70, ci_8, ci_858993459, ci_9, ci_900, ci_97, ci_99, ci_999, ci_9999, cl_0, cl_1, cl_10, cl_1000000000000, cl_122, cl_2, cl_2000000000000, cl_23, cl_255, cl_27, cl_3, cl_4, cl_48, cl_57, cl_6, cl_8, cl_96, cl_97, cl_99, cl_999, cl_9999]
  have g1 := hm.2.1
  have hgu : 0 ≤ gu ∧ gu ≤ 16 := ⟨hm.1, hm.2.1⟩
  refine nlp5_i (fun l i _ _ _ => 0 ≤ i ∧ i ≤ gu ∧ l = sumN (exf ha) i.toNat) (fun _ i _ _ _ => (gu - i).toNat) ?_ ⟨by omega, by exact hm.1, rfl⟩
  intro l i z3 z4 z5 hi self hself
  obtain ⟨i1, i2, i3⟩ := hi
  have s := sumN_s (f := exf ha) i1
  have b := exs_b ha i.toNat
  refine cB_i (fun _ => ?_) (fun _ => ?_)
  · rw [i3, show i = gu by omega]; exact h _ _ _
  have hx : 0 ≤ i ∧ i < gu := ⟨i1, by omega⟩
  refine sm_isAstray ⟨i1, by omega⟩ (fun a => ?_) (fun a => ?_)
  rotate_left
  · refine jn4_i (cB_t rfl (wO_i (by simp only [iR]; omega) (hself _ _ _ _ _ ⟨by omega, by omega, ?_⟩ (by omega))))
    rw [s, exf_n a]; omega
  refine jn4_s (fun l' _ _ _ => l' = sumN (exf ha) (i + 1).toNat) (fun l' _ _ _ hl => wO_i (by simp only [iR]; omega) (hself _ _ _ _ _ ⟨by omega, by omega, hl⟩ (by omega))) (cB_f (by decide) ?_)
  refine sm_findChain hgu hm.2.2.2.1 hm.2.2.2.2.2.2.1 hx (fun n r c n1 n2 hc hd hend hr => ?_)
  have hc0 : ∀ j, j < n → 0 ≤ cs ha i j := fun j hj => (hc j hj).2
  refine nlp2_i (fun (t k : Int) => 1 ≤ k ∧ k ≤ n ∧ ((t = 1 ∧ ha (cs ha i (n - 1)) = i ∧ ∀ j : Nat, 1 ≤ j → j < k.toNat → i < cs ha i j) ∨ (t = 0 ∧ (ha (cs ha i (n - 1)) ≠ i ∨ ∃ j, j < n ∧ cs ha i j < i)))) (fun _ (k : Int) => ((n : Int) - k).toNat) ?_ ⟨by omega, by omega, ?_⟩
  rotate_left
  · rcases hr with ⟨q1, q2⟩ | ⟨q1, q2⟩
    · exact Or.inl ⟨q1, q2, fun j j1 j2 => by omega⟩
    · exact Or.inr ⟨q1, Or.inl q2⟩
  intro t k hk self2 hself2
  obtain ⟨k1, k2, k3⟩ := hk
  refine cB_i (fun e => jn1_i (cB_i (fun e1 => wO_i (by simp only [iR]; omega) ?_) (fun e1 => wO_i (by simp only [iR]; omega) ?_))) (fun e => ?_)
  · show l + 1 = _
    rcases k3 with ⟨q, _⟩ | ⟨_, q⟩
    · omega
    · rw [s, exf_1 hx.1 a n2 hc0 hend q]; omega
  · show l + 0 = _
    rcases k3 with ⟨_, q1, q2⟩ | ⟨q, _⟩
    · rw [s, exf_0 a n1 n2 (fun j hj => ?_) hend q1]
      · omega
      · by_cases j0 : j = 0
        · rw [j0]; exact Int.le_refl _
        · have := q2 j (by omega) (by omega); omega
    · exact absurd q e1
  · refine jn1_i (jn0_s (ha (cs ha i (n - 1)) ≠ i ∨ ∃ j, j < n ∧ cs ha i j < i) (fun q => wO_i (by simp only [iR]; omega) (hself2 _ _ ⟨by omega, by omega, Or.inr ⟨rfl, q⟩⟩ (by omega))) (cB_i (fun e1 => ?_) (fun e1 => wO_i (by simp only [inb]; omega) ?_)))
    · rcases k3 with ⟨q, _⟩ | ⟨_, q⟩
      · exact absurd (q.symm.trans e1) (by decide)
      · exact q
    · have ck := (hc k.toNat (by omega)).1
      rw [Int.toNat_of_nonneg (by omega)] at ck
      have cd := hd k.toNat (by omega) (by omega)
      refine cB_i (fun e2 => Or.inr ⟨k.toNat, by omega, by omega⟩) (fun e2 => wO_i (by simp only [iR]; omega) (hself2 _ _ ⟨by omega, by omega, Or.inl ⟨rfl, ?_⟩⟩ (by omega)))
      rcases k3 with ⟨_, q1, q2⟩ | ⟨q, _⟩
      · refine ⟨q1, fun j j1 j2 => ?_⟩
        by_cases ej : j = k.toNat
        · rw [ej]; omega
        · exact q2 j j1 (by omega)
      · exact absurd q e1
theorem sim_exch {gn gu cm ir : Int} {gh so ti ha hb hg ch : Int → Int} {K : Int → Int → Int → Int → (Int → Int) → Prop} (hm : mS gu so ti ha hb hg) (e : gn = gu) (hh : ∀ g, 0 ≤ g → g < gu → gh g = ha g) (h : ∀ r r' a b c, r = r' → K r r' a b c) : nf_H_exchanges gn gh fun r => nf_M_exchanges gu cm ir ha ch fun r' a b c => K r r' a b c := by
  subst e
  exact so_Hexch hm hh (sm_exch hm (fun _ _ _ => h _ _ _ _ _ rfl))
/-! asks -/
theorem bt_iand (a b k : Int) : bit (iand a b) k = (bit a k && bit b k) := by
  unfold bit iand
  rw [bv_ti, Int32.toBitVec_and, BitVec.getLsbD_and]
  rfl
theorem iR_iand {a b : Int} : iR (iand a b) := by
  unfold iand iR
  have h1 := (Int32.ofInt a &&& Int32.ofInt b).toInt_lt
  have h2 := (Int32.ofInt a &&& Int32.ofInt b).le_toInt
  omega
theorem bt_m1c : ∀ n : Nat, n < 32 → (BitVec.ofInt 32 (-1)).getLsbD n = true := by decide
theorem bt_m1 {k : Int} (h0 : 0 ≤ k) (h1 : k < 32) : bit (-1) k = true := bt_m1c k.toNat (by omega)
theorem ia_0 {a b : Int} : iand a b = 0 ↔ ∀ k, 0 ≤ k → k < 32 → (bit a k && bit b k) = false := by
  constructor
  · intro e k _ _
    rw [← bt_iand, e, bt_0]
  · intro h
    exact bit_x iR_iand (by simp only [iR]; omega) (fun k k0 k1 => by rw [bt_iand, h k k0 k1, bt_0])
theorem ask_b : ∀ y n m o s : Bool, (((y || (o && s)) && (m ^^ true)) = false ∧ ((n || ((o ^^ true) && s)) && m) = false) ↔ (((y && (m ^^ true)) = false ∧ (n && m) = false) ∧ ((m ^^ o) && s) = false) := by decide
theorem ask_e {y n m o s : Int} : (iand (ior y (iand o s)) (ixor m (-1)) = 0 ∧ iand (ior n (iand (ixor o (-1)) s)) m = 0) ↔ ((iand y (ixor m (-1)) = 0 ∧ iand n m = 0) ∧ iand (ixor m o) s = 0) := by
  simp only [ia_0, bt_ior, bt_iand, bt_ixor]
  constructor
  · rintro ⟨h1, h2⟩
    refine ⟨⟨fun k a b => ?_, fun k a b => ?_⟩, fun k a b => ?_⟩
    all_goals
      have q1 := h1 k a b
      have q2 := h2 k a b
      rw [bt_m1 a b] at q1 q2
      have g := (ask_b (bit y k) (bit n k) (bit m k) (bit o k) (bit s k)).mp ⟨q1, q2⟩
    · rw [bt_m1 a b]; exact g.1.1
    · exact g.1.2
    · exact g.2
  · rintro ⟨⟨h1, h2⟩, h3⟩
    refine ⟨fun k a b => ?_, fun k a b => ?_⟩
    all_goals
      have q1 := h1 k a b
      rw [bt_m1 a b] at q1 ⊢
      have g := (ask_b (bit y k) (bit n k) (bit m k) (bit o k) (bit s k)).mpr ⟨⟨q1, h2 k a b⟩, h3 k a b⟩
    · exact g.1
    · exact g.2
def hmf (gm : Int → Int) (a b c : Int) : Int → Int := fun t => if bit a t = true ∧ iand (ixor (gm t) b) c = 0 then 1 else 0
theorem hmf_b (gm : Int → Int) (a b c t : Int) : 0 ≤ hmf gm a b c t ∧ hmf gm a b c t ≤ 1 := by
  unfold hmf
  split <;> omega
theorem so_howManyAgree {n a b c : Int} {gm : Int → Int} {Q : Int → Prop} (hn : 0 ≤ n ∧ n ≤ 16) (h : Q (sumN (hmf gm a b c) n.toNat)) : nf_Claims_howManyAgree n gm a b c Q := by
  unfold nf_Claims_howManyAgree
  simp only [ci_m1, ci_m10, ci_m1001, ci_m1002, ci_m1003, ci_m1004, ci_0, ci_1, ci_10, ci_100, ci_1000, ci_10000, ci_101, ci_103, ci_104, ci_105, ci_107, ci_108, ci_110, ci_111, ci_114, ci_115, ci_116, ci_118, ci_119, ci_12, ci_122, ci_1431655765, ci_15, ci_16, ci_2, ci_20, ci_23, ci_24, ci_240, ci_252645135, ci_255, ci_256, ci_3, ci_32, ci_4, ci_420, ci_48, ci_5, ci_5040, ci_57, ci_59, ci_6, ci_60, ci_63, ci_64, ci_7, ci_70, ci_8, ci_858993459, ci_9, ci_900, ci_97, ci_99, ci_999, ci_9999, cl_0, cl_1, cl_10, cl_1000000000000, cl_122, cl_2, cl_2000000000000, cl_23, cl_255, cl_27, cl_3, cl_4, cl_48, cl_57, cl_6, cl_8, cl_96, cl_97, cl_99, cl_999, cl_9999]
  refine nlp2_i (fun r l => 0 ≤ l ∧ l ≤ n ∧ r = sumN (hmf gm a b c) l.toNat) (fun _ l => (n - l).toNat) ?_ ⟨by omega, by omega, rfl⟩
  intro r l hi self hself
  obtain ⟨i1, i2, i3⟩ := hi
  have s := sumN_s (f := hmf gm a b c) i1
  have b1 := sumN_nn (f := hmf gm a b c) l.toNat (fun k _ => (hmf_b gm a b c k).1)
  have b2 := sumN_b (f := hmf gm a b c) (M := 1) l.toNat (fun k _ => hmf_b gm a b c k)
  refine cB_i (fun _ => ?_) (fun _ => wL_i (wL_i (jn1_s (fun r' => r' = sumN (hmf gm a b c) (l + 1).toNat) (fun r' hr => wO_i (by simp only [iR]; omega) (hself _ _ ⟨by omega, by omega, hr⟩ (by omega))) ?_)))
  · rw [i3, show l = n by omega]; exact h
  have no : ¬ (bit a l = true ∧ iand (ixor (gm l) b) c = 0) → r = sumN (hmf gm a b c) (l + 1).toNat := fun q => by
    rw [s, show hmf gm a b c l = 0 from if_neg q]; omega
  refine cB_i (fun e => sp_marksOf (cB_t ⟨i1, by omega, by omega⟩ (wL_i (wL_i (cB_i (fun e2 => wO_i (by simp only [iR]; omega) ?_) (fun e2 => no (fun q => e2 q.2))))))) (fun e => no (fun q => e ((bt1 i1 (by omega)).mpr q.1)))
  show r + 1 = _
  rw [s, show hmf gm a b c l = 1 from if_pos ⟨(bt1 i1 (by omega)).mp e, e2⟩]
  omega
def bcx (x : Int) : Int :=
  let v3 := wsub x (iand (iushr x 1) 1431655765)
  let v7 := wadd (iand v3 858993459) (iand (iushr v3 2) 858993459)
  let v10 := iand (wadd v7 (iushr v7 4)) 252645135
  let v12 := wadd v10 (iushr v10 8)
  iand (wadd v12 (iushr v12 16)) 63
theorem bc_c : (List.range 256).all (fun n => bcx (n : Int) == cnt (n : Int) 16) = true := by decide +kernel
theorem so_bitCount {x : Int} {Q : Int → Prop} (hx : 0 ≤ x ∧ x ≤ 255) (h : Q (cnt x 16)) : nf_bitCount x Q := by
  have a1 := eq_of_beq (List.all_eq_true.mp bc_c x.toNat (List.mem_range.mpr (by omega)))
  rw [Int.toNat_of_nonneg hx.1] at a1
  unfold nf_bitCount
  simp only [ci_m1, ci_m10, ci_m1001, ci_m1002, ci_m1003, ci_m1004, ci_0, ci_1, ci_10, ci_100, ci_1000, ci_10000, ci_101, ci_103, ci_104, ci_105, ci_107, ci_108, ci_110, ci_111, ci_114, ci_115, ci_116, ci_118, ci_119, ci_12, ci_122, ci_1431655765, ci_15, ci_16, ci_2, ci_20, ci_23, ci_24, ci_240, ci_252645135, ci_255, ci_256, ci_3, ci_32, ci_4, ci_420, ci_48, ci_5, ci_5040, ci_57, ci_59, ci_6, ci_60, ci_63, ci_64, ci_7, ci_70, ci_8, ci_858993459, ci_9, ci_900, ci_97, ci_99, ci_999, ci_9999, cl_0, cl_1, cl_10, cl_1000000000000, cl_122, cl_2, cl_2000000000000, cl_23, cl_255, cl_27, cl_3, cl_4, cl_48, cl_57, cl_6, cl_8, cl_96, cl_97, cl_99, cl_999, cl_9999, wL]
  rw [← a1] at h
  exact h
def bst (v : Int → Int) : Nat → Int
  | 0 => -1
  | n + 1 => if (bst v n = -1 ∨ cnt (n : Int) 16 < cnt (bst v n) 16) ∧ v (n : Int) = 1 then (n : Int) else bst v n
theorem bst_s {v : Int → Int} {s : Int} (h : 0 ≤ s) : bst v (s + 1).toNat = if (bst v s.toNat = -1 ∨ cnt s 16 < cnt (bst v s.toNat) 16) ∧ v s = 1 then s else bst v s.toNat := by
  rw [show (s + 1).toNat = s.toNat + 1 by omega]
  have : bst v (s.toNat + 1) = if (bst v s.toNat = -1 ∨ cnt ((s.toNat : Nat) : Int) 16 < cnt (bst v s.toNat) 16) ∧ v ((s.toNat : Nat) : Int) = 1 then ((s.toNat : Nat) : Int) else bst v s.toNat := rfl
  rw [this, Int.toNat_of_nonneg h]
theorem bst_b (v : Int → Int) : ∀ n : Nat, -1 ≤ bst v n ∧ bst v n < n := by
  intro n
  induction n with
  | zero => exact ⟨by show (-1 : Int) ≤ -1; omega, by show (-1 : Int) < 0; omega⟩
  | succ n ih =>
    have e : bst v (n + 1) = if (bst v n = -1 ∨ cnt (n : Int) 16 < cnt (bst v n) 16) ∧ v (n : Int) = 1 then (n : Int) else bst v n := rfl
    rw [e]
    split <;> omega
theorem bst_c {v w : Int → Int} : ∀ n : Nat, (∀ k : Nat, k < n → v k = w k) → bst v n = bst w n := by
  intro n
  induction n with
  | zero => intro _; rfl
  | succ n ih =>
    intro h
    show (if (bst v n = -1 ∨ _) ∧ v n = 1 then _ else bst v n) = (if (bst w n = -1 ∨ _) ∧ w n = 1 then _ else bst w n)
    rw [ih (fun k hk => h k (by omega)), h n (by omega)]
theorem so_fewest {n cn c : Int} {gk gm gp cg cy cz : Int → Int} {Q : Int → Prop} (hn : 0 ≤ n ∧ n ≤ 16) (hc : 0 ≤ c ∧ c < cn ∧ c < 6) (hcg : 0 ≤ cg c ∧ cg c < n) (h : ∀ r, iR r → (∀ t, 0 ≤ t → t < 32 → (bit r t = true ↔ fitC n gk gm gp cg cy cz c t)) → Q (bst (fun s => sumN (hmf gm r (gm (cg c)) s) n.toNat) 256)) : nf_Claims_fewestAsked n gk gm gp cn cg cy cz c Q := by
  unfold nf_Claims_fewestAsked
  simp only [ci_m1, ci_m10, ci_m1001, ci_m1002, ci_m1003, ci_m1004, ci_0, ci_1, ci_10, ci_100, ci_1000, ci_10000, ci_101, ci_103, ci_104, ci_105, ci_107, ci_108, ci_110, ci_111, ci_114, ci_115, ci_116, ci_118, ci_119, ci_12, ci_122, ci_1431655765, ci_15, ci_16, ci_2, ci_20, ci_23, ci_24, ci_240, ci_252645135, ci_255, ci_256, ci_3, ci_32, ci_4, ci_420, ci_48, ci_5, ci_5040, ci_57, ci_59, ci_6, ci_60, ci_63, ci_64, ci_7, ci_70, ci_8, ci_858993459, ci_9, ci_900, ci_97, ci_99, ci_999, ci_9999, cl_0, cl_1, cl_10, cl_1000000000000, cl_122, cl_2, cl_2000000000000, cl_23, cl_255, cl_27, cl_3, cl_4, cl_48, cl_57, cl_6, cl_8, cl_96, cl_97, cl_99, cl_999, cl_9999]
  refine so_thingsFor hn hc hcg (fun r1 r2 r3 => ?_)
  refine sp_guestOf (cB_t hc (sp_marksOf (cB_t ⟨hcg.1, hcg.2, by omega⟩ ?_)))
  refine nlp2_i (fun b s => 0 ≤ s ∧ s ≤ 256 ∧ b = bst (fun s => sumN (hmf gm r1 (gm (cg c)) s) n.toNat) s.toNat) (fun _ s => (256 - s).toNat) ?_ ⟨by omega, by omega, rfl⟩
  intro b s hi self hself
  obtain ⟨i1, i2, i3⟩ := hi
  have hb := bst_b (fun s => sumN (hmf gm r1 (gm (cg c)) s) n.toNat) s.toNat
  have hs := bst_s (v := fun s => sumN (hmf gm r1 (gm (cg c)) s) n.toNat) i1
  rw [← i3] at hb hs
  refine cB_i (fun _ => ?_) (fun _ => ?_)
  · rw [i3, show s = 256 by omega]; exact h r1 r2 r3
  refine jn1_s (fun t => (t = 1 ∧ (b = -1 ∨ cnt s 16 < cnt b 16)) ∨ (t = 0 ∧ ¬ (b = -1 ∨ cnt s 16 < cnt b 16))) (fun t ht => ?_) (jn0_s (b = -1 ∨ cnt s 16 < cnt b 16) (fun q => Or.inl ⟨rfl, q⟩) (cB_i (fun e => Or.inl e) (fun e => so_bitCount ⟨i1, by omega⟩ (so_bitCount ⟨by omega, by omega⟩ (cB_i (fun e2 => Or.inr ⟨rfl, fun q => by omega⟩) (fun e2 => Or.inr (by omega)))))))
  refine jn1_s (fun b' => b' = bst (fun s => sumN (hmf gm r1 (gm (cg c)) s) n.toNat) (s + 1).toNat) (fun b' hb' => wO_i (by simp only [iR]; omega) (hself _ _ ⟨by omega, by omega, hb'⟩ (by omega))) (cB_i (fun e => ?_) (fun e => so_howManyAgree hn (cB_i (fun e2 => ?_) (fun e2 => ?_))))
  · rcases ht with ⟨q, _⟩ | ⟨_, q⟩
    · omega
    · rw [hs, if_neg (fun w => q w.1)]
  · rcases ht with ⟨_, q⟩ | ⟨q, _⟩
    · rw [hs, if_pos ⟨q, e2⟩]
    · omega
  · rw [hs, if_neg (fun w => e2 w.2)]
theorem sm_asks {pg cl c : Int} {pk hg ki mk cg cy cn v : Int → Int} {Q : Int → Prop} (hpg : 0 ≤ pg ∧ pg ≤ 24) (hcl : 0 ≤ cl ∧ cl ≤ 6) (hh : ∀ p, 0 ≤ p → p < 24 → -1 ≤ hg p ∧ hg p < 16) (hcg : ∀ c, 0 ≤ c → c < 6 → 0 ≤ cg c ∧ cg c < 16) (hc : 0 ≤ c ∧ c < cl) (hv : ∀ s r, 0 ≤ s → s < 256 → iR r → (∀ t, 0 ≤ t → t < 32 → (bit r t = true ↔ fitM pg pk hg mk (ki (cg c)) (ior (cy c) (iand (mk (cg c)) s)) (ior (cn c) (iand (ixor (mk (cg c)) (-1)) s)) t)) → cnt r 16 = v s) (h : Q (bst v 256)) : nf_M_asks pg cl pk hg ki mk cg cy cn c Q := by
  unfold nf_M_asks
  simp only [ci_m1, ci_m10, ci_m1001, ci_m1002, ci_m1003, ci_m1004, ci_0, ci_1, ci_10, ci_100, ci_1000, ci_10000, ci_101, ci_103, ci_104, ci_105, ci_107, ci_108, ci_110, ci_111, ci_114, ci_115, ci_116, ci_118, ci_119, ci_12, ci_122, ci_1431655765, ci_15, ci_16, ci_2, ci_20, ci_23, ci_24, ci_240, ci_252645135, ci_255, ci_256, ci_3, ci_32, ci_4, ci_420, ci_48, ci_5, ci_5040, ci_57, ci_59, ci_6, ci_60, ci_63, ci_64, ci_7, ci_70, ci_8, ci_858993459, ci_9, ci_900, ci_97, ci_99, ci_999, ci_9999, cl_0, cl_1, cl_10, cl_1000000000000, cl_122, cl_2, cl_2000000000000, cl_23, cl_255, cl_27, cl_3, cl_4, cl_48, cl_57, cl_6, cl_8, cl_96, cl_97, cl_99, cl_999, cl_9999]
  have g := hcg c hc.1 (by omega)
  have ic : inb c 6 := by simp only [inb]; omega
  have ig : inb (cg c) 16 := by simp only [inb]; omega
  refine sp_isClaim hcl (cB_t hc (cB_f (by decide) (wO_i ic ?_)))
  refine nlp2_i (fun b s => 0 ≤ s ∧ s ≤ 256 ∧ b = bst v s.toNat) (fun _ s => (256 - s).toNat) ?_ ⟨by omega, by omega, rfl⟩
  intro b s hi self hself
  obtain ⟨i1, i2, i3⟩ := hi
  have hb := bst_b v s.toNat
  have hs := bst_s (v := v) i1
  rw [← i3] at hb hs
  refine cB_i (fun _ => ?_) (fun _ => ?_)
  · rw [i3, show s = 256 by omega]; exact h
  refine wO_i ig (wO_i ic (wO_i ig (wL_i (wL_i (wO_i ic (wO_i ig (wL_i (wL_i (wL_i (sm_fitting hpg hh (fun r i4 i5 => ?_)))))))))))
  have hr := hv s r i1 (by omega) i4 i5
  refine st_bits ?_
  rw [hr]
  refine jn1_s (fun b' => b' = bst v (s + 1).toNat) (fun b' hb' => wO_i (by simp only [iR]; omega) (hself _ _ ⟨by omega, by omega, hb'⟩ (by omega))) ?_
  refine jn0_s (¬ ((b = -1 ∨ cnt s 16 < cnt b 16) ∧ v s = 1)) (fun q => by rw [hs, if_neg q]) (cB_i (fun e => ?_) (fun e => fun q => e q.2))
  refine jn0_s (b = -1 ∨ cnt s 16 < cnt b 16) (fun q => by rw [hs, if_pos ⟨q, e⟩]) (cB_i (fun e2 => Or.inl (by omega)) (fun e2 => st_bits (st_bits (cB_i (fun e3 => fun q => by omega) (fun e3 => Or.inr (by omega))))))
theorem cnt_sum (x : Int) : ∀ n : Nat, cnt x n = sumN (fun t => if bit x t = true then 1 else 0) n := by
  intro n
  induction n with
  | zero => rfl
  | succ n ih =>
    show cnt x n + _ = sumN _ n + _
    rw [ih]
theorem sumN_x {f g : Int → Int} {m : Nat} : ∀ n : Nat, m ≤ n → (∀ k : Nat, k < m → f k = g k) → (∀ k : Nat, m ≤ k → k < n → f k = 0) → sumN f n = sumN g m := by
  intro n
  induction n with
  | zero =>
    intro hm h1 _
    have : m = 0 := by omega
    subst this; rfl
  | succ n ih =>
    intro hm h1 h2
    by_cases e : m = n + 1
    · subst e
      exact sumN_c _ h1
    · show sumN f n + f n = _
      rw [ih (by omega) h1 (fun k a b => h2 k a (by omega)), h2 n (by omega) (by omega), Int.add_zero]
theorem sim_asks {pg gn en cn nn gu ev cl ni x : Int} {pk gs gk gt gm gb gp gh ef cg cy cz nl so ki ti mk br ha hb hg er mg my mz pl we le : Int → Int} {K : Int → Int → Prop} (hpg : 0 ≤ pg ∧ pg ≤ 24) (hm : mF gu ev cl ni so ti ha hb hg er mg le) (hs : RS pg pk gn gs gk gt gm gb gp gh en ef cn cg cy cz nn nl gu so ki ti mk br ha hb hg ev er cl mg my mz ni pl we le) (h : ∀ r r', r = r' → K r r') : nf_H_asks gn gk gm gp cn cg cy cz x fun r => nf_M_asks pg cl pk hg ki mk mg my mz x fun r' => K r r' := by
  have hs0 := hs
  have hgu : 0 ≤ gu ∧ gu ≤ 16 := ⟨hm.1.1, hm.1.2.1⟩
  have hCl := hm.2.2.1
  obtain ⟨⟨rfl, rfl, rfl, rfl⟩, G, P, E, FF, C, N⟩ := hs
  unfold nf_H_asks
  simp only [ci_m1, ci_m10, ci_m1001, ci_m1002, ci_m1003, ci_m1004, ci_0, ci_1, ci_10, ci_100, ci_1000, ci_10000, ci_101, ci_103, ci_104, ci_105, ci_107, ci_108, ci_110, ci_111, ci_114, ci_115, ci_116, ci_118, ci_119, ci_12, ci_122, ci_1431655765, ci_15, ci_16, ci_2, ci_20, ci_23, ci_24, ci_240, ci_252645135, ci_255, ci_256, ci_3, ci_32, ci_4, ci_420, ci_48, ci_5, ci_5040, ci_57, ci_59, ci_6, ci_60, ci_63, ci_64, ci_7, ci_70, ci_8, ci_858993459, ci_9, ci_900, ci_97, ci_99, ci_999, ci_9999, cl_0, cl_1, cl_10, cl_1000000000000, cl_122, cl_2, cl_2000000000000, cl_23, cl_255, cl_27, cl_3, cl_4, cl_48, cl_57, cl_6, cl_8, cl_96, cl_97, cl_99, cl_999, cl_9999]
  refine sp_cknows (cB_i (fun a => cB_f (by decide) ?_) (fun a => cB_t rfl ?_))
  · have cx := C x a.1 a.2.1
    have c1 := cx.1.1
    have c2 := cx.2.1
    refine so_fewest hgu a (by rw [c1]; exact c2) (fun r1 i1 b1 => sm_asks hpg hCl (RS_hh hm) hm.2.2.2.2.2.1 ⟨a.1, a.2.1⟩ (fun s r s0 s1 r0 hr => ?_) (h _ _ rfl))
    rw [cnt_sum]
    have fit : ∀ t : Nat, t < 16 → (bit r t = true ↔ ((t : Int) < gn ∧ bit r1 t = true ∧ iand (ixor (mk t) (mk (mg x))) s = 0)) := fun t ht => by
      rw [hr t (by omega) (by omega), b1 t (by omega) (by omega)]
      have f2 := RS_fit hpg hm hs0 ⟨a.1, a.2.1⟩ (show (0 : Int) ≤ (t : Int) by omega)
      constructor
      · rintro ⟨p, p0, p1, p2, p3, p45⟩
        obtain ⟨p4, p5⟩ := ask_e.mp p45
        have q := f2.mpr ⟨p, p0, p1, p2, p3, p4⟩
        exact ⟨q.2.1, q, p5⟩
      · rintro ⟨_, q1, q2⟩
        obtain ⟨p, p0, p1, p2, p3, p4⟩ := f2.mp q1
        exact ⟨p, p0, p1, p2, p3, ask_e.mpr ⟨p4, q2⟩⟩
    refine sumN_x 16 (by omega) (fun k hk => ?_) (fun k k0 k1 => if_neg (fun q => by have := ((fit k (by omega)).mp q).1; omega))
    have f3 := fit k (by omega)
    have gk1 : gm k = mk k := (G k (by omega) (by omega)).1.2.2.2.1
    have gk2 : gm (cg x) = mk (mg x) := by
      rw [c1]; exact (G (mg x) c2.1 c2.2).1.2.2.2.1
    have w1 : (if bit r k = true then (1 : Int) else 0) = (if bit r1 k = true ∧ iand (ixor (gm k) (gm (cg x))) s = 0 then (1 : Int) else 0) := by
      rw [gk1, gk2]
      by_cases q : bit r k = true
      · rw [if_pos q, if_pos (f3.mp q).2]
      · rw [if_neg q, if_neg (fun w => q (f3.mpr ⟨by omega, w⟩))]
    exact w1
  · unfold nf_M_asks
    simp only [ci_m1, ci_m10, ci_m1001, ci_m1002, ci_m1003, ci_m1004, ci_0, ci_1, ci_10, ci_100, ci_1000, ci_10000, ci_101, ci_103, ci_104, ci_105, ci_107, ci_108, ci_110, ci_111, ci_114, ci_115, ci_116, ci_118, ci_119, ci_12, ci_122, ci_1431655765, ci_15, ci_16, ci_2, ci_20, ci_23, ci_24, ci_240, ci_252645135, ci_255, ci_256, ci_3, ci_32, ci_4, ci_420, ci_48, ci_5, ci_5040, ci_57, ci_59, ci_6, ci_60, ci_63, ci_64, ci_7, ci_70, ci_8, ci_858993459, ci_9, ci_900, ci_97, ci_99, ci_999, ci_9999, cl_0, cl_1, cl_10, cl_1000000000000, cl_122, cl_2, cl_2000000000000, cl_23, cl_255, cl_27, cl_3, cl_4, cl_48, cl_57, cl_6, cl_8, cl_96, cl_97, cl_99, cl_999, cl_9999]
    exact sp_isClaim hCl (cB_f (fun v => a ⟨v.1, v.2, by omega⟩) (cB_t rfl (h _ _ rfl)))
