/-! IN STEP 2: the class's reader keeps to the grammar -/
theorem pWord_l {T : Int → Int} {n a : Int} {si : Nat} {x : Int × Int} (h : pWord T n a si = .inl x) : x.1 ≠ 0 := by
  unfold pWord at h
  split at h
  · cases h
  · cases h; show (1 : Int) ≠ 0; omega
theorem pWord_r {T : Int → Int} {n a b : Int} {si : Nat} (hn : a ≤ n) (h : pWord T n a si = .inr b) : a ≤ b ∧ b ≤ n := by
  have hs := sk_p (T := T) hn
  unfold pWord at h
  split at h
  · cases h
    rename_i e
    have := (iw_t.mp e).1
    omega
  · cases h
theorem pEnd_l {T : Int → Int} {n a : Int} {x : Int × Int} (h : pEnd T n a = .inl x) : x.1 ≠ 0 := by
  unfold pEnd at h
  split at h
  · cases h
  · cases h; show (1 : Int) ≠ 0; omega
theorem pEnd_r {T : Int → Int} {n a b : Int} (hn : a ≤ n) (h : pEnd T n a = .inr b) : a < b ∧ b ≤ n := by
  have hs := sk_p (T := T) hn
  unfold pEnd at h
  split at h
  · cases h; omega
  · cases h
theorem pNum_l {T : Int → Int} {n a lo hi : Int} {x : Int × Int} (h : pNum T n a lo hi = .inl x) : x.1 ≠ 0 := by
  unfold pNum at h
  split at h
  · cases h; show (1 : Int) ≠ 0; omega
  · split at h
    · cases h
    · cases h; show (2 : Int) ≠ 0; omega
theorem pNum_r {T : Int → Int} {n a lo hi : Int} {y : Int × Int × Int} (hn : a ≤ n) (h : pNum T n a lo hi = .inr y) : lo ≤ y.1 ∧ y.1 ≤ hi ∧ a ≤ y.2.1 ∧ y.2.1 < y.2.2 ∧ y.2.2 ≤ n := by
  have hs := sk_p (T := T) hn
  have hf := fg_p (T := T) hs.2.1
  unfold pNum at h
  split at h
  · cases h
  · split at h
    · cases h
      rename_i e1 e2
      refine ⟨e2.2.1, e2.2.2, hs.1, ?_, hf.2.1⟩
      show sk T n a < fg T n (sk T n a)
      omega
    · cases h
theorem sf_fail {p f x w : Int} {Q : Int → Int → Prop} (hf : f ≠ 0) (h : Q p f) : nf_Reader_fail p f x w Q := sp_fail (cB_f hf h)
theorem sf_word {n p f a : Int} {F : Int → Int} {si : Nat} {Q : Int → Int → Int → Prop} (hsi : si < 7) (hf : f ≠ 0) (hn : 0 ≤ n ∧ n ≤ 240) (ha : 0 ≤ a ∧ a ≤ n) (h : ∀ a', 0 ≤ a' → a' ≤ n → Q p f a') : nf_Reader_needWord n p f a F si Q := by
  unfold nf_Reader_needWord
  simp only [ci_m1, ci_m10, ci_m1001, ci_m1002, ci_m1003, ci_m1004, ci_0, ci_1, ci_10, ci_100, ci_1000, ci_10000, ci_101, ci_103, ci_104, ci_105, ci_107, ci_108, ci_110, ci_111, ci_114, ci_115, ci_116, ci_118, ci_119, ci_12, ci_122, ci_1431655765, ci_15, ci_16, ci_2, ci_20, ci_23, ci_24, ci_240, ci_252645135, ci_255, ci_256, ci_3, ci_32, ci_4, ci_420, ci_48, ci_5, ci_5040, ci_57, ci_59, ci_6, ci_60, ci_63, ci_64, ci_7, ci_70, ci_8, ci_858993459, ci_9, ci_900, ci_97, ci_99, ci_999, ci_9999, cl_0, cl_1, cl_10, cl_1000000000000, cl_122, cl_2, cl_2000000000000, cl_23, cl_255, cl_27, cl_3, cl_4, cl_48, cl_57, cl_6, cl_8, cl_96, cl_97, cl_99, cl_999, cl_9999]
  have hl := sl_b si hsi
  refine st_skipBlanks hn ha (fun a1 a2 a3 => st_isHere hsi hn ⟨by omega, a3⟩ (fun e => ?_) ?_)
  · exact cB_f (by decide) (wL_i (wO_i (by (try simp only [iR]); omega) (h _ (by omega) (by omega))))
  · exact cB_t rfl (sf_fail hf (h _ (by omega) (by omega)))
theorem sf_end {n p f a : Int} {F : Int → Int} {Q : Int → Int → Int → Prop} (hf : f ≠ 0) (hn : 0 ≤ n ∧ n ≤ 240) (ha : 0 ≤ a ∧ a ≤ n) (h : ∀ a', 0 ≤ a' → a' ≤ n → Q p f a') : nf_Reader_needEnd n p f a F Q := by
  unfold nf_Reader_needEnd
  simp only [ci_m1, ci_m10, ci_m1001, ci_m1002, ci_m1003, ci_m1004, ci_0, ci_1, ci_10, ci_100, ci_1000, ci_10000, ci_101, ci_103, ci_104, ci_105, ci_107, ci_108, ci_110, ci_111, ci_114, ci_115, ci_116, ci_118, ci_119, ci_12, ci_122, ci_1431655765, ci_15, ci_16, ci_2, ci_20, ci_23, ci_24, ci_240, ci_252645135, ci_255, ci_256, ci_3, ci_32, ci_4, ci_420, ci_48, ci_5, ci_5040, ci_57, ci_59, ci_6, ci_60, ci_63, ci_64, ci_7, ci_70, ci_8, ci_858993459, ci_9, ci_900, ci_97, ci_99, ci_999, ci_9999, cl_0, cl_1, cl_10, cl_1000000000000, cl_122, cl_2, cl_2000000000000, cl_23, cl_255, cl_27, cl_3, cl_4, cl_48, cl_57, cl_6, cl_8, cl_96, cl_97, cl_99, cl_999, cl_9999]
  refine st_skipBlanks hn ha (fun a1 a2 a3 => sp_byteAt (cB_i (fun e => ?_) (fun e => cB_f (by decide) ?_)))
  · exact cB_i (fun _ => wO_i (by (try simp only [iR]); omega) (h _ (by omega) (by omega))) (fun _ => sf_fail hf (h _ (by omega) (by omega)))
  · exact sf_fail hf (h _ (by omega) (by omega))
theorem sf_num {n p f a ff x y : Int} {F : Int → Int} {Q : Int → Int → Int → Int → Int → Prop} (hf : f ≠ 0) (hn : 0 ≤ n ∧ n ≤ 240) (ha : 0 ≤ a ∧ a ≤ n) (h : ∀ r a' ff', 0 ≤ r → r ≤ 999 → 0 ≤ a' → a' ≤ n → Q r p f a' ff') : nf_Reader_needNumber n p f a ff F x y Q := by
  unfold nf_Reader_needNumber
  simp only [ci_m1, ci_m10, ci_m1001, ci_m1002, ci_m1003, ci_m1004, ci_0, ci_1, ci_10, ci_100, ci_1000, ci_10000, ci_101, ci_103, ci_104, ci_105, ci_107, ci_108, ci_110, ci_111, ci_114, ci_115, ci_116, ci_118, ci_119, ci_12, ci_122, ci_1431655765, ci_15, ci_16, ci_2, ci_20, ci_23, ci_24, ci_240, ci_252645135, ci_255, ci_256, ci_3, ci_32, ci_4, ci_420, ci_48, ci_5, ci_5040, ci_57, ci_59, ci_6, ci_60, ci_63, ci_64, ci_7, ci_70, ci_8, ci_858993459, ci_9, ci_900, ci_97, ci_99, ci_999, ci_9999, cl_0, cl_1, cl_10, cl_1000000000000, cl_122, cl_2, cl_2000000000000, cl_23, cl_255, cl_27, cl_3, cl_4, cl_48, cl_57, cl_6, cl_8, cl_96, cl_97, cl_99, cl_999, cl_9999]
  refine st_skipBlanks hn ha (fun a1 a2 a3 => ?_)
  refine nlp2_i (fun v i => a1 ≤ i ∧ i ≤ n ∧ 0 ≤ v ∧ v ≤ 999 ∧ (i = a1 → v = 0) ∧ (i = a1 + 1 → v ≤ 9) ∧ (i = a1 + 2 → v ≤ 99)) (fun _ i => (n - i).toNat) ?_ ⟨by omega, by omega, by omega, by omega, by omega, by omega, by omega⟩
  intro v i hi self hself
  obtain ⟨i1, i2, i3, i4, i5, i6, i7⟩ := hi
  have go : Q v p f i a1 := h _ _ _ i3 i4 (by omega) i2
  refine jn0_s True (fun _ => ?_) ?_
  · refine cB_i (fun _ => sf_fail hf go) (fun _ => wO_i (by (try simp only [iR]); omega) (jn0_i ?_))
    exact cB_i (fun _ => sf_fail hf go) (fun _ => sp_within (cB_i (fun _ => cB_f (by decide) go) (fun _ => cB_t rfl (sf_fail hf go))))
  · refine cB_i (fun _ => trivial) (fun _ => sp_isFigure (cB_i (fun hg => cB_f (by decide) ?_) (fun _ => cB_t rfl trivial)))
    refine wO_i (by (try simp only [iR]); omega) (jn1_s (fun v' => 0 ≤ v' ∧ v' ≤ 999 ∧ (i = a1 → v' ≤ 9) ∧ (i = a1 + 1 → v' ≤ 99)) (fun v' hv => wO_i (by (try simp only [iR]); omega) (hself _ _ ⟨by omega, by omega, by omega, by omega, by omega, by omega, by omega⟩ (by omega))) ?_)
    refine cB_i (fun _ => ⟨by omega, by omega, by omega, by omega⟩) (fun _ => wO_i (by (try simp only [iR]); omega) (sp_byteAt (cB_i (fun _ => ?_) (fun hz => by omega))))
    exact wO_i (by (try simp only [iR]); omega) (wO_i (by (try simp only [iR]); omega) ⟨by omega, by omega, by omega, by omega⟩)
theorem sf_tell {p f t b w : Int} {Q : Int → Int → Int → Prop} (hf : f ≠ 0) (h : ∀ t', Q p f t') : nf_Reader_tellOnce p f t b w Q := by
  unfold nf_Reader_tellOnce
  simp only [ci_m1, ci_m10, ci_m1001, ci_m1002, ci_m1003, ci_m1004, ci_0, ci_1, ci_10, ci_100, ci_1000, ci_10000, ci_101, ci_103, ci_104, ci_105, ci_107, ci_108, ci_110, ci_111, ci_114, ci_115, ci_116, ci_118, ci_119, ci_12, ci_122, ci_1431655765, ci_15, ci_16, ci_2, ci_20, ci_23, ci_24, ci_240, ci_252645135, ci_255, ci_256, ci_3, ci_32, ci_4, ci_420, ci_48, ci_5, ci_5040, ci_57, ci_59, ci_6, ci_60, ci_63, ci_64, ci_7, ci_70, ci_8, ci_858993459, ci_9, ci_900, ci_97, ci_99, ci_999, ci_9999, cl_0, cl_1, cl_10, cl_1000000000000, cl_122, cl_2, cl_2000000000000, cl_23, cl_255, cl_27, cl_3, cl_4, cl_48, cl_57, cl_6, cl_8, cl_96, cl_97, cl_99, cl_999, cl_9999]
  exact wL_i (jn2_s (fun a b => a = p ∧ b = f) (fun a b hab => wL_i (by rw [hab.1, hab.2]; exact h _)) (cB_i (fun _ => ⟨rfl, rfl⟩) (fun _ => sf_fail hf ⟨rfl, rfl⟩)))
theorem sx_isFigure {n i : Int} {F T : Int → Int} {Q : Int → Prop} (ht : tx n F T) (h : cB (0 ≤ i ∧ i < n ∧ 48 ≤ T i ∧ T i ≤ 57) (Q 1) (Q 0)) : nf_Reader_isFigure n F i Q := by
  have hn := ht.1
  refine sp_isFigure (cB_i (fun a => h.1 ?_) (fun a => h.2 (fun b => a ?_)))
  · have := ht.2 i a.1 a.2.1
    omega
  · have := ht.2 i b.1 b.2.1
    omega
theorem so_num {n a ff lo hi : Int} {F T : Int → Int} {Q : Int → Int → Int → Int → Int → Prop} (ht : tx n F T) (ha : 0 ≤ a ∧ a ≤ n) (h : match pNum T n a lo hi with
    | .inl x => ∀ r a' ff', 0 ≤ r → r ≤ 999 → 0 ≤ a' → a' ≤ n → Q r x.2 x.1 a' ff'
    | .inr y => Q y.1 (-1) 0 y.2.2 y.2.1) : nf_Reader_needNumber n (-1) 0 a ff F lo hi Q := by
  unfold nf_Reader_needNumber
  simp only [ci_m1, ci_m10, ci_m1001, ci_m1002, ci_m1003, ci_m1004, ci_0, ci_1, ci_10, ci_100, ci_1000, ci_10000, ci_101, ci_103, ci_104, ci_105, ci_107, ci_108, ci_110, ci_111, ci_114, ci_115, ci_116, ci_118, ci_119, ci_12, ci_122, ci_1431655765, ci_15, ci_16, ci_2, ci_20, ci_23, ci_24, ci_240, ci_252645135, ci_255, ci_256, ci_3, ci_32, ci_4, ci_420, ci_48, ci_5, ci_5040, ci_57, ci_59, ci_6, ci_60, ci_63, ci_64, ci_7, ci_70, ci_8, ci_858993459, ci_9, ci_900, ci_97, ci_99, ci_999, ci_9999, cl_0, cl_1, cl_10, cl_1000000000000, cl_122, cl_2, cl_2000000000000, cl_23, cl_255, cl_27, cl_3, cl_4, cl_48, cl_57, cl_6, cl_8, cl_96, cl_97, cl_99, cl_999, cl_9999]
  have hs := sk_p (T := T) ha.2
  have hn := ht.1
  refine sx_skip ht ha ?_
  unfold pNum at h
  generalize sk T n a = s at *
  refine nlp2_i (fun v z => s ≤ z ∧ z ≤ n ∧ (∀ j, s ≤ j → j < z → 48 ≤ T j ∧ T j ≤ 57) ∧ (z - s ≤ 3 → v = dc T s (z - s).toNat) ∧ 0 ≤ v ∧ v ≤ 999 ∧ (z = s → v = 0) ∧ (z = s + 1 → v ≤ 9) ∧ (z = s + 2 → v ≤ 99)) (fun _ z => (n - z).toNat) ?_ ⟨by omega, by omega, by omega, fun _ => dc_0.symm, by omega, by omega, by omega, by omega, by omega⟩
  intro v z hi self hself
  obtain ⟨i1, i2, i3, i4, i5, i6, i7, i8, i9⟩ := hi
  refine jn0_s (z < n → ¬ (48 ≤ T z ∧ T z ≤ 57)) (fun hz => ?_) ?_
  · rw [fg_u i1 i2 i3 hz] at h
    refine cB_i (fun e => sp_fail (cB_t rfl ?_)) (fun e => wO_i (by (try simp only [iR]); omega) ?_)
    · rw [if_pos e] at h
      exact h _ _ _ i5 i6 (by omega) i2
    · rw [if_neg e] at h
      have two : ¬ (z - s ≤ 3 ∧ lo ≤ dc T s (z - s).toNat ∧ dc T s (z - s).toNat ≤ hi) → Q v s 2 z s := fun hq => by
        rw [if_neg hq] at h
        exact h _ _ _ i5 i6 (by omega) i2
      refine jn0_s (¬ (z - s ≤ 3 ∧ lo ≤ dc T s (z - s).toNat ∧ dc T s (z - s).toNat ≤ hi)) (fun hq => sp_fail (cB_t rfl (two hq))) ?_
      refine cB_i (fun e3 => fun hq => by omega) (fun e3 => sp_within (cB_i (fun e4 => cB_f (by decide) ?_) (fun e4 => cB_t rfl (fun hq => e4 ?_))))
      · have ev := i4 (by omega)
        rw [if_pos (by rw [← ev]; exact ⟨by omega, e4.1, e4.2⟩)] at h
        rw [← ev] at h
        exact h
      · rw [i4 hq.1]; exact hq.2
  · refine cB_i (fun _ => by omega) (fun _ => sx_isFigure ht (cB_i (fun hg => cB_f (by decide) ?_) (fun hg => cB_t rfl (fun _ => fun hq => hg ⟨by omega, by omega, hq.1, hq.2⟩))))
    have hfg : ∀ j, s ≤ j → j < z + 1 → 48 ≤ T j ∧ T j ≤ 57 := fun j a b => by
      by_cases e : j = z
      · rw [e]; exact ⟨hg.2.2.1, hg.2.2.2⟩
      · exact i3 j a (by omega)
    refine wO_i (by (try simp only [iR]); omega) (jn1_s (fun v' => 0 ≤ v' ∧ v' ≤ 999 ∧ (z = s → v' ≤ 9) ∧ (z = s + 1 → v' ≤ 99) ∧ (z + 1 - s ≤ 3 → v' = dc T s (z + 1 - s).toNat)) (fun v' hv => wO_i (by (try simp only [iR]); omega) (hself _ _ ⟨by omega, by omega, hfg, hv.2.2.2.2, hv.1, hv.2.1, by omega, by omega, by omega⟩ (by omega))) ?_)
    refine cB_i (fun _ => ⟨by omega, by omega, by omega, by omega, by omega⟩) (fun _ => wO_i (by (try simp only [iR]); omega) (sx_byteAt ht (cB_i (fun _ => ?_) (fun hz => by omega))))
    refine wO_i (by (try simp only [iR]); omega) (wO_i (by (try simp only [iR]); omega) ⟨by omega, by omega, by omega, by omega, fun _ => ?_⟩)
    rw [dc_s i1, ← i4 (by omega)]; omega
/-! what is told already -/
def tR (t : Int) (b : Int → Bool) : Prop := ∀ j, 0 ≤ j → j < 7 → bit t j = b j
theorem tw_c : (List.range 7).all (fun j => decide ((Int32.ofInt (ishl 1 (j : Int))).toBitVec = BitVec.twoPow 32 j)) = true := by decide +kernel
theorem it_0 {t j : Int} (h0 : 0 ≤ j) (h1 : j < 7) : iand t (ishl 1 j) = 0 ↔ bit t j = false := by
  have e := of_decide_eq_true (List.all_eq_true.mp tw_c j.toNat (List.mem_range.mpr (by omega)))
  rw [Int.toNat_of_nonneg h0] at e
  unfold iand bit
  have k : (Int32.ofInt t &&& Int32.ofInt (ishl 1 j)).toInt = (BitVec.ofInt 32 t &&& BitVec.twoPow 32 j.toNat).toInt := by
    show (Int32.ofInt t &&& Int32.ofInt (ishl 1 j)).toBitVec.toInt = _
    rw [Int32.toBitVec_and, e]
    rfl
  rw [k, BitVec.and_twoPow]
  have z : ∀ i : Nat, i < 7 → (BitVec.twoPow 32 i).toInt ≠ 0 := by decide
  cases hb : (BitVec.ofInt 32 t).getLsbD j.toNat
  · simp
  · simp [z j.toNat (by omega)]
theorem tR_0 : tR 0 (fun _ => false) := fun j _ _ => bt_0 j
theorem tR_t {t j : Int} {b : Int → Bool} (h : tR t b) (h0 : 0 ≤ j) (h1 : j < 7) : tR (ior t (ishl 1 j)) (tl b j) := fun i i0 i1 => by
  rw [bt_ior, bt_shl h0 (by omega) i0 (by omega), h i i0 i1]
  unfold tl
  by_cases e : i = j
  · subst e; simp
  · rw [if_neg e, decide_eq_false (fun q => e q.symm), Bool.or_false]
theorem so_tell {t j x w : Int} {b : Int → Bool} {Q : Int → Int → Int → Prop} (h0 : 0 ≤ j) (h1 : j < 7) (hx : x = ishl 1 j) (ht : tR t b) (hy : b j = true → ∀ t', Q w 3 t') (hn : b j = false → ∀ t', tR t' (tl b j) → Q (-1) 0 t') : nf_Reader_tellOnce (-1) 0 t x w Q := by
  unfold nf_Reader_tellOnce
  simp only [ci_m1, ci_m10, ci_m1001, ci_m1002, ci_m1003, ci_m1004, ci_0, ci_1, ci_10, ci_100, ci_1000, ci_10000, ci_101, ci_103, ci_104, ci_105, ci_107, ci_108, ci_110, ci_111, ci_114, ci_115, ci_116, ci_118, ci_119, ci_12, ci_122, ci_1431655765, ci_15, ci_16, ci_2, ci_20, ci_23, ci_24, ci_240, ci_252645135, ci_255, ci_256, ci_3, ci_32, ci_4, ci_420, ci_48, ci_5, ci_5040, ci_57, ci_59, ci_6, ci_60, ci_63, ci_64, ci_7, ci_70, ci_8, ci_858993459, ci_9, ci_900, ci_97, ci_99, ci_999, ci_9999, cl_0, cl_1, cl_10, cl_1000000000000, cl_122, cl_2, cl_2000000000000, cl_23, cl_255, cl_27, cl_3, cl_4, cl_48, cl_57, cl_6, cl_8, cl_96, cl_97, cl_99, cl_999, cl_9999]
  subst hx
  refine wL_i (jn2_s (fun p f => (b j = true ∧ p = w ∧ f = 3) ∨ (b j = false ∧ p = -1 ∧ f = 0)) (fun p f hpf => wL_i ?_) (cB_i (fun e => Or.inr ⟨?_, rfl, rfl⟩) (fun e => sp_fail (cB_t rfl (Or.inl ⟨?_, rfl, rfl⟩)))))
  · rcases hpf with ⟨e, rfl, rfl⟩ | ⟨e, rfl, rfl⟩
    · exact hy e _
    · exact hn e _ (tR_t ht h0 h1)
  · rw [← ht j h0 h1]; exact (it_0 h0 h1).mp e
  · rw [← ht j h0 h1]
    cases hb : bit t j
    · exact absurd ((it_0 h0 h1).mpr hb) e
    · rfl
