/-! IN STEP 12: feed, guest, night -/
theorem so_Hfeed {n x w : Int} {F : Int → Int} {Q : Int → Int → (Int → Int) → Prop} (hn : 0 ≤ n ∧ n ≤ 240) (h0 : ¬ (1 ≤ x ∧ x ≤ 8) → Q (-1002) n F) (h1 : 1 ≤ x ∧ x ≤ 8 → 240 < n + x → Q (-1004) n F) (h2 : 1 ≤ x ∧ x ≤ 8 → n + x ≤ 240 → ∀ F', (∀ k, k < n → F' k = F k) → (∀ j, 0 ≤ j → j < x → iand (F' (n + j)) 255 = l2i (land (lshr w (8 * (x - 1 - j))) 255)) → Q (n + x) (n + x) F') : nf_H_feed n F x w Q := by
  unfold nf_H_feed nf_Reader_append
  simp only [ci_m1, ci_m10, ci_m1001, ci_m1002, ci_m1003, ci_m1004, ci_0, ci_1, ci_10, ci_100, ci_1000, ci_10000, ci_101, ci_103, ci_104, ci_105, ci_107, ci_108, ci_110, ci_111, ci_114, ci_115, ci_116, ci_118, ci_119, ci_12, ci_122, ci_1431655765, ci_15, ci_16, ci_2, ci_20, ci_23, ci_24, ci_240, ci_252645135, ci_255, ci_256, ci_3, ci_32, ci_4, ci_420, ci_48, ci_5, ci_5040, ci_57, ci_59, ci_6, ci_60, ci_63, ci_64, ci_7, ci_70, ci_8, ci_858993459, ci_9, ci_900, ci_97, ci_99, ci_999, ci_9999, cl_0, cl_1, cl_10, cl_1000000000000, cl_122, cl_2, cl_2000000000000, cl_23, cl_255, cl_27, cl_3, cl_4, cl_48, cl_57, cl_6, cl_8, cl_96, cl_97, cl_99, cl_999, cl_9999]
  refine sp_within (cB_i (fun a1 => cB_f (by decide) ?_) (fun a1 => cB_t rfl (h0 a1)))
  refine wO_i (by simp only [iR]; omega) (cB_i (fun a2 => wO_i (by simp only [iR]; omega) ?_) (fun a2 => h1 a1 (by omega)))
  refine nlp3_i (fun i n' F' => -1 ≤ i ∧ i ≤ x - 1 ∧ n' = n + (x - 1 - i) ∧ (∀ k, k < n → F' k = F k) ∧ (∀ j, 0 ≤ j → j < x - 1 - i → iand (F' (n + j)) 255 = l2i (land (lshr w (8 * (x - 1 - j))) 255))) (fun i _ _ => (i + 1).toNat) ?_ ⟨by omega, by omega, by omega, fun _ _ => rfl, by omega⟩
  intro i n1 F1 hi self hself
  obtain ⟨i1, i2, i3, i4, i5⟩ := hi
  subst i3
  refine cB_i (fun _ => ?_) (fun _ => cB_f (by omega) ?_)
  · have e : i = -1 := by omega
    subst e
    rw [show n + (x - 1 - -1) = n + x by omega]
    exact h2 a1 a2 _ i4 (fun j j0 j1 => i5 j j0 (by omega))
  · refine wO_i (by simp only [iR]; omega) (wL_i (wL_i (wL_i (wO_i (by simp only [inb]; omega) (wO_i (by simp only [iR]; omega) (wO_i (by simp only [iR]; omega) (hself _ _ _ ⟨by omega, by omega, by omega, fun k hk => ?_, fun j j0 j1 => ?_⟩ (by omega))))))))
    · rw [ups_n (by omega)]; exact i4 k hk
    · by_cases e : n + j = n + (x - 1 - i)
      · rw [e, ups_s, show x - 1 - j = i by omega]; exact by_eq (by omega) (by omega)
      · rw [ups_n e]; exact i5 j j0 (by omega)
theorem sm_feed {n x w : Int} {F : Int → Int} {Q : Int → Int → (Int → Int) → Prop} (hn : 0 ≤ n ∧ n ≤ 240) (hF : ∀ k, 0 ≤ k → k < 240 → 0 ≤ F k ∧ F k ≤ 255) (h0 : ¬ (1 ≤ x ∧ x ≤ 8) → Q (-1002) n F) (h1 : 1 ≤ x ∧ x ≤ 8 → 240 < n + x → Q (-1004) n F) (h2 : 1 ≤ x ∧ x ≤ 8 → n + x ≤ 240 → ∀ F', (∀ k, k < n → F' k = F k) → (∀ j, 0 ≤ j → j < x → F' (n + j) = l2i (land (lshr w (8 * (x - 1 - j))) 255)) → (∀ k, 0 ≤ k → k < 240 → 0 ≤ F' k ∧ F' k ≤ 255) → Q (n + x) (n + x) F') : nf_M_feed n F x w Q := by
  unfold nf_M_feed
  simp only [ci_m1, ci_m10, ci_m1001, ci_m1002, ci_m1003, ci_m1004, ci_0, ci_1, ci_10, ci_100, ci_1000, ci_10000, ci_101, ci_103, ci_104, ci_105, ci_107, ci_108, ci_110, ci_111, ci_114, ci_115, ci_116, ci_118, ci_119, ci_12, ci_122, ci_1431655765, ci_15, ci_16, ci_2, ci_20, ci_23, ci_24, ci_240, ci_252645135, ci_255, ci_256, ci_3, ci_32, ci_4, ci_420, ci_48, ci_5, ci_5040, ci_57, ci_59, ci_6, ci_60, ci_63, ci_64, ci_7, ci_70, ci_8, ci_858993459, ci_9, ci_900, ci_97, ci_99, ci_999, ci_9999, cl_0, cl_1, cl_10, cl_1000000000000, cl_122, cl_2, cl_2000000000000, cl_23, cl_255, cl_27, cl_3, cl_4, cl_48, cl_57, cl_6, cl_8, cl_96, cl_97, cl_99, cl_999, cl_9999]
  refine wL_i (sp_in (cB_i (fun a1 => cB_f (by decide) ?_) (fun a1 => cB_t rfl (h0 a1))))
  refine wO_i (by simp only [iR]; omega) (cB_i (fun a2 => wO_i (by simp only [iR]; omega) ?_) (fun a2 => h1 a1 (by omega)))
  refine nlp3_i (fun i n' F' => -1 ≤ i ∧ i ≤ x - 1 ∧ n' = n + (x - 1 - i) ∧ (∀ k, k < n → F' k = F k) ∧ (∀ j, 0 ≤ j → j < x - 1 - i → F' (n + j) = l2i (land (lshr w (8 * (x - 1 - j))) 255)) ∧ (∀ k, 0 ≤ k → k < 240 → 0 ≤ F' k ∧ F' k ≤ 255)) (fun i _ _ => (i + 1).toNat) ?_ ⟨by omega, by omega, by omega, fun _ _ => rfl, by omega, hF⟩
  intro i n1 F1 hi self hself
  obtain ⟨i1, i2, i3, i4, i5, i6⟩ := hi
  subst i3
  refine cB_i (fun _ => ?_) (fun _ => ?_)
  · have e : i = -1 := by omega
    subst e
    rw [show n + (x - 1 - -1) = n + x by omega]
    exact h2 a1 a2 _ i4 (fun j j0 j1 => i5 j j0 (by omega)) i6
  · refine wO_i (by simp only [iR]; omega) (wL_i (wL_i (wL_i (wO_i (by simp only [inb]; omega) (wO_i (by simp only [iR]; omega) (wO_i (by simp only [iR]; omega) (hself _ _ _ ⟨by omega, by omega, by omega, fun k hk => ?_, fun j j0 j1 => ?_, fun k k0 k1 => ?_⟩ (by omega))))))))
    · rw [ups_n (by omega)]; exact i4 k hk
    · by_cases e : n + j = n + (x - 1 - i)
      · rw [e, ups_s, show x - 1 - j = i by omega]
      · rw [ups_n e]; exact i5 j j0 (by omega)
    · by_cases e : k = n + (x - 1 - i)
      · rw [e, ups_s]; exact l255 _
      · rw [ups_n e]; exact i6 k k0 k1
theorem sim_feed {n x w : Int} {F T : Int → Int} {K : Int → Int → (Int → Int) → Int → Int → (Int → Int) → Prop} (ht : tx n F T) (hT : ∀ k, 0 ≤ k → k < 240 → 0 ≤ T k ∧ T k ≤ 255) (h : ∀ r n' F' T', tx n' F' T' → (∀ k, 0 ≤ k → k < 240 → 0 ≤ T' k ∧ T' k ≤ 255) → K r n' F' r n' T') : nf_H_feed n F x w fun r n1 F1 => nf_M_feed n T x w fun r2 n2 F2 => K r n1 F1 r2 n2 F2 := by
  refine so_Hfeed ht.1 (fun a => sm_feed ht.1 hT (fun _ => h _ _ _ _ ht hT) (fun b => absurd b a) (fun b => absurd b a)) (fun a b => sm_feed ht.1 hT (fun c => absurd a c) (fun _ _ => h _ _ _ _ ht hT) (fun _ c => by omega)) (fun a b F' f1 f2 => sm_feed ht.1 hT (fun c => absurd a c) (fun _ c => by omega) (fun _ _ T' g1 g2 g3 => h _ _ _ _ ⟨⟨by have := ht.1; omega, b⟩, fun k k0 k1 => ?_⟩ g3))
  by_cases e : k < n
  · rw [f1 k e, g1 k e]; exact ht.2 k k0 e
  · have q1 := f2 (k - n) (by omega) (by omega)
    have q2 := g2 (k - n) (by omega) (by omega)
    rw [show n + (k - n) = k by omega] at q1 q2
    rw [q1, q2]
abbrev gV (x1 x2 x3 x4 : Int) : Prop := (0 ≤ x1 ∧ x1 ≤ 3) ∧ (0 ≤ x2 ∧ x2 ≤ 2) ∧ (0 ≤ x3 ∧ x3 ≤ 99) ∧ (0 ≤ x4 ∧ x4 ≤ 255)
theorem so_Hguest {gn x1 x2 x3 x4 : Int} {gs gk gt gm gb gp gh : Int → Int} {Q : Int → Int → (Int → Int) → (Int → Int) → (Int → Int) → (Int → Int) → (Int → Int) → (Int → Int) → (Int → Int) → Prop} (hg : 0 ≤ gn ∧ gn ≤ 16) (h0 : ¬ gV x1 x2 x3 x4 → Q (-1002) gn gs gk gt gm gb gp gh) (h1 : gV x1 x2 x3 x4 → gn = 16 → Q (-1004) gn gs gk gt gm gb gp gh) (h2 : gV x1 x2 x3 x4 → gn < 16 → Q gn (gn + 1) (ups gs gn x1) (ups gk gn x2) (ups gt gn x3) (ups gm gn x4) (ups gb gn (-1)) (ups gp gn (-1)) (ups gh gn (-1))) : nf_H_guest gn gs gk gt gm gb gp gh x1 x2 x3 x4 Q := by
  unfold nf_H_guest nf_Guests_add
  simp only [ci_m1, ci_m10, ci_m1001, ci_m1002, ci_m1003, ci_m1004, ci_0, ci_1, ci_10, ci_100, ci_1000, ci_10000, ci_101, ci_103, ci_104, ci_105, ci_107, ci_108, ci_110, ci_111, ci_114, ci_115, ci_116, ci_118, ci_119, ci_12, ci_122, ci_1431655765, ci_15, ci_16, ci_2, ci_20, ci_23, ci_24, ci_240, ci_252645135, ci_255, ci_256, ci_3, ci_32, ci_4, ci_420, ci_48, ci_5, ci_5040, ci_57, ci_59, ci_6, ci_60, ci_63, ci_64, ci_7, ci_70, ci_8, ci_858993459, ci_9, ci_900, ci_97, ci_99, ci_999, ci_9999, cl_0, cl_1, cl_10, cl_1000000000000, cl_122, cl_2, cl_2000000000000, cl_23, cl_255, cl_27, cl_3, cl_4, cl_48, cl_57, cl_6, cl_8, cl_96, cl_97, cl_99, cl_999, cl_9999]
  refine sp_within (cB_i (fun a1 => cB_f (by decide) ?_) (fun a1 => cB_t rfl (h0 (fun v => a1 v.1))))
  refine sp_within (cB_i (fun a2 => cB_f (by decide) ?_) (fun a2 => cB_t rfl (h0 (fun v => a2 v.2.1))))
  refine sp_within (cB_i (fun a3 => cB_f (by decide) ?_) (fun a3 => cB_t rfl (h0 (fun v => a3 v.2.2.1))))
  refine sp_within (cB_i (fun a4 => cB_f (by decide) ?_) (fun a4 => cB_t rfl (h0 (fun v => a4 v.2.2.2))))
  have v : gV x1 x2 x3 x4 := ⟨a1, a2, a3, a4⟩
  refine cB_i (fun _ => cB_f (by omega) (cB_t (by omega) ?_)) (fun _ => h1 v (by omega))
  have q : inb gn 16 := by simp only [inb]; omega
  exact wO_i q (wO_i q (wO_i q (wO_i q (wO_i q (wO_i q (wO_i q (wO_i (by simp only [iR]; omega) (h2 v (by omega)))))))))
theorem sm_guest {gu x1 x2 x3 x4 : Int} {so ki ti mk br ha hb : Int → Int} {Q : Int → Int → (Int → Int) → (Int → Int) → (Int → Int) → (Int → Int) → (Int → Int) → (Int → Int) → (Int → Int) → Prop} (hg : 0 ≤ gu ∧ gu ≤ 16) (h0 : ¬ gV x1 x2 x3 x4 → Q (-1002) gu so ki ti mk br ha hb) (h1 : gV x1 x2 x3 x4 → gu = 16 → Q (-1004) gu so ki ti mk br ha hb) (h2 : gV x1 x2 x3 x4 → gu < 16 → Q gu (gu + 1) (ups so gu x1) (ups ki gu x2) (ups ti gu x3) (ups mk gu x4) (ups br gu (-1)) (ups ha gu (-1)) (ups hb gu (-1))) : nf_M_guest gu so ki ti mk br ha hb x1 x2 x3 x4 Q := by
  unfold nf_M_guest
  simp only [ci_m1, ci_m10, ci_m1001, ci_m1002, ci_m1003, ci_m1004, ci_0, ci_1, ci_10, ci_100, ci_1000, ci_10000, ci_101, ci_103, ci_104, ci_105, ci_107, ci_108, ci_110, ci_111, ci_114, ci_115, ci_116, ci_118, ci_119, ci_12, ci_122, ci_1431655765, ci_15, ci_16, ci_2, ci_20, ci_23, ci_24, ci_240, ci_252645135, ci_255, ci_256, ci_3, ci_32, ci_4, ci_420, ci_48, ci_5, ci_5040, ci_57, ci_59, ci_6, ci_60, ci_63, ci_64, ci_7, ci_70, ci_8, ci_858993459, ci_9, ci_900, ci_97, ci_99, ci_999, ci_9999, cl_0, cl_1, cl_10, cl_1000000000000, cl_122, cl_2, cl_2000000000000, cl_23, cl_255, cl_27, cl_3, cl_4, cl_48, cl_57, cl_6, cl_8, cl_96, cl_97, cl_99, cl_999, cl_9999]
  refine wL_i (sp_in (cB_i (fun a1 => cB_f (by decide) ?_) (fun a1 => cB_t rfl (h0 (fun v => a1 v.1)))))
  refine wL_i (sp_in (cB_i (fun a2 => cB_f (by decide) ?_) (fun a2 => cB_t rfl (h0 (fun v => a2 v.2.1)))))
  refine wL_i (sp_in (cB_i (fun a3 => cB_f (by decide) ?_) (fun a3 => cB_t rfl (h0 (fun v => a3 v.2.2.1)))))
  refine wL_i (sp_in (cB_i (fun a4 => cB_f (by decide) ?_) (fun a4 => cB_t rfl (h0 (fun v => a4 v.2.2.2)))))
  have v : gV x1 x2 x3 x4 := ⟨a1, a2, a3, a4⟩
  refine cB_i (fun e => h1 v e) (fun _ => ?_)
  have q : inb gu 16 := by simp only [inb]; omega
  refine wO_i q (wO_i q (wO_i q (wO_i q (wO_i q (wO_i q (wO_i q (wO_i (by simp only [iR]; omega) (wO_i (by simp only [iR]; omega) ?_))))))))
  rw [show gu + 1 - 1 = gu by omega]
  exact h2 v (by omega)
theorem RS_guest {pg gn en cn nn gu ev cl ni x1 x2 x3 x4 : Int} {pk gs gk gt gm gb gp gh ef cg cy cz nl so ki ti mk br ha hb hg er mg my mz pl we le : Int → Int} (hs : RS pg pk gn gs gk gt gm gb gp gh en ef cn cg cy cz nn nl gu so ki ti mk br ha hb hg ev er cl mg my mz ni pl we le) (hm : mS gu so ti ha hb hg) (hev : 0 ≤ ev) (hv : gV x1 x2 x3 x4) : RS pg pk (gn + 1) (ups gs gn x1) (ups gk gn x2) (ups gt gn x3) (ups gm gn x4) (ups gb gn (-1)) (ups gp gn (-1)) (ups gh gn (-1)) en ef cn cg cy cz nn nl (gu + 1) (ups so gu x1) (ups ki gu x2) (ups ti gu x3) (ups mk gu x4) (ups br gu (-1)) (ups ha gu (-1)) (ups hb gu (-1)) hg ev er cl mg my mz ni pl we le := by
  obtain ⟨⟨e1, e2, e3, e4⟩, G, ⟨P1, P2⟩, ⟨E1, E2, E3, E4, E5⟩, F, C, N⟩ := hs
  subst e1
  refine ⟨⟨rfl, e2, e3, e4⟩, fun g a b => ?_, ⟨fun g p a b c d => ?_, fun g a b => ?_⟩, ⟨fun g a b => ?_, fun e a b => ?_, fun e g a b c d => ?_, fun e a b c => ?_, E5⟩, F, fun c a b => ?_, N⟩
  · by_cases e : g = gn
    · subst e
      exact ⟨⟨by rw [ups_s, ups_s], by rw [ups_s, ups_s], by rw [ups_s, ups_s], by rw [ups_s, ups_s], by rw [ups_s, ups_s], by rw [ups_s, ups_s]⟩, by rw [ups_s]; omega, by rw [ups_s]; exact hv.2.2.2, by rw [ups_s]; exact hv.2.1⟩
    · simp only [ups_n e]
      exact G g a (by omega)
  · have h5 := hm.2.2.2.2.1 p c d
    by_cases e : g = gn
    · subst e
      rw [ups_s]
      exact ⟨fun q => by omega, fun q => by omega⟩
    · rw [ups_n e]
      exact P1 g p a (by omega) c d
  · by_cases e : g = gn
    · subst e
      rw [ups_s]
      exact Or.inl rfl
    · rw [ups_n e, ups_n e]
      exact P2 g a (by omega)
  · by_cases e : g = gn
    · subst e
      rw [ups_s]; omega
    · rw [ups_n e]; exact E1 g a (by omega)
  · have := E2 e a b
    exact ⟨this.1, this.2.1, this.2.2.1, by omega, fun q => by have := this.2.2.2.2 q; omega⟩
  · have := E2 e a b
    by_cases eg : g = gn
    · subst eg
      rw [ups_s]
      exact ⟨fun q => by have := this.2.2.2.2 (by omega); omega, fun q => by omega⟩
    · rw [ups_n eg]
      exact E3 e g a b c (by omega)
  · have := E2 e a b
    have q := this.2.2.2.2 (by omega)
    rw [ups_n (by omega)]
    exact E4 e a b c
  · have := C c a b
    exact ⟨this.1, ⟨this.2.1.1, by omega⟩, this.2.2⟩
theorem sim_guest {pg gn en cn nn gu ev cl ni x1 x2 x3 x4 : Int} {pk gs gk gt gm gb gp gh ef cg cy cz nl so ki ti mk br ha hb hg er mg my mz pl we le : Int → Int} {K : Int → Int → (Int → Int) → (Int → Int) → (Int → Int) → (Int → Int) → (Int → Int) → (Int → Int) → (Int → Int) → Int → Int → (Int → Int) → (Int → Int) → (Int → Int) → (Int → Int) → (Int → Int) → (Int → Int) → (Int → Int) → Prop} (hG : cG gn gt) (hm : mF gu ev cl ni so ti ha hb hg er mg le) (hs : RS pg pk gn gs gk gt gm gb gp gh en ef cn cg cy cz nn nl gu so ki ti mk br ha hb hg ev er cl mg my mz ni pl we le) (h : ∀ r gn' gs' gk' gt' gm' gb' gp' gh' gu' so' ki' ti' mk' br' ha' hb', cG gn' gt' → mF gu' ev cl ni so' ti' ha' hb' hg er mg le → RS pg pk gn' gs' gk' gt' gm' gb' gp' gh' en ef cn cg cy cz nn nl gu' so' ki' ti' mk' br' ha' hb' hg ev er cl mg my mz ni pl we le → K r gn' gs' gk' gt' gm' gb' gp' gh' r gu' so' ki' ti' mk' br' ha' hb') : nf_H_guest gn gs gk gt gm gb gp gh x1 x2 x3 x4 fun r a1 a2 a3 a4 a5 a6 a7 a8 => nf_M_guest gu so ki ti mk br ha hb x1 x2 x3 x4 fun r' b1 b2 b3 b4 b5 b6 b7 b8 => K r a1 a2 a3 a4 a5 a6 a7 a8 r' b1 b2 b3 b4 b5 b6 b7 b8 := by
  have e1 := hs.1.1
  have hgu : 0 ≤ gu ∧ gu ≤ 16 := ⟨hm.1.1, hm.1.2.1⟩
  refine so_Hguest hG.1 (fun v => sm_guest hgu (fun _ => h _ _ _ _ _ _ _ _ _ _ _ _ _ _ _ _ _ hG hm hs) (fun w => absurd w v) (fun w => absurd w v)) (fun v f => sm_guest hgu (fun w => absurd v w) (fun _ _ => h _ _ _ _ _ _ _ _ _ _ _ _ _ _ _ _ _ hG hm hs) (fun _ _ => by omega)) (fun v f => sm_guest hgu (fun w => absurd v w) (fun _ _ => by omega) (fun _ f2 => ?_))
  have s := RS_guest hs hm.1 hm.2.1.1 v
  subst e1
  refine h _ _ _ _ _ _ _ _ _ _ _ _ _ _ _ _ _ ⟨⟨by omega, by omega⟩, fun k k0 k1 => ?_⟩ ⟨mS_new hm.1 (by omega) v.1 v.2.2.1, hm.2⟩ s
  by_cases e : k = gn
  · rw [e, ups_s]; exact v.2.2.1
  · rw [ups_n e]; exact hG.2 k k0 k1
abbrev nV (x1 x2 x3 x4 x5 : Int) : Prop := (0 ≤ x1 ∧ x1 ≤ 3) ∧ (0 ≤ x2 ∧ x2 ≤ 1) ∧ (0 ≤ x3 ∧ x3 ≤ 999) ∧ (0 ≤ x4 ∧ x4 ≤ 999) ∧ (0 ≤ x5 ∧ x5 ≤ 999)
theorem so_Hnight {nn x1 x2 x3 x4 x5 : Int} {L : Int → Int} {Q : Int → Int → (Int → Int) → Prop} (hN : cN nn L) (h0 : ¬ nV x1 x2 x3 x4 x5 → Q (-1002) nn L) (h1 : nV x1 x2 x3 x4 x5 → nn = 60 → Q (-1004) nn L) (h2 : nV x1 x2 x3 x4 x5 → nn < 60 → ∀ L', (∀ k, k ≠ (x1 * 2 + x2) * 3 → k ≠ (x1 * 2 + x2) * 3 + 1 → k ≠ (x1 * 2 + x2) * 3 + 2 → L' k = L k) → L' ((x1 * 2 + x2) * 3) = L ((x1 * 2 + x2) * 3) + x3 → L' ((x1 * 2 + x2) * 3 + 1) = L ((x1 * 2 + x2) * 3 + 1) + x4 → L' ((x1 * 2 + x2) * 3 + 2) = L ((x1 * 2 + x2) * 3 + 2) + x5 → Q (nn + 1) (nn + 1) L') : nf_H_night nn L x1 x2 x3 x4 x5 Q := by
  unfold nf_H_night nf_Nights_add
  simp only [ci_m1, ci_m10, ci_m1001, ci_m1002, ci_m1003, ci_m1004, ci_0, ci_1, ci_10, ci_100, ci_1000, ci_10000, ci_101, ci_103, ci_104, ci_105, ci_107, ci_108, ci_110, ci_111, ci_114, ci_115, ci_116, ci_118, ci_119, ci_12, ci_122, ci_1431655765, ci_15, ci_16, ci_2, ci_20, ci_23, ci_24, ci_240, ci_252645135, ci_255, ci_256, ci_3, ci_32, ci_4, ci_420, ci_48, ci_5, ci_5040, ci_57, ci_59, ci_6, ci_60, ci_63, ci_64, ci_7, ci_70, ci_8, ci_858993459, ci_9, ci_900, ci_97, ci_99, ci_999, ci_9999, cl_0, cl_1, cl_10, cl_1000000000000, cl_122, cl_2, cl_2000000000000, cl_23, cl_255, cl_27, cl_3, cl_4, cl_48, cl_57, cl_6, cl_8, cl_96, cl_97, cl_99, cl_999, cl_9999]
  obtain ⟨n0, n1, n2⟩ := hN
  refine sp_within (cB_i (fun a1 => cB_f (by decide) ?_) (fun a => cB_t rfl (h0 (fun v => a v.1))))
  refine sp_within (cB_i (fun a2 => cB_f (by decide) ?_) (fun a => cB_t rfl (h0 (fun v => a v.2.1))))
  refine sp_within (cB_i (fun a3 => cB_f (by decide) ?_) (fun a => cB_t rfl (h0 (fun v => a v.2.2.1))))
  refine sp_within (cB_i (fun a4 => cB_f (by decide) ?_) (fun a => cB_t rfl (h0 (fun v => a v.2.2.2.1))))
  refine sp_within (cB_i (fun a5 => cB_f (by decide) ?_) (fun a => cB_t rfl (h0 (fun v => a v.2.2.2.2))))
  have v : nV x1 x2 x3 x4 x5 := ⟨a1, a2, a3, a4, a5⟩
  refine cB_i (fun _ => ?_) (fun _ => h1 v (by omega))
  refine sp_within (cB_i (fun _ => cB_f (by decide) ?_) (fun a => absurd a1 a))
  refine sp_within (cB_i (fun _ => cB_f (by decide) ?_) (fun a => absurd a2 a))
  have k0 := n2 ((x1 * 2 + x2) * 3) (by omega) (by omega)
  have k1 := n2 ((x1 * 2 + x2) * 3 + 1) (by omega) (by omega)
  have k2 := n2 ((x1 * 2 + x2) * 3 + 2) (by omega) (by omega)
  have g2 := h2 v (by omega)
  refine wO_i (by simp only [iR]; omega) (wO_i (by simp only [iR]; omega) (wO_i (by simp only [iR]; omega) ?_))
  have hb0 : 0 ≤ (x1 * 2 + x2) * 3 ∧ (x1 * 2 + x2) * 3 ≤ 21 := by omega
  clear h0 h1 h2
  generalize (x1 * 2 + x2) * 3 = b at *
  refine wO_i (by simp only [inb]; omega) (wO_i (by simp only [iR]; omega) (wO_i (by simp only [inb]; omega) (wO_i (by simp only [iR]; omega) (wO_i (by simp only [inb]; omega) ?_))))
  rw [ups_n (by omega)]
  refine wO_i (by simp only [iR]; omega) (wO_i (by simp only [inb]; omega) (wO_i (by simp only [iR]; omega) (wO_i (by simp only [inb]; omega) ?_)))
  rw [ups_n (by omega), ups_n (by omega)]
  refine wO_i (by simp only [iR]; omega) (wO_i (by simp only [inb]; omega) (wO_i (by simp only [iR]; omega) (g2 _ (fun k c0 c1 c2 => ?_) ?_ ?_ ?_)))
  · rw [ups_n c2, ups_n c1, ups_n c0]
  · rw [ups_n (by omega), ups_n (by omega), ups_s]
  · rw [ups_n (by omega), ups_s]
  · rw [ups_s]
theorem sm_night {ni x1 x2 x3 x4 x5 : Int} {pl we le : Int → Int} {Q : Int → Int → (Int → Int) → (Int → Int) → (Int → Int) → Prop} (hN : 0 ≤ ni ∧ ni ≤ 60) (h0 : ¬ nV x1 x2 x3 x4 x5 → Q (-1002) ni pl we le) (h1 : nV x1 x2 x3 x4 x5 → ni = 60 → Q (-1004) ni pl we le) (h2 : nV x1 x2 x3 x4 x5 → ni < 60 → Q (ni + 1) (ni + 1) (ups pl ni x1) (ups we ni x2) (ups (ups (ups le (3 * ni) x3) (3 * ni + 1) x4) (3 * ni + 2) x5)) : nf_M_night ni pl we le x1 x2 x3 x4 x5 Q := by
  unfold nf_M_night
  simp only [ci_m1, ci_m10, ci_m1001, ci_m1002, ci_m1003, ci_m1004, ci_0, ci_1, ci_10, ci_100, ci_1000, ci_10000, ci_101, ci_103, ci_104, ci_105, ci_107, ci_108, ci_110, ci_111, ci_114, ci_115, ci_116, ci_118, ci_119, ci_12, ci_122, ci_1431655765, ci_15, ci_16, ci_2, ci_20, ci_23, ci_24, ci_240, ci_252645135, ci_255, ci_256, ci_3, ci_32, ci_4, ci_420, ci_48, ci_5, ci_5040, ci_57, ci_59, ci_6, ci_60, ci_63, ci_64, ci_7, ci_70, ci_8, ci_858993459, ci_9, ci_900, ci_97, ci_99, ci_999, ci_9999, cl_0, cl_1, cl_10, cl_1000000000000, cl_122, cl_2, cl_2000000000000, cl_23, cl_255, cl_27, cl_3, cl_4, cl_48, cl_57, cl_6, cl_8, cl_96, cl_97, cl_99, cl_999, cl_9999]
  refine sp_isNight (cB_i (fun a1 => cB_f (by decide) ?_) (fun a => cB_t rfl (h0 (fun v => a ⟨v.1.1, v.1.2, v.2.1.1, v.2.1.2⟩))))
  refine wL_i (sp_in (cB_i (fun a3 => cB_f (by decide) ?_) (fun a => cB_t rfl (h0 (fun v => a v.2.2.1)))))
  refine wL_i (sp_in (cB_i (fun a4 => cB_f (by decide) ?_) (fun a => cB_t rfl (h0 (fun v => a v.2.2.2.1)))))
  refine wL_i (sp_in (cB_i (fun a5 => cB_f (by decide) ?_) (fun a => cB_t rfl (h0 (fun v => a v.2.2.2.2)))))
  have v : nV x1 x2 x3 x4 x5 := ⟨⟨a1.1, a1.2.1⟩, ⟨a1.2.2.1, a1.2.2.2⟩, a3, a4, a5⟩
  refine cB_i (fun e => h1 v e) (fun _ => ?_)
  exact wO_i (by simp only [inb]; omega) (wO_i (by simp only [inb]; omega) (wO_i (by simp only [iR]; omega) (wO_i (by simp only [inb]; omega) (wO_i (by simp only [iR]; omega) (wO_i (by simp only [iR]; omega) (wO_i (by simp only [inb]; omega) (wO_i (by simp only [iR]; omega) (wO_i (by simp only [iR]; omega) (wO_i (by simp only [inb]; omega) (wO_i (by simp only [iR]; omega) (h2 v (by omega))))))))))))
theorem RN_add {ni x1 x2 x3 x4 x5 : Int} {nl nl' pl we le : Int → Int} (hni : 0 ≤ ni) (hv : nV x1 x2 x3 x4 x5) (h : RN ni nl pl we le) (g0 : ∀ k, k ≠ (x1 * 2 + x2) * 3 → k ≠ (x1 * 2 + x2) * 3 + 1 → k ≠ (x1 * 2 + x2) * 3 + 2 → nl' k = nl k) (g1 : nl' ((x1 * 2 + x2) * 3) = nl ((x1 * 2 + x2) * 3) + x3) (g2 : nl' ((x1 * 2 + x2) * 3 + 1) = nl ((x1 * 2 + x2) * 3 + 1) + x4) (g3 : nl' ((x1 * 2 + x2) * 3 + 2) = nl ((x1 * 2 + x2) * 3 + 2) + x5) : RN (ni + 1) nl' (ups pl ni x1) (ups we ni x2) (ups (ups (ups le (3 * ni) x3) (3 * ni + 1) x4) (3 * ni + 2) x5) := by
  intro p w k p0 p1 w0 w1 k0 k1
  have e : (ni + 1).toNat = ni.toNat + 1 := by omega
  rw [e]
  show _ = sumN _ ni.toNat + (if ups pl ni x1 (ni.toNat : Int) = p ∧ ups we ni x2 (ni.toNat : Int) = w then _ else 0)
  have hc : sumN (fun n => if ups pl ni x1 n = p ∧ ups we ni x2 n = w then ups (ups (ups le (3 * ni) x3) (3 * ni + 1) x4) (3 * ni + 2) x5 (3 * n + k) else 0) ni.toNat = nl ((p * 2 + w) * 3 + k) := by
    rw [h p w k p0 p1 w0 w1 k0 k1]
    refine sumN_c _ (fun n hn => ?_)
    rw [ups_n (by omega), ups_n (by omega), ups_n (by omega), ups_n (by omega), ups_n (by omega)]
  rw [hc, Int.toNat_of_nonneg hni, ups_s, ups_s]
  by_cases c : x1 = p ∧ x2 = w
  · rw [if_pos c]
    obtain ⟨rfl, rfl⟩ := c
    rcases (show k = 0 ∨ k = 1 ∨ k = 2 by omega) with rfl | rfl | rfl
    · rw [Int.add_zero, Int.add_zero, g1, ups_n (by omega), ups_n (by omega), ups_s]
    · rw [g2, ups_n (by omega), ups_s]
    · rw [g3, ups_s]
  · rw [if_neg c, Int.add_zero]
    exact g0 _ (by omega) (by omega) (by omega)
theorem sim_night {pg gn en cn nn gu ev cl ni x1 x2 x3 x4 x5 : Int} {pk gs gk gt gm gb gp gh ef cg cy cz nl so ki ti mk br ha hb hg er mg my mz pl we le : Int → Int} {K : Int → Int → (Int → Int) → Int → Int → (Int → Int) → (Int → Int) → (Int → Int) → Prop} (hN : cN nn nl) (hm : mF gu ev cl ni so ti ha hb hg er mg le) (hs : RS pg pk gn gs gk gt gm gb gp gh en ef cn cg cy cz nn nl gu so ki ti mk br ha hb hg ev er cl mg my mz ni pl we le) (h : ∀ r nn' nl' ni' pl' we' le', cN nn' nl' → mF gu ev cl ni' so ti ha hb hg er mg le' → RS pg pk gn gs gk gt gm gb gp gh en ef cn cg cy cz nn' nl' gu so ki ti mk br ha hb hg ev er cl mg my mz ni' pl' we' le' → K r nn' nl' r ni' pl' we' le') : nf_H_night nn nl x1 x2 x3 x4 x5 fun r a1 a2 => nf_M_night ni pl we le x1 x2 x3 x4 x5 fun r' b1 b2 b3 b4 => K r a1 a2 r' b1 b2 b3 b4 := by
  have hni := hm.2.2.2.1
  have hN0 := hN
  obtain ⟨n0, n1, n2⟩ := hN
  have e4 := hs.1.2.2.2
  refine so_Hnight hN0 (fun v => sm_night hni (fun _ => h _ _ _ _ _ _ _ hN0 hm hs) (fun w => absurd w v) (fun w => absurd w v)) (fun v f => sm_night hni (fun w => absurd v w) (fun _ _ => h _ _ _ _ _ _ _ hN0 hm hs) (fun _ _ => by omega)) (fun v f L' g0 g1 g2 g3 => sm_night hni (fun w => absurd v w) (fun _ _ => by omega) (fun _ f2 => ?_))
  obtain ⟨⟨s1, s2, s3, s4⟩, G, P, E, F, C, N⟩ := hs
  subst e4
  have l0 := hm.2.2.2.2.2.2
  refine h _ _ _ _ _ _ _ ⟨by omega, by omega, fun k k0 k1 => ?_⟩ ⟨hm.1, hm.2.1, hm.2.2.1, ⟨by omega, by omega⟩, hm.2.2.2.2.1, hm.2.2.2.2.2.1, fun k k0 k1 => ?_⟩ ⟨⟨s1, s2, s3, rfl⟩, G, P, E, F, C, RN_add n0 v N g0 g1 g2 g3⟩
  · have q := n2 k k0 k1
    by_cases c0 : k = (x1 * 2 + x2) * 3
    · subst c0; rw [g1]; omega
    · by_cases c1 : k = (x1 * 2 + x2) * 3 + 1
      · subst c1; rw [g2]; omega
      · by_cases c2 : k = (x1 * 2 + x2) * 3 + 2
        · subst c2; rw [g3]; omega
        · rw [g0 k c0 c1 c2]; omega
  · by_cases c2 : k = 3 * nn + 2
    · rw [c2, ups_s]; exact v.2.2.2.2
    · rw [ups_n c2]
      by_cases c1 : k = 3 * nn + 1
      · rw [c1, ups_s]; exact v.2.2.2.1
      · rw [ups_n c1]
        by_cases c0 : k = 3 * nn
        · rw [c0, ups_s]; exact v.2.2.1
        · rw [ups_n c0]; exact l0 k k0 k1
