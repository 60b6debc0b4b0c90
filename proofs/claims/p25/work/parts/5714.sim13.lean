/-! IN STEP 14: hang, give, lose: the relation kept -/
theorem sim_hang {pg gn en cn nn gu ev cl ni x1 x2 x3 x4 : Int} {pk hk gs gk gt gm gb gp gh ef cg cy cz nl so ki ti mk br ha hb hg er mg my mz pl we le : Int → Int} {K : Int → (Int → Int) → (Int → Int) → Int → (Int → Int) → Int → Int → (Int → Int) → (Int → Int) → (Int → Int) → (Int → Int) → Prop} (hpg : 0 ≤ pg ∧ pg ≤ 24) (hkk : ∀ q, 0 ≤ q → q < pg → hk q = pk q) (hm : mF gu ev cl ni so ti ha hb hg er mg le) (hs : RS pg pk gn gs gk gt gm gb gp gh en ef cn cg cy cz nn nl gu so ki ti mk br ha hb hg ev er cl mg my mz ni pl we le) (h : ∀ r gb' gp' en' ef' ev' hg' br' hb' er', (0 ≤ en' ∧ en' ≤ 60) → mF gu ev' cl ni so ti ha hb' hg' er' mg le → RS pg pk gn gs gk gt gm gb' gp' gh en' ef' cn cg cy cz nn nl gu so ki ti mk br' ha hb' hg' ev' er' cl mg my mz ni pl we le → K r gb' gp' en' ef' r ev' hg' br' hb' er') : nf_H_hang gn gk gb gp en ef cn cg pg hk x1 x2 x3 x4 fun r a1 a2 a3 a4 => nf_M_hang pg gu ev cl pk hg ki br hb er mg x1 x2 x3 x4 fun r' b1 b2 b3 b4 b5 => K r a1 a2 a3 a4 r' b1 b2 b3 b4 b5 := by
  have hs0 := hs
  have hgu : 0 ≤ gu ∧ gu ≤ 16 := ⟨hm.1.1, hm.1.2.1⟩
  have hE := hm.2.1
  have hCl := hm.2.2.1
  obtain ⟨⟨rfl, rfl, rfl, rfl⟩, G, ⟨P1, P2⟩, ⟨E1, E2, E3, E4, E5⟩, F, C, N⟩ := hs
  have same := fun r => h r _ _ _ _ _ _ _ _ _ hE hm hs0
  refine so_Hhang hgu hE hCl hpg (fun u => sm_hang hgu hE hCl hpg (fun _ => same _) (fun w => absurd w u) (fun w => absurd w u) (fun w => absurd w u) (fun w => absurd w u)) (fun u zb => sm_hang hgu hE hCl hpg (fun w => absurd u w) (fun _ _ => same _) (fun _ w => absurd w zb) (fun _ w => absurd w zb) (fun _ w => absurd w zb)) (fun u zb zc => sm_hang hgu hE hCl hpg (fun w => absurd u w) (fun _ w => absurd zb w) (fun _ _ _ => same _) (fun _ _ w => absurd ((hCM hs0 hm hpg (hkk x3 u.2.2.1 u.2.2.2) u).mpr w) zc) (fun _ _ w => absurd ((hCM hs0 hm hpg (hkk x3 u.2.2.1 u.2.2.2) u).mpr w) zc)) (fun u zb zc zd => sm_hang hgu hE hCl hpg (fun w => absurd u w) (fun _ w => absurd zb w) (fun _ _ w => absurd ((hCM hs0 hm hpg (hkk x3 u.2.2.1 u.2.2.2) u).mp zc) w) (fun _ _ _ _ => same _) (fun _ _ _ w => by omega)) (fun u zb zc zd => sm_hang hgu hE hCl hpg (fun w => absurd u w) (fun _ w => absurd zb w) (fun _ _ w => absurd ((hCM hs0 hm hpg (hkk x3 u.2.2.1 u.2.2.2) u).mp zc) w) (fun _ _ _ w => by omega) (fun _ _ c2 _ => ?_))
  obtain ⟨m1, m2, m3, m4, m5⟩ := c2
  obtain ⟨u1, u2, u3⟩ := u
  have p24 : 0 ≤ x3 ∧ x3 < 24 := ⟨u3.1, by omega⟩
  have n9 := hm.1.2.2.2.2.2.2.2.2 x2 u2.1 u2.2 m1
  refine h _ _ _ _ _ _ _ _ _ _ ⟨by omega, by omega⟩ ⟨mS_hang hm.1 u2 m1 p24 ⟨by omega, by omega⟩, ⟨by omega, by omega⟩, hm.2.2.1, hm.2.2.2.1, mE_add ⟨u2.1, by omega⟩ hm.2.2.2.2.1, hm.2.2.2.2.2⟩ ⟨⟨rfl, rfl, rfl, rfl⟩, fun g a b => ?_, ⟨fun g p a b c d => ?_, fun g a b => ?_⟩, ⟨fun g a b => ?_, fun e a b => ?_, fun e g a b c d => ?_, fun e a b c => ?_, fun e e' a b c d f1 f2 f3 => ?_⟩, RF_add F, C, N⟩
  · have g1 := G g a b
    by_cases e : g = x2
    · subst e
      exact ⟨⟨g1.1.1, g1.1.2.1, g1.1.2.2.1, g1.1.2.2.2.1, by rw [ups_s, ups_s], g1.1.2.2.2.2.2⟩, by rw [ups_s]; omega, g1.2.2⟩
    · rw [ups_n e, ups_n e]; exact g1
  · by_cases e : g = x2
    · subst e
      rw [ups_s]
      by_cases ep : p = x3
      · subst ep; rw [ups_s]; exact ⟨fun _ => rfl, fun _ => rfl⟩
      · rw [ups_n ep]
        exact ⟨fun q => absurd q.symm ep, fun q => absurd q (n9.1 p c d)⟩
    · rw [ups_n e]
      have q1 := P1 g p a b c d
      by_cases ep : p = x3
      · subst ep; rw [ups_s]
        exact ⟨fun q => by have := q1.mp q; omega, fun q => absurd q.symm e⟩
      · rw [ups_n ep]; exact q1
  · by_cases e : g = x2
    · subst e; rw [ups_s]; exact Or.inr ⟨u3.1, u3.2, m3⟩
    · rw [ups_n e]; exact P2 g a b
  · by_cases e : g = x2
    · subst e; rw [ups_s]; omega
    · rw [ups_n e]; have := E1 g a b; omega
  · by_cases ee : e = en
    · subst ee
      rw [EVN_0, EVN_2, EVN_5]
      exact ⟨by omega, by omega, u2.1, u2.2, fun _ => u2⟩
    · rw [EVN_l (by omega), EVN_l (by omega), EVN_l (by omega)]
      exact E2 e a (by omega)
  · by_cases ee : e = en
    · subst ee
      rw [EVN_0, EVN_5]
      by_cases eg : g = x2
      · subst eg; rw [ups_s]; exact ⟨fun _ => rfl, fun _ => ⟨rfl, rfl⟩⟩
      · rw [ups_n eg]
        have := E1 g c d
        exact ⟨fun q => absurd q.2.symm eg, fun q => by omega⟩
    · rw [EVN_l (by omega), EVN_l (by omega)]
      have q := E3 e g a (by omega) c d
      by_cases eg : g = x2
      · subst eg; rw [ups_s]
        exact ⟨fun w => by have := q.mp w; omega, fun w => by omega⟩
      · rw [ups_n eg]; exact q
  · by_cases ee : e = en
    · subst ee
      rw [EVN_0] at c
      omega
    · rw [EVN_l (by omega)] at c
      rw [EVN_l (by omega)]
      have q := E4 e a (by omega) c
      have ne : er (7 * e + 5) ≠ x2 := fun w => by rw [w] at q; omega
      refine ⟨by rw [ups_n ne]; exact q.1, fun p p0 p1 => ?_⟩
      by_cases ep : p = x3
      · subst ep; rw [ups_s]; exact fun w => ne w.symm
      · rw [ups_n ep]; exact q.2 p p0 p1
  · by_cases ee : e = en
    · subst ee; rw [EVN_0] at f1; omega
    · by_cases ee' : e' = en
      · subst ee'; rw [EVN_0] at f2; omega
      · rw [EVN_l (by omega)] at f1 f2
        rw [EVN_l (by omega), EVN_l (by omega)] at f3
        exact E5 e e' a (by omega) c (by omega) f1 f2 f3
def vC (gn : Int) (gb gp gh : Int → Int) (x2 x3 : Int) : Prop := gb x2 ≠ -1 ∧ gh x2 = -1 ∧ ∃ r, 0 ≤ r ∧ r < gn ∧ gp r = x3
def vM (br ha hg : Int → Int) (x2 x3 : Int) : Prop := 0 ≤ br x2 ∧ ha x2 < 0 ∧ 0 ≤ hg x3
theorem so_Hgive {gn en hp x1 x2 x3 : Int} {gb gp gh ef : Int → Int} {Q : Int → (Int → Int) → (Int → Int) → (Int → Int) → Int → (Int → Int) → Prop} (hg : 0 ≤ gn ∧ gn ≤ 16) (hE : 0 ≤ en ∧ en ≤ 60) (hP : 0 ≤ hp ∧ hp ≤ 24) (h0 : ¬ uA3 gn hp x1 x2 x3 → Q (-1001) gb gp gh en ef) (h2 : uA3 gn hp x1 x2 x3 → ¬ vC gn gb gp gh x2 x3 → Q (-1003) gb gp gh en ef) (h3 : uA3 gn hp x1 x2 x3 → vC gn gb gp gh x2 x3 → en = 60 → Q (-1004) gb gp gh en ef) (h4 : uA3 gn hp x1 x2 x3 → vC gn gb gp gh x2 x3 → en < 60 → ∀ r, 0 ≤ r → r < gn → gp r = x3 → Q en (ups gb x2 (-1)) (ups gp r (-1)) (ups gh x2 r) (en + 1) (EVN ef en 1 x1 x2 x3 (gb x2) r (if x3 = gb x2 then 0 else 1))) : nf_H_give gn gb gp gh en ef hp x1 x2 x3 Q := by
  unfold nf_H_give nf_Guests_handOver
  simp only [ci_m1, ci_m10, ci_m1001, ci_m1002, ci_m1003, ci_m1004, ci_0, ci_1, ci_10, ci_100, ci_1000, ci_10000, ci_101, ci_103, ci_104, ci_105, ci_107, ci_108, ci_110, ci_111, ci_114, ci_115, ci_116, ci_118, ci_119, ci_12, ci_122, ci_1431655765, ci_15, ci_16, ci_2, ci_20, ci_23, ci_24, ci_240, ci_252645135, ci_255, ci_256, ci_3, ci_32, ci_4, ci_420, ci_48, ci_5, ci_5040, ci_57, ci_59, ci_6, ci_60, ci_63, ci_64, ci_7, ci_70, ci_8, ci_858993459, ci_9, ci_900, ci_97, ci_99, ci_999, ci_9999, cl_0, cl_1, cl_10, cl_1000000000000, cl_122, cl_2, cl_2000000000000, cl_23, cl_255, cl_27, cl_3, cl_4, cl_48, cl_57, cl_6, cl_8, cl_96, cl_97, cl_99, cl_999, cl_9999]
  refine sp_isHand (cB_i (fun a1 => cB_f (by decide) ?_) (fun a1 => cB_t rfl (h0 (fun v => a1 v.1))))
  refine sp_knows (cB_i (fun a2 => cB_f (by decide) ?_) (fun a2 => cB_t rfl (h0 (fun v => a2 ⟨v.2.1.1, v.2.1.2, by omega⟩))))
  refine sp_hasPeg (cB_i (fun a3 => cB_f (by decide) ?_) (fun a3 => cB_t rfl (h0 (fun v => a3 ⟨v.2.2.1, v.2.2.2, by omega⟩))))
  have v : uA3 gn hp x1 x2 x3 := ⟨a1, ⟨a2.1, a2.2.1⟩, a3.1, a3.2.1⟩
  have ig : inb x2 16 := by simp only [inb]; omega
  refine sp_ownerOn hg (fun o o1 o2 o3 o4 => wO_i ig (cB_i (fun e => h2 v (fun q => q.1 e)) (fun e1 => wO_i ig (cB_i (fun e2 => cB_i (fun e => h2 v (fun q => ?_)) (fun e3 => ?_)) (fun e => h2 v (fun q => e q.2.1))))))
  · obtain ⟨r, r0, r1, r2⟩ := q.2.2
    exact o4 e r r0 r1 r2
  · have o5 := o3 (by omega)
    have hc : vC gn gb gp gh x2 x3 := ⟨e1, e2, o, by omega, o2, o5.1⟩
    refine sp_isFull (cB_i (fun e => cB_f (by decide) (h3 v hc (by omega))) (fun e => cB_t rfl ?_))
    refine wO_i ig (wO_i ig (sp_knows (cB_t ⟨by omega, o2, by omega⟩ (cB_f (by decide) (sp_knows (cB_t a2 (cB_f (by decide) ?_)))))))
    refine wO_i (by simp only [inb]; omega) (wO_i ig (so_Eadd ⟨by omega, by omega⟩ ?_))
    have g := h4 v hc (by omega) o (by omega) o2 o5.1
    by_cases c : x3 = gb x2
    · rw [if_pos (Or.inr c)]; rw [if_pos c] at g; exact g
    · rw [if_neg (by omega)]; rw [if_neg c] at g; exact g
theorem sm_give {pg gu ev x1 x2 x3 : Int} {hg br ha er : Int → Int} {Q : Int → Int → (Int → Int) → (Int → Int) → (Int → Int) → (Int → Int) → Prop} (hgu : 0 ≤ gu ∧ gu ≤ 16) (hE : 0 ≤ ev ∧ ev ≤ 60) (hP : 0 ≤ pg ∧ pg ≤ 24) (h0 : ¬ uA3 gu pg x1 x2 x3 → Q (-1001) ev hg br ha er) (h2 : uA3 gu pg x1 x2 x3 → ¬ vM br ha hg x2 x3 → Q (-1003) ev hg br ha er) (h3 : uA3 gu pg x1 x2 x3 → vM br ha hg x2 x3 → ev = 60 → Q (-1004) ev hg br ha er) (h4 : uA3 gu pg x1 x2 x3 → vM br ha hg x2 x3 → ev < 60 → Q ev (ev + 1) (ups hg x3 (-1)) (ups br x2 (-1)) (ups ha x2 (hg x3)) (EVN er ev 1 x1 x2 x3 (br x2) (hg x3) (if x3 = br x2 then 0 else 1))) : nf_M_give pg gu ev hg br ha er x1 x2 x3 Q := by
  unfold nf_M_give
  simp only [ci_m1, ci_m10, ci_m1001, ci_m1002, ci_m1003, ci_m1004, ci_0, ci_1, ci_10, ci_100, ci_1000, ci_10000, ci_101, ci_103, ci_104, ci_105, ci_107, ci_108, ci_110, ci_111, ci_114, ci_115, ci_116, ci_118, ci_119, ci_12, ci_122, ci_1431655765, ci_15, ci_16, ci_2, ci_20, ci_23, ci_24, ci_240, ci_252645135, ci_255, ci_256, ci_3, ci_32, ci_4, ci_420, ci_48, ci_5, ci_5040, ci_57, ci_59, ci_6, ci_60, ci_63, ci_64, ci_7, ci_70, ci_8, ci_858993459, ci_9, ci_900, ci_97, ci_99, ci_999, ci_9999, cl_0, cl_1, cl_10, cl_1000000000000, cl_122, cl_2, cl_2000000000000, cl_23, cl_255, cl_27, cl_3, cl_4, cl_48, cl_57, cl_6, cl_8, cl_96, cl_97, cl_99, cl_999, cl_9999]
  refine sp_mHand (cB_i (fun a1 => cB_f (by decide) ?_) (fun a1 => cB_t rfl (h0 (fun v => a1 v.1))))
  refine sp_isGuest hgu (cB_i (fun a2 => cB_f (by decide) ?_) (fun a2 => cB_t rfl (h0 (fun v => a2 v.2.1))))
  refine sp_isPeg hP (cB_i (fun a3 => cB_f (by decide) ?_) (fun a3 => cB_t rfl (h0 (fun v => a3 v.2.2))))
  have v : uA3 gu pg x1 x2 x3 := ⟨a1, a2, a3⟩
  have ig : inb x2 16 := by simp only [inb]; omega
  have ip : inb x3 24 := by simp only [inb]; omega
  refine wO_i ig (cB_i (fun e => h2 v (fun q => by have := q.1; omega)) (fun e1 => wO_i ig (cB_i (fun e => h2 v (fun q => by have := q.2.1; omega)) (fun e2 => wO_i ip (cB_i (fun e3 => ?_) (fun e => h2 v (fun q => e q.2.2)))))))
  have hc : vM br ha hg x2 x3 := ⟨by omega, by omega, e3⟩
  refine cB_i (fun e => h3 v hc e) (fun e => ?_)
  have g := h4 v hc (by omega)
  refine wO_i ig (wO_i ip (wO_i ig (wO_i ip (wO_i ig (jn1_i (cB_i (fun c => sm_addEvent ⟨by omega, by omega⟩ ?_) (fun c => sm_addEvent ⟨by omega, by omega⟩ ?_)))))))
  · rw [if_pos c] at g; rw [if_pos rfl]; exact g
  · rw [if_neg c] at g; rw [if_neg (by decide)]; exact g
theorem sim_give {pg gn en cn nn gu ev cl ni x1 x2 x3 : Int} {pk gs gk gt gm gb gp gh ef cg cy cz nl so ki ti mk br ha hb hg er mg my mz pl we le : Int → Int} {K : Int → (Int → Int) → (Int → Int) → (Int → Int) → Int → (Int → Int) → Int → Int → (Int → Int) → (Int → Int) → (Int → Int) → (Int → Int) → Prop} (hpg : 0 ≤ pg ∧ pg ≤ 24) (hm : mF gu ev cl ni so ti ha hb hg er mg le) (hs : RS pg pk gn gs gk gt gm gb gp gh en ef cn cg cy cz nn nl gu so ki ti mk br ha hb hg ev er cl mg my mz ni pl we le) (h : ∀ r gb' gp' gh' en' ef' ev' hg' br' ha' er', (0 ≤ en' ∧ en' ≤ 60) → mF gu ev' cl ni so ti ha' hb hg' er' mg le → RS pg pk gn gs gk gt gm gb' gp' gh' en' ef' cn cg cy cz nn nl gu so ki ti mk br' ha' hb hg' ev' er' cl mg my mz ni pl we le → K r gb' gp' gh' en' ef' r ev' hg' br' ha' er') : nf_H_give gn gb gp gh en ef pg x1 x2 x3 fun r a1 a2 a3 a4 a5 => nf_M_give pg gu ev hg br ha er x1 x2 x3 fun r' b1 b2 b3 b4 b5 => K r a1 a2 a3 a4 a5 r' b1 b2 b3 b4 b5 := by
  have hs0 := hs
  have hgu : 0 ≤ gu ∧ gu ≤ 16 := ⟨hm.1.1, hm.1.2.1⟩
  have hE := hm.2.1
  obtain ⟨⟨rfl, rfl, rfl, rfl⟩, G, ⟨P1, P2⟩, ⟨E1, E2, E3, E4, E5⟩, F, C, N⟩ := hs
  have same := fun r => h r _ _ _ _ _ _ _ _ _ _ hE hm hs0
  have vv : uA3 gn pg x1 x2 x3 → (vC gn gb gp gh x2 x3 ↔ vM br ha hg x2 x3) := fun u => by
    have g1 := G x2 u.2.1.1 u.2.1.2
    have h4 := hm.1.2.2.2.1 x2 u.2.1.1 u.2.1.2
    have h5 := hm.1.2.2.2.2.1 x3 u.2.2.1 (by have := u.2.2.2; omega)
    have p24 : x3 < 24 := by have := u.2.2.2; omega
    unfold vC vM
    rw [g1.1.2.2.2.2.1, g1.1.2.2.2.2.2]
    constructor
    · rintro ⟨a, b, r, r0, r1, r2⟩
      have := (P1 r x3 r0 r1 u.2.2.1 p24).mp r2
      exact ⟨by omega, by omega, by omega⟩
    · rintro ⟨a, b, c⟩
      exact ⟨by omega, by omega, hg x3, c, h5.2, (P1 (hg x3) x3 c h5.2 u.2.2.1 p24).mpr rfl⟩
  refine so_Hgive hgu hE hpg (fun u => sm_give hgu hE hpg (fun _ => same _) (fun w => absurd w u) (fun w => absurd w u) (fun w => absurd w u)) (fun u zc => sm_give hgu hE hpg (fun w => absurd u w) (fun _ _ => same _) (fun _ w => absurd ((vv u).mpr w) zc) (fun _ w => absurd ((vv u).mpr w) zc)) (fun u zc zd => sm_give hgu hE hpg (fun w => absurd u w) (fun _ w => absurd ((vv u).mp zc) w) (fun _ _ _ => same _) (fun _ _ w => by omega)) (fun u zc zd r r0 r1 r2 => sm_give hgu hE hpg (fun w => absurd u w) (fun _ w => absurd ((vv u).mp zc) w) (fun _ _ w => by omega) (fun _ c2 _ => ?_))
  obtain ⟨m1, m2, m3⟩ := c2
  obtain ⟨u1, u2, u3⟩ := u
  have p24 : 0 ≤ x3 ∧ x3 < 24 := ⟨u3.1, by omega⟩
  have er0 := (P1 r x3 r0 r1 p24.1 p24.2).mp r2
  have gx := G x2 u2.1 u2.2
  have h5 := hm.1.2.2.2.2.1 x3 p24.1 p24.2
  have h6 := hm.1.2.2.2.2.2.1
  have h9 := hm.1.2.2.2.2.2.2.2.2
  have hbt : 0 ≤ hb r := by
    rcases Int.lt_or_le (hb r) 0 with z | z
    · exact absurd er0 ((h9 r r0 r1 z).1 x3 p24.1 p24.2)
    · exact z
  rw [er0, gx.1.2.2.2.2.1]
  have hmg := mS_go hm.1 (p := x3) (k := x2) p24 m3
  rw [er0] at hmg
  refine h _ _ _ _ _ _ _ _ _ _ _ ⟨by omega, by omega⟩ ⟨hmg, ⟨by omega, by omega⟩, hm.2.2.1, hm.2.2.2.1, mE_add ⟨u2.1, by omega⟩ hm.2.2.2.2.1, hm.2.2.2.2.2⟩ ⟨⟨rfl, rfl, rfl, rfl⟩, fun g a b => ?_, ⟨fun g p a b c d => ?_, fun g a b => ?_⟩, ⟨fun g a b => ?_, fun e a b => ?_, fun e g a b c d => ?_, fun e a b c => ?_, fun e e' a b c d f1 f2 f3 => ?_⟩, RF_add F, C, N⟩
  · have g1 := G g a b
    by_cases e : g = x2
    · subst e
      exact ⟨⟨g1.1.1, g1.1.2.1, g1.1.2.2.1, g1.1.2.2.2.1, by rw [ups_s, ups_s], by rw [ups_s, ups_s]⟩, by rw [ups_s]; omega, g1.2.2⟩
    · rw [ups_n e, ups_n e, ups_n e, ups_n e]; exact g1
  · have q1 := P1 g p a b c d
    by_cases e : g = r
    · subst e
      rw [ups_s]
      by_cases ep : p = x3
      · subst ep; rw [ups_s]; exact ⟨fun q => by omega, fun q => by omega⟩
      · rw [ups_n ep]
        exact ⟨fun q => by omega, fun q => by have := q1.mpr q; omega⟩
    · rw [ups_n e]
      by_cases ep : p = x3
      · subst ep; rw [ups_s]
        exact ⟨fun q => by have := q1.mp q; omega, fun q => by omega⟩
      · rw [ups_n ep]; exact q1
  · by_cases e : g = r
    · subst e; rw [ups_s]; exact Or.inl rfl
    · rw [ups_n e]; exact P2 g a b
  · have := E1 g a b; omega
  · by_cases ee : e = en
    · subst ee
      rw [EVN_0, EVN_2, EVN_5]
      exact ⟨by omega, by omega, u2.1, u2.2, fun _ => ⟨r0, r1⟩⟩
    · rw [EVN_l (by omega), EVN_l (by omega), EVN_l (by omega)]
      exact E2 e a (by omega)
  · by_cases ee : e = en
    · subst ee
      rw [EVN_0, EVN_5]
      have := E1 g c d
      exact ⟨fun q => by omega, fun q => by omega⟩
    · rw [EVN_l (by omega), EVN_l (by omega)]
      exact E3 e g a (by omega) c d
  · by_cases ee : e = en
    · subst ee
      rw [EVN_5]
      refine ⟨hbt, fun p p0 p1 => ?_⟩
      by_cases ep : p = x3
      · subst ep; rw [ups_s]; omega
      · rw [ups_n ep]
        exact fun w => ep (h6 p x3 p0 p1 p24.1 p24.2 (by omega) (by omega))
    · rw [EVN_l (by omega)] at c
      rw [EVN_l (by omega)]
      have q := E4 e a (by omega) c
      have e2 := (E2 e a (by omega)).2.2.2.2 (by omega)
      refine ⟨q.1, fun p p0 p1 => ?_⟩
      by_cases ep : p = x3
      · subst ep; rw [ups_s]; omega
      · rw [ups_n ep]; exact q.2 p p0 p1
  · by_cases ee : e = en
    · by_cases ee' : e' = en
      · omega
      · subst ee
        rw [EVN_l (by omega)] at f2
        rw [EVN_5, EVN_l (by omega)] at f3
        have q := E4 e' c (by omega) f2
        exact absurd (by omega) (q.2 x3 p24.1 p24.2)
    · by_cases ee' : e' = en
      · subst ee'
        rw [EVN_l (by omega)] at f1
        rw [EVN_5, EVN_l (by omega)] at f3
        have q := E4 e a (by omega) f1
        exact absurd (by omega) (q.2 x3 p24.1 p24.2)
      · rw [EVN_l (by omega)] at f1 f2
        rw [EVN_l (by omega), EVN_l (by omega)] at f3
        exact E5 e e' a (by omega) c (by omega) f1 f2 f3
theorem so_Hlose {gn en x1 : Int} {gb ef : Int → Int} {Q : Int → (Int → Int) → Int → (Int → Int) → Prop} (hg : 0 ≤ gn ∧ gn ≤ 16) (hE : 0 ≤ en ∧ en ≤ 60) (h0 : ¬ (0 ≤ x1 ∧ x1 < gn) → Q (-1001) gb en ef) (h2 : 0 ≤ x1 ∧ x1 < gn → gb x1 = -1 → Q (-1003) gb en ef) (h3 : 0 ≤ x1 ∧ x1 < gn → gb x1 ≠ -1 → en = 60 → Q (-1004) gb en ef) (h4 : 0 ≤ x1 ∧ x1 < gn → gb x1 ≠ -1 → en < 60 → Q en (ups gb x1 (-1)) (en + 1) (EVN ef en 2 (-1) x1 (-1) (gb x1) (-1) 0)) : nf_H_lose gn gb en ef x1 Q := by
  unfold nf_H_lose
  simp only [ci_m1, ci_m10, ci_m1001, ci_m1002, ci_m1003, ci_m1004, ci_0, ci_1, ci_10, ci_100, ci_1000, ci_10000, ci_101, ci_103, ci_104, ci_105, ci_107, ci_108, ci_110, ci_111, ci_114, ci_115, ci_116, ci_118, ci_119, ci_12, ci_122, ci_1431655765, ci_15, ci_16, ci_2, ci_20, ci_23, ci_24, ci_240, ci_252645135, ci_255, ci_256, ci_3, ci_32, ci_4, ci_420, ci_48, ci_5, ci_5040, ci_57, ci_59, ci_6, ci_60, ci_63, ci_64, ci_7, ci_70, ci_8, ci_858993459, ci_9, ci_900, ci_97, ci_99, ci_999, ci_9999, cl_0, cl_1, cl_10, cl_1000000000000, cl_122, cl_2, cl_2000000000000, cl_23, cl_255, cl_27, cl_3, cl_4, cl_48, cl_57, cl_6, cl_8, cl_96, cl_97, cl_99, cl_999, cl_9999]
  refine sp_knows (cB_i (fun a2 => cB_f (by decide) ?_) (fun a2 => cB_t rfl (h0 (fun v => a2 ⟨v.1, v.2, by omega⟩))))
  have v : 0 ≤ x1 ∧ x1 < gn := ⟨a2.1, a2.2.1⟩
  have ig : inb x1 16 := by simp only [inb]; omega
  refine wO_i ig (cB_i (fun e => h2 v e) (fun e1 => sp_isFull (cB_i (fun e => cB_f (by decide) (h3 v e1 (by omega))) (fun e => cB_t rfl (wO_i ig (so_Eadd ⟨by omega, by omega⟩ ?_))))))
  rw [if_pos (Or.inl rfl)]
  exact h4 v e1 (by omega)
theorem sm_lose {gu ev x1 : Int} {br er : Int → Int} {Q : Int → Int → (Int → Int) → (Int → Int) → Prop} (hg : 0 ≤ gu ∧ gu ≤ 16) (hE : 0 ≤ ev ∧ ev ≤ 60) (h0 : ¬ (0 ≤ x1 ∧ x1 < gu) → Q (-1001) ev br er) (h2 : 0 ≤ x1 ∧ x1 < gu → br x1 < 0 → Q (-1003) ev br er) (h3 : 0 ≤ x1 ∧ x1 < gu → 0 ≤ br x1 → ev = 60 → Q (-1004) ev br er) (h4 : 0 ≤ x1 ∧ x1 < gu → 0 ≤ br x1 → ev < 60 → Q ev (ev + 1) (ups br x1 (-1)) (EVN er ev 2 (-1) x1 (-1) (br x1) (-1) 0)) : nf_M_lose gu ev br er x1 Q := by
  unfold nf_M_lose
  simp only [ci_m1, ci_m10, ci_m1001, ci_m1002, ci_m1003, ci_m1004, ci_0, ci_1, ci_10, ci_100, ci_1000, ci_10000, ci_101, ci_103, ci_104, ci_105, ci_107, ci_108, ci_110, ci_111, ci_114, ci_115, ci_116, ci_118, ci_119, ci_12, ci_122, ci_1431655765, ci_15, ci_16, ci_2, ci_20, ci_23, ci_24, ci_240, ci_252645135, ci_255, ci_256, ci_3, ci_32, ci_4, ci_420, ci_48, ci_5, ci_5040, ci_57, ci_59, ci_6, ci_60, ci_63, ci_64, ci_7, ci_70, ci_8, ci_858993459, ci_9, ci_900, ci_97, ci_99, ci_999, ci_9999, cl_0, cl_1, cl_10, cl_1000000000000, cl_122, cl_2, cl_2000000000000, cl_23, cl_255, cl_27, cl_3, cl_4, cl_48, cl_57, cl_6, cl_8, cl_96, cl_97, cl_99, cl_999, cl_9999]
  refine sp_isGuest hg (cB_i (fun v => cB_f (by decide) ?_) (fun v => cB_t rfl (h0 v)))
  have ig : inb x1 16 := by simp only [inb]; omega
  refine wO_i ig (cB_i (fun e1 => cB_i (fun e => h3 v e1 e) (fun e => wO_i ig (wO_i ig (sm_addEvent ⟨by omega, by omega⟩ ?_)))) (fun e => h2 v (by omega)))
  rw [if_pos rfl]
  exact h4 v e1 (by omega)
theorem sim_lose {pg gn en cn nn gu ev cl ni x1 : Int} {pk gs gk gt gm gb gp gh ef cg cy cz nl so ki ti mk br ha hb hg er mg my mz pl we le : Int → Int} {K : Int → (Int → Int) → Int → (Int → Int) → Int → Int → (Int → Int) → (Int → Int) → Prop} (hm : mF gu ev cl ni so ti ha hb hg er mg le) (hs : RS pg pk gn gs gk gt gm gb gp gh en ef cn cg cy cz nn nl gu so ki ti mk br ha hb hg ev er cl mg my mz ni pl we le) (h : ∀ r gb' en' ef' ev' br' er', (0 ≤ en' ∧ en' ≤ 60) → mF gu ev' cl ni so ti ha hb hg er' mg le → RS pg pk gn gs gk gt gm gb' gp gh en' ef' cn cg cy cz nn nl gu so ki ti mk br' ha hb hg ev' er' cl mg my mz ni pl we le → K r gb' en' ef' r ev' br' er') : nf_H_lose gn gb en ef x1 fun r a1 a2 a3 => nf_M_lose gu ev br er x1 fun r' b1 b2 b3 => K r a1 a2 a3 r' b1 b2 b3 := by
  have hs0 := hs
  have hgu : 0 ≤ gu ∧ gu ≤ 16 := ⟨hm.1.1, hm.1.2.1⟩
  have hE := hm.2.1
  obtain ⟨⟨rfl, rfl, rfl, rfl⟩, G, P, ⟨E1, E2, E3, E4, E5⟩, F, C, N⟩ := hs
  have same := fun r => h r _ _ _ _ _ _ hE hm hs0
  have gb1 : 0 ≤ x1 ∧ x1 < gn → gb x1 = br x1 ∧ -1 ≤ br x1 := fun u => ⟨(G x1 u.1 u.2).1.2.2.2.2.1, (G x1 u.1 u.2).2.1.1⟩
  refine so_Hlose hgu hE (fun u => sm_lose hgu hE (fun _ => same _) (fun w => absurd w u) (fun w => absurd w u) (fun w => absurd w u)) (fun u zc => sm_lose hgu hE (fun w => absurd u w) (fun _ _ => same _) (fun _ w => by have := gb1 u; omega) (fun _ w => by have := gb1 u; omega)) (fun u zc zd => sm_lose hgu hE (fun w => absurd u w) (fun _ w => by have := gb1 u; omega) (fun _ _ _ => same _) (fun _ _ w => by omega)) (fun u zc zd => sm_lose hgu hE (fun w => absurd u w) (fun _ w => by have := gb1 u; omega) (fun _ _ w => by omega) (fun _ c2 _ => ?_))
  rw [(gb1 u).1]
  refine h _ _ _ _ _ _ _ ⟨by omega, by omega⟩ ⟨hm.1, ⟨by omega, by omega⟩, hm.2.2.1, hm.2.2.2.1, mE_add ⟨u.1, by omega⟩ hm.2.2.2.2.1, hm.2.2.2.2.2⟩ ⟨⟨rfl, rfl, rfl, rfl⟩, fun g a b => ?_, P, ⟨fun g a b => ?_, fun e a b => ?_, fun e g a b c d => ?_, fun e a b c => ?_, fun e e' a b c d f1 f2 f3 => ?_⟩, RF_add F, C, N⟩
  · have g1 := G g a b
    by_cases e : g = x1
    · subst e
      exact ⟨⟨g1.1.1, g1.1.2.1, g1.1.2.2.1, g1.1.2.2.2.1, by rw [ups_s, ups_s], g1.1.2.2.2.2.2⟩, by rw [ups_s]; omega, g1.2.2⟩
    · rw [ups_n e, ups_n e]; exact g1
  · have := E1 g a b; omega
  · by_cases ee : e = en
    · subst ee
      rw [EVN_0, EVN_2, EVN_5]
      exact ⟨by omega, by omega, u.1, u.2, fun w => absurd rfl w⟩
    · rw [EVN_l (by omega), EVN_l (by omega), EVN_l (by omega)]
      exact E2 e a (by omega)
  · by_cases ee : e = en
    · subst ee
      rw [EVN_0, EVN_5]
      have := E1 g c d
      exact ⟨fun q => by omega, fun q => by omega⟩
    · rw [EVN_l (by omega), EVN_l (by omega)]
      exact E3 e g a (by omega) c d
  · by_cases ee : e = en
    · subst ee
      rw [EVN_0] at c
      omega
    · rw [EVN_l (by omega)] at c
      rw [EVN_l (by omega)]
      exact E4 e a (by omega) c
  · by_cases ee : e = en
    · subst ee; rw [EVN_0] at f1; omega
    · by_cases ee' : e' = en
      · subst ee'; rw [EVN_0] at f2; omega
      · rw [EVN_l (by omega)] at f1 f2
        rw [EVN_l (by omega), EVN_l (by omega)] at f3
        exact E5 e e' a (by omega) c (by omega) f1 f2 f3
