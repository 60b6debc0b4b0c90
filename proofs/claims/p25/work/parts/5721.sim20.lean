/-! IN STEP 21: small pieces for the law's cases -/
theorem dI_g {dp dt dl rp : Int} {dk dw ds dx rk rw ro rs : Int → Int} (h : cR dp dt dl dk dw ds dx rp rk rw ro rs) (hI : rI 0 rp rw ro rs) : dI 0 dp dt dl dw ds dx := by
  obtain ⟨h1, h2, h3, h4, h5, h6⟩ := h
  obtain ⟨i1, i2, i3, i4⟩ := hI
  obtain ⟨j1, j2, j3⟩ := i4 rfl
  subst h1
  refine ⟨i1, i2, fun q a b => ?_, fun _ => ⟨by omega, by omega, by omega, by omega, fun k a b => ?_, fun k a b => ?_⟩⟩
  · rw [(h2 q a b).2]; exact i3 q a b
  · rw [h3 k a b]; exact j1 k a b
  · rw [h4 k a b]; exact j2 k a b
theorem rI_g {rp : Int} {pk pw oo sg rk rw ro rs : Int → Int} (h : mR pk pw oo sg rp rk rw ro rs) (hI : rI 0 rp rw ro rs) : rI 0 rp pw oo sg := by
  obtain ⟨h1, h2, h3⟩ := h
  obtain ⟨i1, i2, i3, i4⟩ := hI
  obtain ⟨j1, j2, j3⟩ := i4 rfl
  refine ⟨i1, i2, fun q a b => ?_, fun _ => ⟨fun k a b => ?_, fun k a b => ?_, ?_⟩⟩
  · rw [(h1 q a b).2]; exact i3 q a b
  · rw [h2 k a b]; exact j1 k a b
  · rw [h3 k a (by omega)]; exact j2 k a b
  · rw [h3 3 (by omega) (by omega), h3 4 (by omega) (by omega)]; exact j3
theorem cR_m {dp dt dl rp : Int} {dk dw ds dx rk rw ro rs pk pw oo sg : Int → Int} (h : cR dp dt dl dk dw ds dx rp rk rw ro rs) (g : mR pk pw oo sg rp rk rw ro rs) : cR dp dt dl dk dw ds dx rp pk pw oo sg := by
  obtain ⟨h1, h2, h3, h4, h5, h6⟩ := h
  obtain ⟨g1, g2, g3⟩ := g
  refine ⟨h1, fun q a b => ?_, fun k a b => ?_, fun k a b => ?_, ?_, ?_⟩
  · rw [(h2 q a b).1, (h2 q a b).2, (g1 q a b).1, (g1 q a b).2]; exact ⟨rfl, rfl⟩
  · rw [h3 k a b, g2 k a b]
  · rw [h4 k a b, g3 k a (by omega)]
  · rw [h5, g3 3 (by omega) (by omega)]
  · rw [h6, g3 4 (by omega) (by omega)]
theorem tx_0 {F T : Int → Int} : tx 0 F T := ⟨⟨by omega, by omega⟩, by omega⟩
theorem RI_f {ik v hs : Int} {P : Prop} (h : ik ≠ 0 → v ≤ hs) : RI 0 ik v (hs + 1) P := ⟨fun q => absurd rfl q, ⟨fun q => absurd rfl q, fun q => by have := h q.1; omega⟩⟩
section KEEP
variable {pg gn en cn nn x hs gu ev cl ni : Int} {pk gs gk gt gm gb gp gh ef cg' cy' cz' nl so ki ti mk br ha hb hg er cg cy cn1 pl we le im0 im ik : Int → Int}
theorem RI_n (hm : mF gu ev cl ni so ti ha hb hg er cg le) (hR : RS pg pk gn gs gk gt gm gb gp gh en ef cn cg' cy' cz' nn nl gu so ki ti mk br ha hb hg ev er cl cg cy cn1 ni pl we le) (hw : wB (900 * x) (900 * x + 879) (iv hs gu ev cl ni so ki ti mk br ha hb hg er cg cy cn1 pl we le) im0 im) : RI 1 (ups ik x 1 x) (im (900 * x)) hs (RSb pg pk gn gs gk gt gm gb gp gh en ef cn cg' cy' cz' nn nl (900 * x) im) := by
  have h0 := hw.1 0 (by omega) (by omega)
  rw [Int.add_zero, iv_0 rfl] at h0
  exact ⟨fun _ => RSb_w hm hR hw, ⟨fun _ => ⟨by rw [ups_s]; decide, h0⟩, fun _ => by decide⟩⟩
theorem RI_o {kept y : Int} {V : Int → Int} (hx : 0 ≤ x ∧ x ≤ 1) (hy : 0 ≤ y ∧ y ≤ 1) (hxy : y ≠ x) (hm : ∀ z, 0 ≤ z → z ≤ 1 → ik z ≠ 0 → mIm (900 * z) im0) (hw : wB (900 * x) (900 * x + 879) V im0 im) (h : RI kept (ik y) (im0 (900 * y)) hs (RSb pg pk gn gs gk gt gm gb gp gh en ef cn cg' cy' cz' nn nl (900 * y) im0)) : RI kept (ups ik x 1 y) (im (900 * y)) hs (RSb pg pk gn gs gk gt gm gb gp gh en ef cn cg' cy' cz' nn nl (900 * y) im) := by
  obtain ⟨h1, h2⟩ := h
  have e : im (900 * y) = im0 (900 * y) := hw.2 _ (by omega)
  refine ⟨fun q => RSb_o (hm y hy.1 hy.2 (h2.mp q).1) (h1 q) (fun z z0 z1 => hw.2 z (by omega)), ?_⟩
  rw [ups_n hxy, e]; exact h2
theorem RI_8 (hx : 0 ≤ x ∧ x ≤ 1) (hw : wB (900 * x) (900 * x + 879) (iv hs gu ev cl ni so ki ti mk br ha hb hg er cg cy cn1 pl we le) im0 im) (h : ∀ y, 0 ≤ y → y ≤ 1 → ik y ≠ 0 → im0 (900 * y) ≤ hs) : ∀ y, 0 ≤ y → y ≤ 1 → ups ik x 1 y ≠ 0 → im (900 * y) ≤ hs := fun y a b c => by
  by_cases e : y = x
  · have h0 := hw.1 0 (by omega) (by omega)
    rw [Int.add_zero, iv_0 rfl] at h0
    rw [e, h0]; omega
  · rw [ups_n e] at c
    rw [hw.2 _ (by omega)]; exact h y a b c
end KEEP
theorem sN_0 {f : Int → Int} : sumN f (0 : Int).toNat = 0 := rfl
theorem zA_z (k : Int) : zA k = 0 := rfl
theorem RS_0 {pg : Int} {pk hg : Int → Int} (h : ∀ q, 0 ≤ q → q < 24 → hg q = -1) : RS pg pk 0 zA zA zA zA zA zA zA 0 zA 0 zA zA zA 0 zA 0 zA zA zA zA zA zA zA hg 0 zA 0 zA zA zA 0 zA zA zA := by
  refine ⟨⟨rfl, rfl, rfl, rfl⟩, fun g a b => by omega, ⟨fun g p a b c d => by omega, fun g a b => by omega⟩, ⟨fun g a b => by omega, fun e a b => by omega, fun e g a b c d => by omega, fun e a b c => by omega, fun e e' a b c d => by omega⟩, fun k a b => rfl, fun c a b => by omega, fun p w k _ _ _ _ _ _ => rfl⟩
theorem RI_0 {v hs : Int} {P : Prop} : RI 0 0 v hs P := ⟨fun q => absurd rfl q, ⟨fun q => absurd rfl q, fun q => absurd rfl q.1⟩⟩
