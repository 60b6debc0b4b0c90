theorem vk_R.of2 {own tx : String} {k a : Nat} {A : Array Value} {U : State} (h1 : (Cond.stringRef own k tx).before A U = true) (h2 : (Term.string own k).eval A U none [] U = some (.ref a)) : vk_R own k tx a U := vk_R.of h1 h2
set_option maxHeartbeats 16000000 in
set_option maxRecDepth 200000 in
theorem law_start {p : Program} {e : Env} {s : State} {m : MethodId} {below : List Frame} {meth : Method} {c : Code} (l : Launch) {b L : Nat} {xs : Nat → Int32} (hL : L ≤ 3072) (C0 : lw_At p s m meth c b L xs) (I : Nat → lwI) (hI0 : nf_H_init fun k_nightPlay k_nightWeather w_kept g_number g_sort g_kind g_tip g_marks g_brass g_peg g_has e_number e_facts c_number c_guest c_yes c_no n_number n_left z_kept zg_number zg_sort zg_kind zg_tip zg_marks zg_brass zg_peg zg_has ze_number ze_facts zc_number zc_guest zc_yes zc_no zn_number zn_left o_kept og_number og_sort og_kind og_tip og_marks og_brass og_peg og_has oe_number oe_facts oc_number oc_guest oc_yes oc_no on_number on_left h_pegs h_ticks h_loss h_kind h_walk h_share h_weight r_length r_place r_failure r_at r_firstFigure r_toldBefore r_text d_pegs d_ticks d_loss d_kind d_walk d_share d_weight p_sum p_expected p_pegFor p_taken u_size u_loss u_bestTips u_bestWaits u_ticks u_tip u_row u_freeAt u_waits u_greatest u_tips u_best q_claims q_fitting q_waysOf => nf_M_init fun m_pegs m_halls m_texted m_faultPlace m_at0 m_word m_wordEnd m_number m_numberAt m_readPegs m_toldSet m_sortSet m_guests m_nightPlay m_nightWeather m_nights m_events m_chainMany m_isRound m_rowMany m_waitSum m_waitMost m_tipSum m_claims m_imageAt m_pegKind m_pegWalk m_oddsOf m_singles m_text m_readKind m_readWalk m_readOdds m_readSingle m_hangs m_sorts m_kinds m_tips m_marks m_brasses m_has m_hungBy m_planned m_isTaken m_plays m_weathers m_lefts m_eventRow m_chained m_row m_freeAt m_bestRow m_claimGuest m_claimYes m_claimNo m_waysTo m_images m_isKept => I 0 k_nightPlay k_nightWeather w_kept g_number g_sort g_kind g_tip g_marks g_brass g_peg g_has e_number e_facts c_number c_guest c_yes c_no n_number n_left z_kept zg_number zg_sort zg_kind zg_tip zg_marks zg_brass zg_peg zg_has ze_number ze_facts zc_number zc_guest zc_yes zc_no zn_number zn_left o_kept og_number og_sort og_kind og_tip og_marks og_brass og_peg og_has oe_number oe_facts oc_number oc_guest oc_yes oc_no on_number on_left h_pegs h_ticks h_loss h_kind h_walk h_share h_weight r_length r_place r_failure r_at r_firstFigure r_toldBefore r_text d_pegs d_ticks d_loss d_kind d_walk d_share d_weight p_sum p_expected p_pegFor p_taken u_size u_loss u_bestTips u_bestWaits u_ticks u_tip u_row u_freeAt u_waits u_greatest u_tips u_best q_claims q_fitting q_waysOf m_pegs m_halls m_texted m_faultPlace m_at0 m_word m_wordEnd m_number m_numberAt m_readPegs m_toldSet m_sortSet m_guests m_nightPlay m_nightWeather m_nights m_events m_chainMany m_isRound m_rowMany m_waitSum m_waitMost m_tipSum m_claims m_imageAt m_pegKind m_pegWalk m_oddsOf m_singles m_text m_readKind m_readWalk m_readOdds m_readSingle m_hangs m_sorts m_kinds m_tips m_marks m_brasses m_has m_hungBy m_planned m_isTaken m_plays m_weathers m_lefts m_eventRow m_chained m_row m_freeAt m_bestRow m_claimGuest m_claimYes m_claimNo m_waysTo m_images m_isKept) (h0 : ∀ i : Nat, i + 6 ≤ 3072 → lH0 (I i) (I (i + 6))) (h1 : ∀ i : Nat, i + 6 ≤ 3072 → lH1 (I i) (I (i + 6))) (h2 : ∀ i : Nat, i + 6 ≤ 3072 → lH2 (I i) (I (i + 6))) (h3 : ∀ i : Nat, i + 6 ≤ 3072 → lH3 (I i) (I (i + 6))) (h4 : ∀ i : Nat, i + 6 ≤ 3072 → lH4 (I i) (I (i + 6))) (h5 : ∀ i : Nat, i + 6 ≤ 3072 → lH5 (I i) (I (i + 6))) (h6 : ∀ i : Nat, i + 6 ≤ 3072 → lH6 (I i) (I (i + 6))) (h7 : ∀ i : Nat, i + 6 ≤ 3072 → lH7 (I i) (I (i + 6))) (h8 : ∀ i : Nat, i + 6 ≤ 3072 → lH8 (I i) (I (i + 6))) (h9 : ∀ i : Nat, i + 6 ≤ 3072 → lH9 (I i) (I (i + 6))) (h10 : ∀ i : Nat, i + 6 ≤ 3072 → lH10 (I i) (I (i + 6))) (h11 : ∀ i : Nat, i + 6 ≤ 3072 → lH11 (I i) (I (i + 6))) (h12 : ∀ i : Nat, i + 6 ≤ 3072 → lH12 (I i) (I (i + 6))) (h13 : ∀ i : Nat, i + 6 ≤ 3072 → lH13 (I i) (I (i + 6))) (h14 : ∀ i : Nat, i + 6 ≤ 3072 → lH14 (I i) (I (i + 6))) (h15 : ∀ i : Nat, i + 6 ≤ 3072 → lH15 (I i) (I (i + 6))) (h16 : ∀ i : Nat, i + 6 ≤ 3072 → lH16 (I i) (I (i + 6))) (h17 : ∀ i : Nat, i + 6 ≤ 3072 → lH17 (I i) (I (i + 6))) (h18 : ∀ i : Nat, i + 6 ≤ 3072 → lH18 (I i) (I (i + 6))) (h19 : ∀ i : Nat, i + 6 ≤ 3072 → lH19 (I i) (I (i + 6))) (h20 : ∀ i : Nat, i + 6 ≤ 3072 → lH20 (I i) (I (i + 6))) (h21 : ∀ i : Nat, i + 6 ≤ 3072 → lH21 (I i) (I (i + 6))) (h22 : ∀ i : Nat, i + 6 ≤ 3072 → lH22 (I i) (I (i + 6))) (h23 : ∀ i : Nat, i + 6 ≤ 3072 → lH23 (I i) (I (i + 6))) (h24 : ∀ i : Nat, i + 6 ≤ 3072 → lH24 (I i) (I (i + 6))) (h25 : ∀ i : Nat, i + 6 ≤ 3072 → lH25 (I i) (I (i + 6))) (h26 : ∀ i : Nat, i + 6 ≤ 3072 → lH26 (I i) (I (i + 6))) (h27 : ∀ i : Nat, i + 6 ≤ 3072 → lH27 (I i) (I (i + 6))) (h28 : ∀ i : Nat, i + 6 ≤ 3072 → lH28 (I i) (I (i + 6))) (h29 : ∀ i : Nat, i + 6 ≤ 3072 → lH29 (I i) (I (i + 6))) (h30 : ∀ i : Nat, i + 6 ≤ 3072 → lH30 (I i) (I (i + 6))) (h31 : ∀ i : Nat, i + 6 ≤ 3072 → lH31 (I i) (I (i + 6))) (h32 : ∀ i : Nat, i + 6 ≤ 3072 → lH32 (I i) (I (i + 6))) (hm : ∀ (i : Nat) (k_nightPlay : Int) (k_nightWeather : Int) (w_kept : Int) (g_number : Int) (g_sort : (Int → Int)) (g_kind : (Int → Int)) (g_tip : (Int → Int)) (g_marks : (Int → Int)) (g_brass : (Int → Int)) (g_peg : (Int → Int)) (g_has : (Int → Int)) (e_number : Int) (e_facts : (Int → Int)) (c_number : Int) (c_guest : (Int → Int)) (c_yes : (Int → Int)) (c_no : (Int → Int)) (n_number : Int) (n_left : (Int → Int)) (z_kept : Int) (zg_number : Int) (zg_sort : (Int → Int)) (zg_kind : (Int → Int)) (zg_tip : (Int → Int)) (zg_marks : (Int → Int)) (zg_brass : (Int → Int)) (zg_peg : (Int → Int)) (zg_has : (Int → Int)) (ze_number : Int) (ze_facts : (Int → Int)) (zc_number : Int) (zc_guest : (Int → Int)) (zc_yes : (Int → Int)) (zc_no : (Int → Int)) (zn_number : Int) (zn_left : (Int → Int)) (o_kept : Int) (og_number : Int) (og_sort : (Int → Int)) (og_kind : (Int → Int)) (og_tip : (Int → Int)) (og_marks : (Int → Int)) (og_brass : (Int → Int)) (og_peg : (Int → Int)) (og_has : (Int → Int)) (oe_number : Int) (oe_facts : (Int → Int)) (oc_number : Int) (oc_guest : (Int → Int)) (oc_yes : (Int → Int)) (oc_no : (Int → Int)) (on_number : Int) (on_left : (Int → Int)) (h_pegs : Int) (h_ticks : Int) (h_loss : Int) (h_kind : (Int → Int)) (h_walk : (Int → Int)) (h_share : (Int → Int)) (h_weight : (Int → Int)) (r_length : Int) (r_place : Int) (r_failure : Int) (r_at : Int) (r_firstFigure : Int) (r_toldBefore : Int) (r_text : (Int → Int)) (d_pegs : Int) (d_ticks : Int) (d_loss : Int) (d_kind : (Int → Int)) (d_walk : (Int → Int)) (d_share : (Int → Int)) (d_weight : (Int → Int)) (p_sum : Int) (p_expected : (Int → Int)) (p_pegFor : (Int → Int)) (p_taken : (Int → Int)) (u_size : Int) (u_loss : Int) (u_bestTips : Int) (u_bestWaits : Int) (u_ticks : (Int → Int)) (u_tip : (Int → Int)) (u_row : (Int → Int)) (u_freeAt : (Int → Int)) (u_waits : (Int → Int)) (u_greatest : (Int → Int)) (u_tips : (Int → Int)) (u_best : (Int → Int)) (q_claims : Int) (q_fitting : (Int → Int)) (q_waysOf : (Int → Int)) (m_pegs : Int) (m_halls : Int) (m_texted : Int) (m_faultPlace : Int) (m_at0 : Int) (m_word : Int) (m_wordEnd : Int) (m_number : Int) (m_numberAt : Int) (m_readPegs : Int) (m_toldSet : Int) (m_sortSet : Int) (m_guests : Int) (m_nightPlay : Int) (m_nightWeather : Int) (m_nights : Int) (m_events : Int) (m_chainMany : Int) (m_isRound : Int) (m_rowMany : Int) (m_waitSum : Int) (m_waitMost : Int) (m_tipSum : Int) (m_claims : Int) (m_imageAt : Int) (m_pegKind : (Int → Int)) (m_pegWalk : (Int → Int)) (m_oddsOf : (Int → Int)) (m_singles : (Int → Int)) (m_text : (Int → Int)) (m_readKind : (Int → Int)) (m_readWalk : (Int → Int)) (m_readOdds : (Int → Int)) (m_readSingle : (Int → Int)) (m_hangs : (Int → Int)) (m_sorts : (Int → Int)) (m_kinds : (Int → Int)) (m_tips : (Int → Int)) (m_marks : (Int → Int)) (m_brasses : (Int → Int)) (m_has : (Int → Int)) (m_hungBy : (Int → Int)) (m_planned : (Int → Int)) (m_isTaken : (Int → Int)) (m_plays : (Int → Int)) (m_weathers : (Int → Int)) (m_lefts : (Int → Int)) (m_eventRow : (Int → Int)) (m_chained : (Int → Int)) (m_row : (Int → Int)) (m_freeAt : (Int → Int)) (m_bestRow : (Int → Int)) (m_claimGuest : (Int → Int)) (m_claimYes : (Int → Int)) (m_claimNo : (Int → Int)) (m_waysTo : (Int → Int)) (m_images : (Int → Int)) (m_isKept : (Int → Int)), I i k_nightPlay k_nightWeather w_kept g_number g_sort g_kind g_tip g_marks g_brass g_peg g_has e_number e_facts c_number c_guest c_yes c_no n_number n_left z_kept zg_number zg_sort zg_kind zg_tip zg_marks zg_brass zg_peg zg_has ze_number ze_facts zc_number zc_guest zc_yes zc_no zn_number zn_left o_kept og_number og_sort og_kind og_tip og_marks og_brass og_peg og_has oe_number oe_facts oc_number oc_guest oc_yes oc_no on_number on_left h_pegs h_ticks h_loss h_kind h_walk h_share h_weight r_length r_place r_failure r_at r_firstFigure r_toldBefore r_text d_pegs d_ticks d_loss d_kind d_walk d_share d_weight p_sum p_expected p_pegFor p_taken u_size u_loss u_bestTips u_bestWaits u_ticks u_tip u_row u_freeAt u_waits u_greatest u_tips u_best q_claims q_fitting q_waysOf m_pegs m_halls m_texted m_faultPlace m_at0 m_word m_wordEnd m_number m_numberAt m_readPegs m_toldSet m_sortSet m_guests m_nightPlay m_nightWeather m_nights m_events m_chainMany m_isRound m_rowMany m_waitSum m_waitMost m_tipSum m_claims m_imageAt m_pegKind m_pegWalk m_oddsOf m_singles m_text m_readKind m_readWalk m_readOdds m_readSingle m_hangs m_sorts m_kinds m_tips m_marks m_brasses m_has m_hungBy m_planned m_isTaken m_plays m_weathers m_lefts m_eventRow m_chained m_row m_freeAt m_bestRow m_claimGuest m_claimYes m_claimNo m_waysTo m_images m_isKept → I (i + 6) k_nightPlay k_nightWeather w_kept g_number g_sort g_kind g_tip g_marks g_brass g_peg g_has e_number e_facts c_number c_guest c_yes c_no n_number n_left z_kept zg_number zg_sort zg_kind zg_tip zg_marks zg_brass zg_peg zg_has ze_number ze_facts zc_number zc_guest zc_yes zc_no zn_number zn_left o_kept og_number og_sort og_kind og_tip og_marks og_brass og_peg og_has oe_number oe_facts oc_number oc_guest oc_yes oc_no on_number on_left h_pegs h_ticks h_loss h_kind h_walk h_share h_weight r_length r_place r_failure r_at r_firstFigure r_toldBefore r_text d_pegs d_ticks d_loss d_kind d_walk d_share d_weight p_sum p_expected p_pegFor p_taken u_size u_loss u_bestTips u_bestWaits u_ticks u_tip u_row u_freeAt u_waits u_greatest u_tips u_best q_claims q_fitting q_waysOf m_pegs m_halls m_texted m_faultPlace m_at0 m_word m_wordEnd m_number m_numberAt m_readPegs m_toldSet m_sortSet m_guests m_nightPlay m_nightWeather m_nights m_events m_chainMany m_isRound m_rowMany m_waitSum m_waitMost m_tipSum m_claims m_imageAt m_pegKind m_pegWalk m_oddsOf m_singles m_text m_readKind m_readWalk m_readOdds m_readSingle m_hangs m_sorts m_kinds m_tips m_marks m_brasses m_has m_hungBy m_planned m_isTaken m_plays m_weathers m_lefts m_eventRow m_chained m_row m_freeAt m_bestRow m_claimGuest m_claimYes m_claimNo m_waysTo m_images m_isKept) : W p l e room_1 s m #[Value.ref b] below meth c s.heap [] 0 0 (lw_Z below #[Value.ref b] s) (entryFrame m ([Value.ref b] : List Value).toArray 4) := by
  obtain ⟨hx, hb, hr, hml, hown, hts0, hX, hbl, hlocks, hgv⟩ := id C0
  have hts : ∀ w ∈ wsL_law, w.before #[Value.ref b] s = true := fun w h => hts0 w (wsL_law_in w h)
  have hown : s.vm.findClass RL = some m.cls := hown
  have hfl := flat_of_before _ hgv
  have hA : ∀ q : Nat, s.heap.size ≤ q → (fun q : Nat => s.heap.size ≤ q) q := fun _ h => h
  have hAn : ∀ a : Nat, a < s.heap.size → ¬ (fun q : Nat => s.heap.size ≤ q) a := fun a h => Nat.not_le.mpr h
  have hbA : ¬ (fun q : Nat => s.heap.size ≤ q) b := Nat.not_le.mpr hbl
  obtain ⟨cX0, iX0, hnX0⟩ := u_known (C := RX0) (T := TX0) (N := 4) (n := 4) hts inlX0 (hts (.instantiable RX0 4) (by decide +kernel))
  obtain ⟨cX1, iX1, hnX1⟩ := u_known (C := RX1) (T := TX1) (N := 2) (n := 2) hts inlX1 (hts (.instantiable RX1 2) (by decide +kernel))
  obtain ⟨cX2, iX2, hnX2⟩ := u_known (C := RX2) (T := TX2) (N := 8) (n := 8) hts inlX2 (hts (.instantiable RX2 8) (by decide +kernel))
  obtain ⟨cX3, iX3, hnX3⟩ := u_known (C := RX3) (T := TX3) (N := 7) (n := 7) hts inlX3 (hts (.instantiable RX3 7) (by decide +kernel))
  obtain ⟨cX4, iX4, hnX4⟩ := u_known (C := RX4) (T := TX4) (N := 5) (n := 5) hts inlX4 (hts (.instantiable RX4 5) (by decide +kernel))
  obtain ⟨cX5, iX5, hnX5⟩ := u_known (C := RX5) (T := TX5) (N := 3) (n := 3) hts inlX5 (hts (.instantiable RX5 3) (by decide +kernel))
  obtain ⟨cX6, iX6, hnX6⟩ := u_known (C := RX6) (T := TX6) (N := 2) (n := 2) hts inlX6 (hts (.instantiable RX6 2) (by decide +kernel))
  obtain ⟨cX7, iX7, hnX7⟩ := u_known (C := RX7) (T := TX7) (N := 4) (n := 4) hts inlX7 (hts (.instantiable RX7 4) (by decide +kernel))
  obtain ⟨cX8, iX8, hnX8⟩ := u_known (C := RX8) (T := TX8) (N := 8) (n := 8) hts inlX8 (hts (.instantiable RX8 8) (by decide +kernel))
  obtain ⟨cX9, iX9, hnX9⟩ := u_known (C := RX9) (T := TX9) (N := 12) (n := 12) hts inlX9 (hts (.instantiable RX9 12) (by decide +kernel))
  obtain ⟨cX10, iX10, hnX10⟩ := u_known (C := RX10) (T := TX10) (N := 10) (n := 10) hts inlX10 (hts (.instantiable RX10 10) (by decide +kernel))
  obtain ⟨cX11, iX11, hnX11⟩ := u_known (C := RX11) (T := TX11) (N := 58) (n := 58) hts inlX11 (hts (.instantiable RX11 58) (by decide +kernel))
  obtain ⟨dC, dI, hKc⟩ : ∃ (dC : Nat → ClassId) (dI : Nat → Nat → Nat), ∀ (k : Nat) (q : vw_C), vwCl[k]? = some q → u_Kn s q.1 q.2.1 q.2.2 (dC k) (dI k) := by
    refine ⟨fun k => if k = 0 then cX0 else if k = 1 then cX1 else if k = 2 then cX2 else if k = 3 then cX3 else if k = 4 then cX4 else if k = 5 then cX5 else if k = 6 then cX6 else if k = 7 then cX7 else if k = 8 then cX8 else if k = 9 then cX9 else if k = 10 then cX10 else cX11, fun k => if k = 0 then iX0 else if k = 1 then iX1 else if k = 2 then iX2 else if k = 3 then iX3 else if k = 4 then iX4 else if k = 5 then iX5 else if k = 6 then iX6 else if k = 7 then iX7 else if k = 8 then iX8 else if k = 9 then iX9 else if k = 10 then iX10 else iX11, ?_⟩
    intro k q hq
    match k, hq with
    | 0, hq => cases hq; exact hnX0
    | 1, hq => cases hq; exact hnX1
    | 2, hq => cases hq; exact hnX2
    | 3, hq => cases hq; exact hnX3
    | 4, hq => cases hq; exact hnX4
    | 5, hq => cases hq; exact hnX5
    | 6, hq => cases hq; exact hnX6
    | 7, hq => cases hq; exact hnX7
    | 8, hq => cases hq; exact hnX8
    | 9, hq => cases hq; exact hnX9
    | 10, hq => cases hq; exact hnX10
    | 11, hq => cases hq; exact hnX11
    | k + 12, hq => simp [vwCl] at hq
  obtain ⟨cyB, kacyB, kbcyB⟩ := al_K (s := s) (args := #[Value.ref b]) (ty := .byte) (fun _ h => by cases h) (hts (.arrayClass .byte) (by decide +kernel))
  obtain ⟨cyI, kacyI, kbcyI⟩ := al_K (s := s) (args := #[Value.ref b]) (ty := .int) (fun _ h => by cases h) (hts (.arrayClass .int) (by decide +kernel))
  obtain ⟨cyJ, kacyJ, kbcyJ⟩ := al_K (s := s) (args := #[Value.ref b]) (ty := .long) (fun _ h => by cases h) (hts (.arrayClass .long) (by decide +kernel))
  obtain ⟨cyZ, kacyZ, kbcyZ⟩ := al_K (s := s) (args := #[Value.ref b]) (ty := .boolean) (fun _ h => by cases h) (hts (.arrayClass .boolean) (by decide +kernel))
  have hK : va_K (dC, dI) vwCl (tyS cyB cyI cyJ cyZ) s := ⟨hKc, fun k q hq => by
    match k, hq with
    | 0, hq => cases hq; exact ⟨kacyB, kbcyB⟩
    | 1, hq => cases hq; exact ⟨kacyI, kbcyI⟩
    | 2, hq => cases hq; exact ⟨kacyJ, kbcyJ⟩
    | 3, hq => cases hq; exact ⟨kacyZ, kbcyZ⟩
    | k + 4, hq => simp [tyS] at hq⟩
  have hNw : nwA s := fun k q hq => by
    match k, hq with
    | 0, hq => cases hq; exact va_Nw.of (A := #[Value.ref b]) rfl (hts0 _ (List.mem_append_right _ (by decide +kernel)))
    | 1, hq => cases hq; exact va_Nw.of (A := #[Value.ref b]) rfl (hts0 _ (List.mem_append_right _ (by decide +kernel)))
    | 2, hq => cases hq; exact va_Nw.of (A := #[Value.ref b]) rfl (hts0 _ (List.mem_append_right _ (by decide +kernel)))
    | 3, hq => cases hq; exact va_Nw.of (A := #[Value.ref b]) rfl (hts0 _ (List.mem_append_right _ (by decide +kernel)))
    | 4, hq => cases hq; exact va_Nw.of (A := #[Value.ref b]) rfl (hts0 _ (List.mem_append_right _ (by decide +kernel)))
    | 5, hq => cases hq; exact va_Nw.of (A := #[Value.ref b]) rfl (hts0 _ (List.mem_append_right _ (by decide +kernel)))
    | 6, hq => cases hq; exact va_Nw.of (A := #[Value.ref b]) rfl (hts0 _ (List.mem_append_right _ (by decide +kernel)))
    | 7, hq => cases hq; exact va_Nw.of (A := #[Value.ref b]) rfl (hts0 _ (List.mem_append_right _ (by decide +kernel)))
    | 8, hq => cases hq; exact va_Nw.of (A := #[Value.ref b]) rfl (hts0 _ (List.mem_append_right _ (by decide +kernel)))
    | 9, hq => cases hq; exact va_Nw.of (A := #[Value.ref b]) rfl (hts0 _ (List.mem_append_right _ (by decide +kernel)))
    | 10, hq => cases hq; exact va_Nw.of (A := #[Value.ref b]) rfl (hts0 _ (List.mem_append_right _ (by decide +kernel)))
    | 11, hq => cases hq; exact va_Nw.of (A := #[Value.ref b]) rfl (hts0 _ (List.mem_append_right _ (by decide +kernel)))
    | 12, hq => cases hq; exact va_Nw.of (A := #[Value.ref b]) rfl (hts0 _ (List.mem_append_right _ (by decide +kernel)))
    | 13, hq => cases hq; exact va_Nw.of (A := #[Value.ref b]) rfl (hts0 _ (List.mem_append_right _ (by decide +kernel)))
    | 14, hq => cases hq; exact va_Nw.of (A := #[Value.ref b]) rfl (hts0 _ (List.mem_append_right _ (by decide +kernel)))
    | 15, hq => cases hq; exact va_Nw.of (A := #[Value.ref b]) rfl (hts0 _ (List.mem_append_right _ (by decide +kernel)))
    | 16, hq => cases hq; exact va_Nw.of (A := #[Value.ref b]) rfl (hts0 _ (List.mem_append_right _ (by decide +kernel)))
    | 17, hq => cases hq; exact va_Nw.of (A := #[Value.ref b]) rfl (hts0 _ (List.mem_append_right _ (by decide +kernel)))
    | k + 18, hq => simp [nl_list] at hq
  have hSt : ∃ adK adV : Nat → Nat, vk_S 7 sJ_len sJ_byt adK adV (fun q : Nat => s.heap.size ≤ q) s s.heap ∧ ∀ i : Nat, i < 7 → (Term.string "CoatsHall$Reader" (sJ_idx.getD i 0)).eval #[Value.ref b] s none [] s = some (.ref (adK i)) := by
    refine vk_Sof (args := #[Value.ref b]) (tm := fun i => Term.string "CoatsHall$Reader" (sJ_idx.getD i 0)) (by decide +kernel) ?_ ?_ ?_ ?_ ?_ ?_ hAn
    · intro i hi
      match i, hi with
      | 0, _ => exact hfl (.exactly (Term.string "CoatsHall$Reader" 50) "java/lang/String") (by decide +kernel)
      | 1, _ => exact hfl (.exactly (Term.string "CoatsHall$Reader" 59) "java/lang/String") (by decide +kernel)
      | 2, _ => exact hfl (.exactly (Term.string "CoatsHall$Reader" 64) "java/lang/String") (by decide +kernel)
      | 3, _ => exact hfl (.exactly (Term.string "CoatsHall$Reader" 73) "java/lang/String") (by decide +kernel)
      | 4, _ => exact hfl (.exactly (Term.string "CoatsHall$Reader" 89) "java/lang/String") (by decide +kernel)
      | 5, _ => exact hfl (.exactly (Term.string "CoatsHall$Reader" 100) "java/lang/String") (by decide +kernel)
      | 6, _ => exact hfl (.exactly (Term.string "CoatsHall$Reader" 102) "java/lang/String") (by decide +kernel)
      | i + 7, h => exact absurd h (by omega)
    · intro i hi
      match i, hi with
      | 0, _ => exact hfl (.eq (.field (Term.string "CoatsHall$Reader" 50) "java/lang/String" "coder" "B") (.int 0)) (by decide +kernel)
      | 1, _ => exact hfl (.eq (.field (Term.string "CoatsHall$Reader" 59) "java/lang/String" "coder" "B") (.int 0)) (by decide +kernel)
      | 2, _ => exact hfl (.eq (.field (Term.string "CoatsHall$Reader" 64) "java/lang/String" "coder" "B") (.int 0)) (by decide +kernel)
      | 3, _ => exact hfl (.eq (.field (Term.string "CoatsHall$Reader" 73) "java/lang/String" "coder" "B") (.int 0)) (by decide +kernel)
      | 4, _ => exact hfl (.eq (.field (Term.string "CoatsHall$Reader" 89) "java/lang/String" "coder" "B") (.int 0)) (by decide +kernel)
      | 5, _ => exact hfl (.eq (.field (Term.string "CoatsHall$Reader" 100) "java/lang/String" "coder" "B") (.int 0)) (by decide +kernel)
      | 6, _ => exact hfl (.eq (.field (Term.string "CoatsHall$Reader" 102) "java/lang/String" "coder" "B") (.int 0)) (by decide +kernel)
      | i + 7, h => exact absurd h (by omega)
    · intro i hi
      match i, hi with
      | 0, _ => exact hfl (.arrayOf (.field (Term.string "CoatsHall$Reader" 50) "java/lang/String" "value" "[B") .byte) (by decide +kernel)
      | 1, _ => exact hfl (.arrayOf (.field (Term.string "CoatsHall$Reader" 59) "java/lang/String" "value" "[B") .byte) (by decide +kernel)
      | 2, _ => exact hfl (.arrayOf (.field (Term.string "CoatsHall$Reader" 64) "java/lang/String" "value" "[B") .byte) (by decide +kernel)
      | 3, _ => exact hfl (.arrayOf (.field (Term.string "CoatsHall$Reader" 73) "java/lang/String" "value" "[B") .byte) (by decide +kernel)
      | 4, _ => exact hfl (.arrayOf (.field (Term.string "CoatsHall$Reader" 89) "java/lang/String" "value" "[B") .byte) (by decide +kernel)
      | 5, _ => exact hfl (.arrayOf (.field (Term.string "CoatsHall$Reader" 100) "java/lang/String" "value" "[B") .byte) (by decide +kernel)
      | 6, _ => exact hfl (.arrayOf (.field (Term.string "CoatsHall$Reader" 102) "java/lang/String" "value" "[B") .byte) (by decide +kernel)
      | i + 7, h => exact absurd h (by omega)
    · intro i hi
      match i, hi with
      | 0, _ => exact hfl (.eq (.length (.field (Term.string "CoatsHall$Reader" 50) "java/lang/String" "value" "[B")) (.int 3)) (by decide +kernel)
      | 1, _ => exact hfl (.eq (.length (.field (Term.string "CoatsHall$Reader" 59) "java/lang/String" "value" "[B")) (.int 4)) (by decide +kernel)
      | 2, _ => exact hfl (.eq (.length (.field (Term.string "CoatsHall$Reader" 64) "java/lang/String" "value" "[B")) (.int 7)) (by decide +kernel)
      | 3, _ => exact hfl (.eq (.length (.field (Term.string "CoatsHall$Reader" 73) "java/lang/String" "value" "[B")) (.int 4)) (by decide +kernel)
      | 4, _ => exact hfl (.eq (.length (.field (Term.string "CoatsHall$Reader" 89) "java/lang/String" "value" "[B")) (.int 4)) (by decide +kernel)
      | 5, _ => exact hfl (.eq (.length (.field (Term.string "CoatsHall$Reader" 100) "java/lang/String" "value" "[B")) (.int 4)) (by decide +kernel)
      | 6, _ => exact hfl (.eq (.length (.field (Term.string "CoatsHall$Reader" 102) "java/lang/String" "value" "[B")) (.int 4)) (by decide +kernel)
      | i + 7, h => exact absurd h (by omega)
    · intro i hi j hj
      match i, hi with
      | 0, _ =>
        match j, hj with
        | 0, _ => exact hfl (.eq (.elem (.field (Term.string "CoatsHall$Reader" 50) "java/lang/String" "value" "[B") (.int 0)) (.int 114)) (by decide +kernel)
        | 1, _ => exact hfl (.eq (.elem (.field (Term.string "CoatsHall$Reader" 50) "java/lang/String" "value" "[B") (.int 1)) (.int 111)) (by decide +kernel)
        | 2, _ => exact hfl (.eq (.elem (.field (Term.string "CoatsHall$Reader" 50) "java/lang/String" "value" "[B") (.int 2)) (.int 119)) (by decide +kernel)
        | j + 3, h => exact absurd h (by simp [sJ_len])
      | 1, _ =>
        match j, hj with
        | 0, _ => exact hfl (.eq (.elem (.field (Term.string "CoatsHall$Reader" 59) "java/lang/String" "value" "[B") (.int 0)) (.int 111)) (by decide +kernel)
        | 1, _ => exact hfl (.eq (.elem (.field (Term.string "CoatsHall$Reader" 59) "java/lang/String" "value" "[B") (.int 1)) (.int 100)) (by decide +kernel)
        | 2, _ => exact hfl (.eq (.elem (.field (Term.string "CoatsHall$Reader" 59) "java/lang/String" "value" "[B") (.int 2)) (.int 100)) (by decide +kernel)
        | 3, _ => exact hfl (.eq (.elem (.field (Term.string "CoatsHall$Reader" 59) "java/lang/String" "value" "[B") (.int 3)) (.int 115)) (by decide +kernel)
        | j + 4, h => exact absurd h (by simp [sJ_len])
      | 2, _ =>
        match j, hj with
        | 0, _ => exact hfl (.eq (.elem (.field (Term.string "CoatsHall$Reader" 64) "java/lang/String" "value" "[B") (.int 0)) (.int 119)) (by decide +kernel)
        | 1, _ => exact hfl (.eq (.elem (.field (Term.string "CoatsHall$Reader" 64) "java/lang/String" "value" "[B") (.int 1)) (.int 101)) (by decide +kernel)
        | 2, _ => exact hfl (.eq (.elem (.field (Term.string "CoatsHall$Reader" 64) "java/lang/String" "value" "[B") (.int 2)) (.int 105)) (by decide +kernel)
        | 3, _ => exact hfl (.eq (.elem (.field (Term.string "CoatsHall$Reader" 64) "java/lang/String" "value" "[B") (.int 3)) (.int 103)) (by decide +kernel)
        | 4, _ => exact hfl (.eq (.elem (.field (Term.string "CoatsHall$Reader" 64) "java/lang/String" "value" "[B") (.int 4)) (.int 104)) (by decide +kernel)
        | 5, _ => exact hfl (.eq (.elem (.field (Term.string "CoatsHall$Reader" 64) "java/lang/String" "value" "[B") (.int 5)) (.int 116)) (by decide +kernel)
        | 6, _ => exact hfl (.eq (.elem (.field (Term.string "CoatsHall$Reader" 64) "java/lang/String" "value" "[B") (.int 6)) (.int 115)) (by decide +kernel)
        | j + 7, h => exact absurd h (by simp [sJ_len])
      | 3, _ =>
        match j, hj with
        | 0, _ => exact hfl (.eq (.elem (.field (Term.string "CoatsHall$Reader" 73) "java/lang/String" "value" "[B") (.int 0)) (.int 103)) (by decide +kernel)
        | 1, _ => exact hfl (.eq (.elem (.field (Term.string "CoatsHall$Reader" 73) "java/lang/String" "value" "[B") (.int 1)) (.int 105)) (by decide +kernel)
        | 2, _ => exact hfl (.eq (.elem (.field (Term.string "CoatsHall$Reader" 73) "java/lang/String" "value" "[B") (.int 2)) (.int 118)) (by decide +kernel)
        | 3, _ => exact hfl (.eq (.elem (.field (Term.string "CoatsHall$Reader" 73) "java/lang/String" "value" "[B") (.int 3)) (.int 101)) (by decide +kernel)
        | j + 4, h => exact absurd h (by simp [sJ_len])
      | 4, _ =>
        match j, hj with
        | 0, _ => exact hfl (.eq (.elem (.field (Term.string "CoatsHall$Reader" 89) "java/lang/String" "value" "[B") (.int 0)) (.int 108)) (by decide +kernel)
        | 1, _ => exact hfl (.eq (.elem (.field (Term.string "CoatsHall$Reader" 89) "java/lang/String" "value" "[B") (.int 1)) (.int 101)) (by decide +kernel)
        | 2, _ => exact hfl (.eq (.elem (.field (Term.string "CoatsHall$Reader" 89) "java/lang/String" "value" "[B") (.int 2)) (.int 115)) (by decide +kernel)
        | 3, _ => exact hfl (.eq (.elem (.field (Term.string "CoatsHall$Reader" 89) "java/lang/String" "value" "[B") (.int 3)) (.int 115)) (by decide +kernel)
        | j + 4, h => exact absurd h (by simp [sJ_len])
      | 5, _ =>
        match j, hj with
        | 0, _ => exact hfl (.eq (.elem (.field (Term.string "CoatsHall$Reader" 100) "java/lang/String" "value" "[B") (.int 0)) (.int 107)) (by decide +kernel)
        | 1, _ => exact hfl (.eq (.elem (.field (Term.string "CoatsHall$Reader" 100) "java/lang/String" "value" "[B") (.int 1)) (.int 105)) (by decide +kernel)
        | 2, _ => exact hfl (.eq (.elem (.field (Term.string "CoatsHall$Reader" 100) "java/lang/String" "value" "[B") (.int 2)) (.int 110)) (by decide +kernel)
        | 3, _ => exact hfl (.eq (.elem (.field (Term.string "CoatsHall$Reader" 100) "java/lang/String" "value" "[B") (.int 3)) (.int 100)) (by decide +kernel)
        | j + 4, h => exact absurd h (by simp [sJ_len])
      | 6, _ =>
        match j, hj with
        | 0, _ => exact hfl (.eq (.elem (.field (Term.string "CoatsHall$Reader" 102) "java/lang/String" "value" "[B") (.int 0)) (.int 119)) (by decide +kernel)
        | 1, _ => exact hfl (.eq (.elem (.field (Term.string "CoatsHall$Reader" 102) "java/lang/String" "value" "[B") (.int 1)) (.int 97)) (by decide +kernel)
        | 2, _ => exact hfl (.eq (.elem (.field (Term.string "CoatsHall$Reader" 102) "java/lang/String" "value" "[B") (.int 2)) (.int 108)) (by decide +kernel)
        | 3, _ => exact hfl (.eq (.elem (.field (Term.string "CoatsHall$Reader" 102) "java/lang/String" "value" "[B") (.int 3)) (.int 107)) (by decide +kernel)
        | j + 4, h => exact absurd h (by simp [sJ_len])
      | i + 7, h => exact absurd h (by omega)
    · intro i j hi hj hij
      match i, j, hi, hj, hij with
      | 0, 0, _, _, h => exact absurd rfl h
      | 0, 1, _, _, _ => exact Or.inl (hfl (.not (.eq (Term.string "CoatsHall$Reader" 50) (Term.string "CoatsHall$Reader" 59))) (by decide +kernel))
      | 0, 2, _, _, _ => exact Or.inl (hfl (.not (.eq (Term.string "CoatsHall$Reader" 50) (Term.string "CoatsHall$Reader" 64))) (by decide +kernel))
      | 0, 3, _, _, _ => exact Or.inl (hfl (.not (.eq (Term.string "CoatsHall$Reader" 50) (Term.string "CoatsHall$Reader" 73))) (by decide +kernel))
      | 0, 4, _, _, _ => exact Or.inl (hfl (.not (.eq (Term.string "CoatsHall$Reader" 50) (Term.string "CoatsHall$Reader" 89))) (by decide +kernel))
      | 0, 5, _, _, _ => exact Or.inl (hfl (.not (.eq (Term.string "CoatsHall$Reader" 50) (Term.string "CoatsHall$Reader" 100))) (by decide +kernel))
      | 0, 6, _, _, _ => exact Or.inl (hfl (.not (.eq (Term.string "CoatsHall$Reader" 50) (Term.string "CoatsHall$Reader" 102))) (by decide +kernel))
      | 0, j + 7, _, h, _ => exact absurd h (by omega)
      | 1, 0, _, _, _ => exact Or.inr (hfl (.not (.eq (Term.string "CoatsHall$Reader" 50) (Term.string "CoatsHall$Reader" 59))) (by decide +kernel))
      | 1, 1, _, _, h => exact absurd rfl h
      | 1, 2, _, _, _ => exact Or.inl (hfl (.not (.eq (Term.string "CoatsHall$Reader" 59) (Term.string "CoatsHall$Reader" 64))) (by decide +kernel))
      | 1, 3, _, _, _ => exact Or.inl (hfl (.not (.eq (Term.string "CoatsHall$Reader" 59) (Term.string "CoatsHall$Reader" 73))) (by decide +kernel))
      | 1, 4, _, _, _ => exact Or.inl (hfl (.not (.eq (Term.string "CoatsHall$Reader" 59) (Term.string "CoatsHall$Reader" 89))) (by decide +kernel))
      | 1, 5, _, _, _ => exact Or.inr (hfl (.not (.eq (Term.string "CoatsHall$Reader" 100) (Term.string "CoatsHall$Reader" 59))) (by decide +kernel))
      | 1, 6, _, _, _ => exact Or.inr (hfl (.not (.eq (Term.string "CoatsHall$Reader" 102) (Term.string "CoatsHall$Reader" 59))) (by decide +kernel))
      | 1, j + 7, _, h, _ => exact absurd h (by omega)
      | 2, 0, _, _, _ => exact Or.inr (hfl (.not (.eq (Term.string "CoatsHall$Reader" 50) (Term.string "CoatsHall$Reader" 64))) (by decide +kernel))
      | 2, 1, _, _, _ => exact Or.inr (hfl (.not (.eq (Term.string "CoatsHall$Reader" 59) (Term.string "CoatsHall$Reader" 64))) (by decide +kernel))
      | 2, 2, _, _, h => exact absurd rfl h
      | 2, 3, _, _, _ => exact Or.inl (hfl (.not (.eq (Term.string "CoatsHall$Reader" 64) (Term.string "CoatsHall$Reader" 73))) (by decide +kernel))
      | 2, 4, _, _, _ => exact Or.inl (hfl (.not (.eq (Term.string "CoatsHall$Reader" 64) (Term.string "CoatsHall$Reader" 89))) (by decide +kernel))
      | 2, 5, _, _, _ => exact Or.inr (hfl (.not (.eq (Term.string "CoatsHall$Reader" 100) (Term.string "CoatsHall$Reader" 64))) (by decide +kernel))
      | 2, 6, _, _, _ => exact Or.inr (hfl (.not (.eq (Term.string "CoatsHall$Reader" 102) (Term.string "CoatsHall$Reader" 64))) (by decide +kernel))
      | 2, j + 7, _, h, _ => exact absurd h (by omega)
      | 3, 0, _, _, _ => exact Or.inr (hfl (.not (.eq (Term.string "CoatsHall$Reader" 50) (Term.string "CoatsHall$Reader" 73))) (by decide +kernel))
      | 3, 1, _, _, _ => exact Or.inr (hfl (.not (.eq (Term.string "CoatsHall$Reader" 59) (Term.string "CoatsHall$Reader" 73))) (by decide +kernel))
      | 3, 2, _, _, _ => exact Or.inr (hfl (.not (.eq (Term.string "CoatsHall$Reader" 64) (Term.string "CoatsHall$Reader" 73))) (by decide +kernel))
      | 3, 3, _, _, h => exact absurd rfl h
      | 3, 4, _, _, _ => exact Or.inl (hfl (.not (.eq (Term.string "CoatsHall$Reader" 73) (Term.string "CoatsHall$Reader" 89))) (by decide +kernel))
      | 3, 5, _, _, _ => exact Or.inr (hfl (.not (.eq (Term.string "CoatsHall$Reader" 100) (Term.string "CoatsHall$Reader" 73))) (by decide +kernel))
      | 3, 6, _, _, _ => exact Or.inr (hfl (.not (.eq (Term.string "CoatsHall$Reader" 102) (Term.string "CoatsHall$Reader" 73))) (by decide +kernel))
      | 3, j + 7, _, h, _ => exact absurd h (by omega)
      | 4, 0, _, _, _ => exact Or.inr (hfl (.not (.eq (Term.string "CoatsHall$Reader" 50) (Term.string "CoatsHall$Reader" 89))) (by decide +kernel))
      | 4, 1, _, _, _ => exact Or.inr (hfl (.not (.eq (Term.string "CoatsHall$Reader" 59) (Term.string "CoatsHall$Reader" 89))) (by decide +kernel))
      | 4, 2, _, _, _ => exact Or.inr (hfl (.not (.eq (Term.string "CoatsHall$Reader" 64) (Term.string "CoatsHall$Reader" 89))) (by decide +kernel))
      | 4, 3, _, _, _ => exact Or.inr (hfl (.not (.eq (Term.string "CoatsHall$Reader" 73) (Term.string "CoatsHall$Reader" 89))) (by decide +kernel))
      | 4, 4, _, _, h => exact absurd rfl h
      | 4, 5, _, _, _ => exact Or.inr (hfl (.not (.eq (Term.string "CoatsHall$Reader" 100) (Term.string "CoatsHall$Reader" 89))) (by decide +kernel))
      | 4, 6, _, _, _ => exact Or.inr (hfl (.not (.eq (Term.string "CoatsHall$Reader" 102) (Term.string "CoatsHall$Reader" 89))) (by decide +kernel))
      | 4, j + 7, _, h, _ => exact absurd h (by omega)
      | 5, 0, _, _, _ => exact Or.inr (hfl (.not (.eq (Term.string "CoatsHall$Reader" 50) (Term.string "CoatsHall$Reader" 100))) (by decide +kernel))
      | 5, 1, _, _, _ => exact Or.inl (hfl (.not (.eq (Term.string "CoatsHall$Reader" 100) (Term.string "CoatsHall$Reader" 59))) (by decide +kernel))
      | 5, 2, _, _, _ => exact Or.inl (hfl (.not (.eq (Term.string "CoatsHall$Reader" 100) (Term.string "CoatsHall$Reader" 64))) (by decide +kernel))
      | 5, 3, _, _, _ => exact Or.inl (hfl (.not (.eq (Term.string "CoatsHall$Reader" 100) (Term.string "CoatsHall$Reader" 73))) (by decide +kernel))
      | 5, 4, _, _, _ => exact Or.inl (hfl (.not (.eq (Term.string "CoatsHall$Reader" 100) (Term.string "CoatsHall$Reader" 89))) (by decide +kernel))
      | 5, 5, _, _, h => exact absurd rfl h
      | 5, 6, _, _, _ => exact Or.inl (hfl (.not (.eq (Term.string "CoatsHall$Reader" 100) (Term.string "CoatsHall$Reader" 102))) (by decide +kernel))
      | 5, j + 7, _, h, _ => exact absurd h (by omega)
      | 6, 0, _, _, _ => exact Or.inr (hfl (.not (.eq (Term.string "CoatsHall$Reader" 50) (Term.string "CoatsHall$Reader" 102))) (by decide +kernel))
      | 6, 1, _, _, _ => exact Or.inl (hfl (.not (.eq (Term.string "CoatsHall$Reader" 102) (Term.string "CoatsHall$Reader" 59))) (by decide +kernel))
      | 6, 2, _, _, _ => exact Or.inl (hfl (.not (.eq (Term.string "CoatsHall$Reader" 102) (Term.string "CoatsHall$Reader" 64))) (by decide +kernel))
      | 6, 3, _, _, _ => exact Or.inl (hfl (.not (.eq (Term.string "CoatsHall$Reader" 102) (Term.string "CoatsHall$Reader" 73))) (by decide +kernel))
      | 6, 4, _, _, _ => exact Or.inl (hfl (.not (.eq (Term.string "CoatsHall$Reader" 102) (Term.string "CoatsHall$Reader" 89))) (by decide +kernel))
      | 6, 5, _, _, _ => exact Or.inr (hfl (.not (.eq (Term.string "CoatsHall$Reader" 100) (Term.string "CoatsHall$Reader" 102))) (by decide +kernel))
      | 6, 6, _, _, h => exact absurd rfl h
      | 6, j + 7, _, h, _ => exact absurd h (by omega)
      | i + 7, _, h, _, _ => exact absurd h (by omega)
  obtain ⟨adK, adV, hvS, hvE⟩ := hSt
  have hvR : ∀ i : Nat, i < 7 → vk_R RX8 (sJ_idx.getD i 0) (sJ_tx.getD i "") (adK i) s := by
    intro i hi
    match i, hi with
    | 0, _ => exact vk_R.of2 (hts0 (.stringRef RX8 50 "row") (by decide +kernel)) (hvE 0 (by decide))
    | 1, _ => exact vk_R.of2 (hts0 (.stringRef RX8 59 "odds") (by decide +kernel)) (hvE 1 (by decide))
    | 2, _ => exact vk_R.of2 (hts0 (.stringRef RX8 64 "weights") (by decide +kernel)) (hvE 2 (by decide))
    | 3, _ => exact vk_R.of2 (hts0 (.stringRef RX8 73 "give") (by decide +kernel)) (hvE 3 (by decide))
    | 4, _ => exact vk_R.of2 (hts0 (.stringRef RX8 89 "less") (by decide +kernel)) (hvE 4 (by decide))
    | 5, _ => exact vk_R.of2 (hts0 (.stringRef RX8 100 "kind") (by decide +kernel)) (hvE 5 (by decide))
    | 6, _ => exact vk_R.of2 (hts0 (.stringRef RX8 102 "walk") (by decide +kernel)) (hvE 6 (by decide))
    | i + 7, h => exact absurd h (by omega)
  have hT : strW adK adV (fun q : Nat => s.heap.size ≤ q) s s.heap := ⟨hvS, hvR, va_Zof (args := #[Value.ref b]) (hts0 (.laysStatic RJ0 "COMPACT_STRINGS" "Z") (by decide +kernel)) (hts0 (.initialized RJ0) (by decide +kernel)) (va_eqi (hfl (.eq (.static RJ0 "COMPACT_STRINGS" "Z") (.int 1)) (by decide +kernel))) hAn, va_Zqof (args := #[Value.ref b]) (hts0 (.laysStatic "jdk/internal/util/Preconditions" "SIOOBE_FORMATTER" "Ljava/util/function/BiFunction;") (by decide +kernel)) (hts0 (.initialized "jdk/internal/util/Preconditions") (by decide +kernel)) (hfl (.isRef (.static "jdk/internal/util/Preconditions" "SIOOBE_FORMATTER" "Ljava/util/function/BiFunction;")) (by decide +kernel)) hAn⟩
  have hS : va_S (fun q : Nat => s.heap.size ≤ q) s.heap s.heap [] := va_S.rf
  have hP : va_P (dC, dI) vwCl [] s.heap := fun k q h => by simp at h
  have hD : va_D (fun q : Nat => s.heap.size ≤ q) [] := ⟨fun i j p q h => by simp at h, fun k q h => by simp at h⟩
  have hl := lv_entry ([.ref b]) (n := 4) (Nat.le_of_ble_eq_true rfl)
  rw [lg_entry_eq]
  generalize (lg_sl ([.ref b]) ++ List.replicate (4 - (lg_sl ([.ref b])).length) Slot.unset).toArray = ls at hl ⊢
  have hl : lv_has ls 4 [(0, .ref b)] := hl
  have hw := hI0
  refine va_new (ci := 10) (fs := [.null, .null, .null, .null, .null, .null, .null, .null, .int (0 : Int32), .int (0 : Int32)]) (C := RX10) (T := TX10) (N := 10) hx hb hts inlX10 tyX10 tyX10_ok hown (hts (.classLink RL 7 RX10) (by decide +kernel)) (hts (.instantiable RX10 10) (by decide +kernel)) (hts (.initialized RX10) (by decide +kernel)) hK hP hD hS hA rfl (fun j hj => match j, hj with | 0, _ => rfl | 1, _ => rfl | 2, _ => rfl | 3, _ => rfl | 4, _ => rfl | 5, _ => rfl | 6, _ => rfl | 7, _ => rfl | 8, _ => rfl | 9, _ => rfl | z + 10, h => absurd h (by omega)) (Nat.le_of_ble_eq_true rfl) (Nat.le_of_ble_eq_true rfl) (nq_d dL_law_0_g (n := 0) rfl) (fun ak H hP hD hS => ?_)
  have hP : va_P (dC, dI) vwCl [(ak, .inr (10, [.null, .null, .null, .null, .null, .null, .null, .null, .int (0 : Int32), .int (0 : Int32)]))] H := hP
  have hD : va_D (fun q : Nat => s.heap.size ≤ q) [(ak, .inr (10, [.null, .null, .null, .null, .null, .null, .null, .null, .int (0 : Int32), .int (0 : Int32)]))] := hD
  refine lv_dup hx hb (nq_d dL_law_0_g (n := 1) rfl) rfl ?_
  refine gx_rb (wr := []) (va_runI (As := []) (rest := [.ref ak]) ⟨hx, hb, hml, hown, hts⟩ (ct_H_init l dC dI cyB cyI cyJ cyZ ak _ _) (cwI 0 hts gL_law_X10_init rfl rfl rfl (hts (.initialized RX10) (by decide +kernel)) (hts (.methodLink RL 9 yX10_init) (by decide +kernel)) (hts (.instanceMethod yX10_init) (by decide +kernel)) rfl cd_X10_init.2 ⟨Nat.le_of_ble_eq_true rfl, Nat.le_of_ble_eq_true rfl⟩) (gx_preS hK hP hD hNw [0] rfl (by decide) hw) rfl rfl hl.1 rfl (lv_room (Nat.le_of_ble_eq_true rfl)) (nq_d dL_law_0_g (n := 2) rfl) ⟨Nat.le_of_ble_eq_true rfl, Nat.le_of_ble_eq_true rfl⟩) hP hD hS hA [0] [] rfl rfl (by decide +kernel) (by decide +kernel) (fun t H locs hB hj hS => ?_)
  refine Exists.elim hB ?_
  clear hB
  intro aw hB
  refine Exists.elim hB ?_
  clear hB
  intro ag hB
  refine Exists.elim hB ?_
  clear hB
  intro ag_sort hB
  refine Exists.elim hB ?_
  clear hB
  intro ag_kind hB
  refine Exists.elim hB ?_
  clear hB
  intro ag_tip hB
  refine Exists.elim hB ?_
  clear hB
  intro ag_marks hB
  refine Exists.elim hB ?_
  clear hB
  intro ag_brass hB
  refine Exists.elim hB ?_
  clear hB
  intro ag_peg hB
  refine Exists.elim hB ?_
  clear hB
  intro ag_has hB
  refine Exists.elim hB ?_
  clear hB
  intro ae hB
  refine Exists.elim hB ?_
  clear hB
  intro ae_facts hB
  refine Exists.elim hB ?_
  clear hB
  intro ac hB
  refine Exists.elim hB ?_
  clear hB
  intro ac_guest hB
  refine Exists.elim hB ?_
  clear hB
  intro ac_yes hB
  refine Exists.elim hB ?_
  clear hB
  intro ac_no hB
  refine Exists.elim hB ?_
  clear hB
  intro an hB
  refine Exists.elim hB ?_
  clear hB
  intro an_left hB
  refine Exists.elim hB ?_
  clear hB
  intro az hB
  refine Exists.elim hB ?_
  clear hB
  intro azg hB
  refine Exists.elim hB ?_
  clear hB
  intro azg_sort hB
  refine Exists.elim hB ?_
  clear hB
  intro azg_kind hB
  refine Exists.elim hB ?_
  clear hB
  intro azg_tip hB
  refine Exists.elim hB ?_
  clear hB
  intro azg_marks hB
  refine Exists.elim hB ?_
  clear hB
  intro azg_brass hB
  refine Exists.elim hB ?_
  clear hB
  intro azg_peg hB
  refine Exists.elim hB ?_
  clear hB
  intro azg_has hB
  refine Exists.elim hB ?_
  clear hB
  intro aze hB
  refine Exists.elim hB ?_
  clear hB
  intro aze_facts hB
  refine Exists.elim hB ?_
  clear hB
  intro azc hB
  refine Exists.elim hB ?_
  clear hB
  intro azc_guest hB
  refine Exists.elim hB ?_
  clear hB
  intro azc_yes hB
  refine Exists.elim hB ?_
  clear hB
  intro azc_no hB
  refine Exists.elim hB ?_
  clear hB
  intro azn hB
  refine Exists.elim hB ?_
  clear hB
  intro azn_left hB
  refine Exists.elim hB ?_
  clear hB
  intro ao hB
  refine Exists.elim hB ?_
  clear hB
  intro aog hB
  refine Exists.elim hB ?_
  clear hB
  intro aog_sort hB
  refine Exists.elim hB ?_
  clear hB
  intro aog_kind hB
  refine Exists.elim hB ?_
  clear hB
  intro aog_tip hB
  refine Exists.elim hB ?_
  clear hB
  intro aog_marks hB
  refine Exists.elim hB ?_
  clear hB
  intro aog_brass hB
  refine Exists.elim hB ?_
  clear hB
  intro aog_peg hB
  refine Exists.elim hB ?_
  clear hB
  intro aog_has hB
  refine Exists.elim hB ?_
  clear hB
  intro aoe hB
  refine Exists.elim hB ?_
  clear hB
  intro aoe_facts hB
  refine Exists.elim hB ?_
  clear hB
  intro aoc hB
  refine Exists.elim hB ?_
  clear hB
  intro aoc_guest hB
  refine Exists.elim hB ?_
  clear hB
  intro aoc_yes hB
  refine Exists.elim hB ?_
  clear hB
  intro aoc_no hB
  refine Exists.elim hB ?_
  clear hB
  intro aon hB
  refine Exists.elim hB ?_
  clear hB
  intro aon_left hB
  refine Exists.elim hB ?_
  clear hB
  intro ah hB
  refine Exists.elim hB ?_
  clear hB
  intro ah_kind hB
  refine Exists.elim hB ?_
  clear hB
  intro ah_walk hB
  refine Exists.elim hB ?_
  clear hB
  intro ah_share hB
  refine Exists.elim hB ?_
  clear hB
  intro ah_weight hB
  refine Exists.elim hB ?_
  clear hB
  intro ar hB
  refine Exists.elim hB ?_
  clear hB
  intro ar_text hB
  refine Exists.elim hB ?_
  clear hB
  intro ad hB
  refine Exists.elim hB ?_
  clear hB
  intro ad_kind hB
  refine Exists.elim hB ?_
  clear hB
  intro ad_walk hB
  refine Exists.elim hB ?_
  clear hB
  intro ad_share hB
  refine Exists.elim hB ?_
  clear hB
  intro ad_weight hB
  refine Exists.elim hB ?_
  clear hB
  intro ap hB
  refine Exists.elim hB ?_
  clear hB
  intro ap_expected hB
  refine Exists.elim hB ?_
  clear hB
  intro ap_pegFor hB
  refine Exists.elim hB ?_
  clear hB
  intro ap_taken hB
  refine Exists.elim hB ?_
  clear hB
  intro au hB
  refine Exists.elim hB ?_
  clear hB
  intro au_ticks hB
  refine Exists.elim hB ?_
  clear hB
  intro au_tip hB
  refine Exists.elim hB ?_
  clear hB
  intro au_row hB
  refine Exists.elim hB ?_
  clear hB
  intro au_freeAt hB
  refine Exists.elim hB ?_
  clear hB
  intro au_waits hB
  refine Exists.elim hB ?_
  clear hB
  intro au_greatest hB
  refine Exists.elim hB ?_
  clear hB
  intro au_tips hB
  refine Exists.elim hB ?_
  clear hB
  intro au_best hB
  refine Exists.elim hB ?_
  clear hB
  intro aq hB
  refine Exists.elim hB ?_
  clear hB
  intro aq_fitting hB
  refine Exists.elim hB ?_
  clear hB
  intro aq_waysOf hB
  refine Exists.elim hB ?_
  clear hB
  intro k_nightPlay hB
  refine Exists.elim hB ?_
  clear hB
  intro k_nightWeather hB
  refine Exists.elim hB ?_
  clear hB
  intro w_kept hB
  refine Exists.elim hB ?_
  clear hB
  intro g_number hB
  refine Exists.elim hB ?_
  clear hB
  intro e_number hB
  refine Exists.elim hB ?_
  clear hB
  intro c_number hB
  refine Exists.elim hB ?_
  clear hB
  intro n_number hB
  refine Exists.elim hB ?_
  clear hB
  intro z_kept hB
  refine Exists.elim hB ?_
  clear hB
  intro zg_number hB
  refine Exists.elim hB ?_
  clear hB
  intro ze_number hB
  refine Exists.elim hB ?_
  clear hB
  intro zc_number hB
  refine Exists.elim hB ?_
  clear hB
  intro zn_number hB
  refine Exists.elim hB ?_
  clear hB
  intro o_kept hB
  refine Exists.elim hB ?_
  clear hB
  intro og_number hB
  refine Exists.elim hB ?_
  clear hB
  intro oe_number hB
  refine Exists.elim hB ?_
  clear hB
  intro oc_number hB
  refine Exists.elim hB ?_
  clear hB
  intro on_number hB
  refine Exists.elim hB ?_
  clear hB
  intro h_pegs hB
  refine Exists.elim hB ?_
  clear hB
  intro h_ticks hB
  refine Exists.elim hB ?_
  clear hB
  intro h_loss hB
  refine Exists.elim hB ?_
  clear hB
  intro r_length hB
  refine Exists.elim hB ?_
  clear hB
  intro r_place hB
  refine Exists.elim hB ?_
  clear hB
  intro r_failure hB
  refine Exists.elim hB ?_
  clear hB
  intro r_at hB
  refine Exists.elim hB ?_
  clear hB
  intro r_firstFigure hB
  refine Exists.elim hB ?_
  clear hB
  intro r_toldBefore hB
  refine Exists.elim hB ?_
  clear hB
  intro d_pegs hB
  refine Exists.elim hB ?_
  clear hB
  intro d_ticks hB
  refine Exists.elim hB ?_
  clear hB
  intro d_loss hB
  refine Exists.elim hB ?_
  clear hB
  intro p_sum hB
  refine Exists.elim hB ?_
  clear hB
  intro u_size hB
  refine Exists.elim hB ?_
  clear hB
  intro u_loss hB
  refine Exists.elim hB ?_
  clear hB
  intro u_bestTips hB
  refine Exists.elim hB ?_
  clear hB
  intro u_bestWaits hB
  refine Exists.elim hB ?_
  clear hB
  intro q_claims hB
  refine Exists.elim hB ?_
  clear hB
  intro g_sort hB
  refine Exists.elim hB ?_
  clear hB
  intro g_kind hB
  refine Exists.elim hB ?_
  clear hB
  intro g_tip hB
  refine Exists.elim hB ?_
  clear hB
  intro g_marks hB
  refine Exists.elim hB ?_
  clear hB
  intro g_brass hB
  refine Exists.elim hB ?_
  clear hB
  intro g_peg hB
  refine Exists.elim hB ?_
  clear hB
  intro g_has hB
  refine Exists.elim hB ?_
  clear hB
  intro e_facts hB
  refine Exists.elim hB ?_
  clear hB
  intro c_guest hB
  refine Exists.elim hB ?_
  clear hB
  intro c_yes hB
  refine Exists.elim hB ?_
  clear hB
  intro c_no hB
  refine Exists.elim hB ?_
  clear hB
  intro n_left hB
  refine Exists.elim hB ?_
  clear hB
  intro zg_sort hB
  refine Exists.elim hB ?_
  clear hB
  intro zg_kind hB
  refine Exists.elim hB ?_
  clear hB
  intro zg_tip hB
  refine Exists.elim hB ?_
  clear hB
  intro zg_marks hB
  refine Exists.elim hB ?_
  clear hB
  intro zg_brass hB
  refine Exists.elim hB ?_
  clear hB
  intro zg_peg hB
  refine Exists.elim hB ?_
  clear hB
  intro zg_has hB
  refine Exists.elim hB ?_
  clear hB
  intro ze_facts hB
  refine Exists.elim hB ?_
  clear hB
  intro zc_guest hB
  refine Exists.elim hB ?_
  clear hB
  intro zc_yes hB
  refine Exists.elim hB ?_
  clear hB
  intro zc_no hB
  refine Exists.elim hB ?_
  clear hB
  intro zn_left hB
  refine Exists.elim hB ?_
  clear hB
  intro og_sort hB
  refine Exists.elim hB ?_
  clear hB
  intro og_kind hB
  refine Exists.elim hB ?_
  clear hB
  intro og_tip hB
  refine Exists.elim hB ?_
  clear hB
  intro og_marks hB
  refine Exists.elim hB ?_
  clear hB
  intro og_brass hB
  refine Exists.elim hB ?_
  clear hB
  intro og_peg hB
  refine Exists.elim hB ?_
  clear hB
  intro og_has hB
  refine Exists.elim hB ?_
  clear hB
  intro oe_facts hB
  refine Exists.elim hB ?_
  clear hB
  intro oc_guest hB
  refine Exists.elim hB ?_
  clear hB
  intro oc_yes hB
  refine Exists.elim hB ?_
  clear hB
  intro oc_no hB
  refine Exists.elim hB ?_
  clear hB
  intro on_left hB
  refine Exists.elim hB ?_
  clear hB
  intro h_kind hB
  refine Exists.elim hB ?_
  clear hB
  intro h_walk hB
  refine Exists.elim hB ?_
  clear hB
  intro h_share hB
  refine Exists.elim hB ?_
  clear hB
  intro h_weight hB
  refine Exists.elim hB ?_
  clear hB
  intro r_text hB
  refine Exists.elim hB ?_
  clear hB
  intro d_kind hB
  refine Exists.elim hB ?_
  clear hB
  intro d_walk hB
  refine Exists.elim hB ?_
  clear hB
  intro d_share hB
  refine Exists.elim hB ?_
  clear hB
  intro d_weight hB
  refine Exists.elim hB ?_
  clear hB
  intro p_expected hB
  refine Exists.elim hB ?_
  clear hB
  intro p_pegFor hB
  refine Exists.elim hB ?_
  clear hB
  intro p_taken hB
  refine Exists.elim hB ?_
  clear hB
  intro u_ticks hB
  refine Exists.elim hB ?_
  clear hB
  intro u_tip hB
  refine Exists.elim hB ?_
  clear hB
  intro u_row hB
  refine Exists.elim hB ?_
  clear hB
  intro u_freeAt hB
  refine Exists.elim hB ?_
  clear hB
  intro u_waits hB
  refine Exists.elim hB ?_
  clear hB
  intro u_greatest hB
  refine Exists.elim hB ?_
  clear hB
  intro u_tips hB
  refine Exists.elim hB ?_
  clear hB
  intro u_best hB
  refine Exists.elim hB ?_
  clear hB
  intro q_fitting hB
  refine Exists.elim hB ?_
  clear hB
  intro q_waysOf hB
  obtain ⟨hP1, hD1, hw⟩ := hB
  obtain ⟨hP, hD⟩ := hj _ hP1 hD1
  have hP : va_P (dC, dI) vwCl [(ak, .inr (10, [.ref ah, .ref ar, .ref aw, .ref az, .ref ao, .ref ap, .ref au, .ref aq, .int k_nightPlay, .int k_nightWeather])), (aw, .inr (4, [.ref ag, .ref ae, .ref ac, .ref an, .int w_kept])), (ag, .inr (2, [.int g_number, .ref ag_sort, .ref ag_kind, .ref ag_tip, .ref ag_marks, .ref ag_brass, .ref ag_peg, .ref ag_has])), (ag_sort, .inl (cyI, 16, .inl g_sort)), (ag_kind, .inl (cyI, 16, .inl g_kind)), (ag_tip, .inl (cyI, 16, .inl g_tip)), (ag_marks, .inl (cyI, 16, .inl g_marks)), (ag_brass, .inl (cyI, 16, .inl g_brass)), (ag_peg, .inl (cyI, 16, .inl g_peg)), (ag_has, .inl (cyI, 16, .inl g_has)), (ae, .inr (1, [.int e_number, .ref ae_facts])), (ae_facts, .inl (cyI, 420, .inl e_facts)), (ac, .inr (0, [.int c_number, .ref ac_guest, .ref ac_yes, .ref ac_no])), (ac_guest, .inl (cyI, 6, .inl c_guest)), (ac_yes, .inl (cyI, 6, .inl c_yes)), (ac_no, .inl (cyI, 6, .inl c_no)), (an, .inr (6, [.int n_number, .ref an_left])), (an_left, .inl (cyI, 24, .inl n_left)), (az, .inr (4, [.ref azg, .ref aze, .ref azc, .ref azn, .int z_kept])), (azg, .inr (2, [.int zg_number, .ref azg_sort, .ref azg_kind, .ref azg_tip, .ref azg_marks, .ref azg_brass, .ref azg_peg, .ref azg_has])), (azg_sort, .inl (cyI, 16, .inl zg_sort)), (azg_kind, .inl (cyI, 16, .inl zg_kind)), (azg_tip, .inl (cyI, 16, .inl zg_tip)), (azg_marks, .inl (cyI, 16, .inl zg_marks)), (azg_brass, .inl (cyI, 16, .inl zg_brass)), (azg_peg, .inl (cyI, 16, .inl zg_peg)), (azg_has, .inl (cyI, 16, .inl zg_has)), (aze, .inr (1, [.int ze_number, .ref aze_facts])), (aze_facts, .inl (cyI, 420, .inl ze_facts)), (azc, .inr (0, [.int zc_number, .ref azc_guest, .ref azc_yes, .ref azc_no])), (azc_guest, .inl (cyI, 6, .inl zc_guest)), (azc_yes, .inl (cyI, 6, .inl zc_yes)), (azc_no, .inl (cyI, 6, .inl zc_no)), (azn, .inr (6, [.int zn_number, .ref azn_left])), (azn_left, .inl (cyI, 24, .inl zn_left)), (ao, .inr (4, [.ref aog, .ref aoe, .ref aoc, .ref aon, .int o_kept])), (aog, .inr (2, [.int og_number, .ref aog_sort, .ref aog_kind, .ref aog_tip, .ref aog_marks, .ref aog_brass, .ref aog_peg, .ref aog_has])), (aog_sort, .inl (cyI, 16, .inl og_sort)), (aog_kind, .inl (cyI, 16, .inl og_kind)), (aog_tip, .inl (cyI, 16, .inl og_tip)), (aog_marks, .inl (cyI, 16, .inl og_marks)), (aog_brass, .inl (cyI, 16, .inl og_brass)), (aog_peg, .inl (cyI, 16, .inl og_peg)), (aog_has, .inl (cyI, 16, .inl og_has)), (aoe, .inr (1, [.int oe_number, .ref aoe_facts])), (aoe_facts, .inl (cyI, 420, .inl oe_facts)), (aoc, .inr (0, [.int oc_number, .ref aoc_guest, .ref aoc_yes, .ref aoc_no])), (aoc_guest, .inl (cyI, 6, .inl oc_guest)), (aoc_yes, .inl (cyI, 6, .inl oc_yes)), (aoc_no, .inl (cyI, 6, .inl oc_no)), (aon, .inr (6, [.int on_number, .ref aon_left])), (aon_left, .inl (cyI, 24, .inl on_left)), (ah, .inr (3, [.ref ah_kind, .ref ah_walk, .ref ah_share, .ref ah_weight, .int h_pegs, .int h_ticks, .int h_loss])), (ah_kind, .inl (cyI, 24, .inl h_kind)), (ah_walk, .inl (cyI, 24, .inl h_walk)), (ah_share, .inl (cyI, 12, .inl h_share)), (ah_weight, .inl (cyI, 3, .inl h_weight)), (ar, .inr (8, [.ref ar_text, .int r_length, .int r_place, .int r_failure, .int r_at, .int r_firstFigure, .int r_toldBefore, .ref ad])), (ar_text, .inl (cyB, 240, .inl r_text)), (ad, .inr (3, [.ref ad_kind, .ref ad_walk, .ref ad_share, .ref ad_weight, .int d_pegs, .int d_ticks, .int d_loss])), (ad_kind, .inl (cyI, 24, .inl d_kind)), (ad_walk, .inl (cyI, 24, .inl d_walk)), (ad_share, .inl (cyI, 12, .inl d_share)), (ad_weight, .inl (cyI, 3, .inl d_weight)), (ap, .inr (7, [.ref ap_expected, .ref ap_pegFor, .ref ap_taken, .int p_sum])), (ap_expected, .inl (cyI, 16, .inl p_expected)), (ap_pegFor, .inl (cyI, 16, .inl p_pegFor)), (ap_taken, .inl (cyZ, 24, .inl p_taken)), (au, .inr (9, [.ref au_ticks, .ref au_tip, .ref au_row, .ref au_freeAt, .ref au_waits, .ref au_greatest, .ref au_tips, .ref au_best, .int u_size, .int u_loss, .int u_bestTips, .int u_bestWaits])), (au_ticks, .inl (cyI, 16, .inl u_ticks)), (au_tip, .inl (cyI, 16, .inl u_tip)), (au_row, .inl (cyI, 16, .inl u_row)), (au_freeAt, .inl (cyI, 68, .inl u_freeAt)), (au_waits, .inl (cyI, 17, .inl u_waits)), (au_greatest, .inl (cyI, 17, .inl u_greatest)), (au_tips, .inl (cyI, 17, .inl u_tips)), (au_best, .inl (cyI, 7, .inl u_best)), (aq, .inr (5, [.ref aq_fitting, .ref aq_waysOf, .int q_claims])), (aq_fitting, .inl (cyI, 6, .inl q_fitting)), (aq_waysOf, .inl (cyJ, 64, .inr (.inl q_waysOf)))] H := hP
  have hD : va_D (fun q : Nat => s.heap.size ≤ q) [(ak, .inr (10, [.ref ah, .ref ar, .ref aw, .ref az, .ref ao, .ref ap, .ref au, .ref aq, .int k_nightPlay, .int k_nightWeather])), (aw, .inr (4, [.ref ag, .ref ae, .ref ac, .ref an, .int w_kept])), (ag, .inr (2, [.int g_number, .ref ag_sort, .ref ag_kind, .ref ag_tip, .ref ag_marks, .ref ag_brass, .ref ag_peg, .ref ag_has])), (ag_sort, .inl (cyI, 16, .inl g_sort)), (ag_kind, .inl (cyI, 16, .inl g_kind)), (ag_tip, .inl (cyI, 16, .inl g_tip)), (ag_marks, .inl (cyI, 16, .inl g_marks)), (ag_brass, .inl (cyI, 16, .inl g_brass)), (ag_peg, .inl (cyI, 16, .inl g_peg)), (ag_has, .inl (cyI, 16, .inl g_has)), (ae, .inr (1, [.int e_number, .ref ae_facts])), (ae_facts, .inl (cyI, 420, .inl e_facts)), (ac, .inr (0, [.int c_number, .ref ac_guest, .ref ac_yes, .ref ac_no])), (ac_guest, .inl (cyI, 6, .inl c_guest)), (ac_yes, .inl (cyI, 6, .inl c_yes)), (ac_no, .inl (cyI, 6, .inl c_no)), (an, .inr (6, [.int n_number, .ref an_left])), (an_left, .inl (cyI, 24, .inl n_left)), (az, .inr (4, [.ref azg, .ref aze, .ref azc, .ref azn, .int z_kept])), (azg, .inr (2, [.int zg_number, .ref azg_sort, .ref azg_kind, .ref azg_tip, .ref azg_marks, .ref azg_brass, .ref azg_peg, .ref azg_has])), (azg_sort, .inl (cyI, 16, .inl zg_sort)), (azg_kind, .inl (cyI, 16, .inl zg_kind)), (azg_tip, .inl (cyI, 16, .inl zg_tip)), (azg_marks, .inl (cyI, 16, .inl zg_marks)), (azg_brass, .inl (cyI, 16, .inl zg_brass)), (azg_peg, .inl (cyI, 16, .inl zg_peg)), (azg_has, .inl (cyI, 16, .inl zg_has)), (aze, .inr (1, [.int ze_number, .ref aze_facts])), (aze_facts, .inl (cyI, 420, .inl ze_facts)), (azc, .inr (0, [.int zc_number, .ref azc_guest, .ref azc_yes, .ref azc_no])), (azc_guest, .inl (cyI, 6, .inl zc_guest)), (azc_yes, .inl (cyI, 6, .inl zc_yes)), (azc_no, .inl (cyI, 6, .inl zc_no)), (azn, .inr (6, [.int zn_number, .ref azn_left])), (azn_left, .inl (cyI, 24, .inl zn_left)), (ao, .inr (4, [.ref aog, .ref aoe, .ref aoc, .ref aon, .int o_kept])), (aog, .inr (2, [.int og_number, .ref aog_sort, .ref aog_kind, .ref aog_tip, .ref aog_marks, .ref aog_brass, .ref aog_peg, .ref aog_has])), (aog_sort, .inl (cyI, 16, .inl og_sort)), (aog_kind, .inl (cyI, 16, .inl og_kind)), (aog_tip, .inl (cyI, 16, .inl og_tip)), (aog_marks, .inl (cyI, 16, .inl og_marks)), (aog_brass, .inl (cyI, 16, .inl og_brass)), (aog_peg, .inl (cyI, 16, .inl og_peg)), (aog_has, .inl (cyI, 16, .inl og_has)), (aoe, .inr (1, [.int oe_number, .ref aoe_facts])), (aoe_facts, .inl (cyI, 420, .inl oe_facts)), (aoc, .inr (0, [.int oc_number, .ref aoc_guest, .ref aoc_yes, .ref aoc_no])), (aoc_guest, .inl (cyI, 6, .inl oc_guest)), (aoc_yes, .inl (cyI, 6, .inl oc_yes)), (aoc_no, .inl (cyI, 6, .inl oc_no)), (aon, .inr (6, [.int on_number, .ref aon_left])), (aon_left, .inl (cyI, 24, .inl on_left)), (ah, .inr (3, [.ref ah_kind, .ref ah_walk, .ref ah_share, .ref ah_weight, .int h_pegs, .int h_ticks, .int h_loss])), (ah_kind, .inl (cyI, 24, .inl h_kind)), (ah_walk, .inl (cyI, 24, .inl h_walk)), (ah_share, .inl (cyI, 12, .inl h_share)), (ah_weight, .inl (cyI, 3, .inl h_weight)), (ar, .inr (8, [.ref ar_text, .int r_length, .int r_place, .int r_failure, .int r_at, .int r_firstFigure, .int r_toldBefore, .ref ad])), (ar_text, .inl (cyB, 240, .inl r_text)), (ad, .inr (3, [.ref ad_kind, .ref ad_walk, .ref ad_share, .ref ad_weight, .int d_pegs, .int d_ticks, .int d_loss])), (ad_kind, .inl (cyI, 24, .inl d_kind)), (ad_walk, .inl (cyI, 24, .inl d_walk)), (ad_share, .inl (cyI, 12, .inl d_share)), (ad_weight, .inl (cyI, 3, .inl d_weight)), (ap, .inr (7, [.ref ap_expected, .ref ap_pegFor, .ref ap_taken, .int p_sum])), (ap_expected, .inl (cyI, 16, .inl p_expected)), (ap_pegFor, .inl (cyI, 16, .inl p_pegFor)), (ap_taken, .inl (cyZ, 24, .inl p_taken)), (au, .inr (9, [.ref au_ticks, .ref au_tip, .ref au_row, .ref au_freeAt, .ref au_waits, .ref au_greatest, .ref au_tips, .ref au_best, .int u_size, .int u_loss, .int u_bestTips, .int u_bestWaits])), (au_ticks, .inl (cyI, 16, .inl u_ticks)), (au_tip, .inl (cyI, 16, .inl u_tip)), (au_row, .inl (cyI, 16, .inl u_row)), (au_freeAt, .inl (cyI, 68, .inl u_freeAt)), (au_waits, .inl (cyI, 17, .inl u_waits)), (au_greatest, .inl (cyI, 17, .inl u_greatest)), (au_tips, .inl (cyI, 17, .inl u_tips)), (au_best, .inl (cyI, 7, .inl u_best)), (aq, .inr (5, [.ref aq_fitting, .ref aq_waysOf, .int q_claims])), (aq_fitting, .inl (cyI, 6, .inl q_fitting)), (aq_waysOf, .inl (cyJ, 64, .inr (.inl q_waysOf)))] := hD
  refine lv_astore_n (lv' := [(1, .ref ak), (0, .ref b)]) hx hb (nq_d dL_law_0_g (n := 3) rfl) rfl hl (by decide) rfl (fun ls hl => ?_)
  refine va_new (ci := 11) (fs := [.int (0 : Int32), .null, .null, .null, .null, .int (0 : Int32), .null, .int (0 : Int32), .int (0 : Int32), .int (0 : Int32), .long (0 : Int64), .int (0 : Int32), .int (0 : Int32), .int (0 : Int32), .int (0 : Int32), .null, .null, .null, .null, .int (0 : Int32), .int (0 : Int32), .null, .int (0 : Int32), .null, .null, .null, .null, .null, .null, .null, .int (0 : Int32), .int (0 : Int32), .null, .null, .int (0 : Int32), .null, .null, .null, .int (0 : Int32), .null, .null, .int (0 : Int32), .int (0 : Int32), .null, .int (0 : Int32), .null, .int (0 : Int32), .int (0 : Int32), .int (0 : Int32), .null, .int (0 : Int32), .null, .null, .null, .null, .null, .null, .int (0 : Int32)]) (C := RX11) (T := TX11) (N := 58) hx hb hts inlX11 tyX11 tyX11_ok hown (hts (.classLink RL 10 RX11) (by decide +kernel)) (hts (.instantiable RX11 58) (by decide +kernel)) (hts (.initialized RX11) (by decide +kernel)) hK hP hD hS hA rfl (fun j hj => match j, hj with | 0, _ => rfl | 1, _ => rfl | 2, _ => rfl | 3, _ => rfl | 4, _ => rfl | 5, _ => rfl | 6, _ => rfl | 7, _ => rfl | 8, _ => rfl | 9, _ => rfl | 10, _ => rfl | 11, _ => rfl | 12, _ => rfl | 13, _ => rfl | 14, _ => rfl | 15, _ => rfl | 16, _ => rfl | 17, _ => rfl | 18, _ => rfl | 19, _ => rfl | 20, _ => rfl | 21, _ => rfl | 22, _ => rfl | 23, _ => rfl | 24, _ => rfl | 25, _ => rfl | 26, _ => rfl | 27, _ => rfl | 28, _ => rfl | 29, _ => rfl | 30, _ => rfl | 31, _ => rfl | 32, _ => rfl | 33, _ => rfl | 34, _ => rfl | 35, _ => rfl | 36, _ => rfl | 37, _ => rfl | 38, _ => rfl | 39, _ => rfl | 40, _ => rfl | 41, _ => rfl | 42, _ => rfl | 43, _ => rfl | 44, _ => rfl | 45, _ => rfl | 46, _ => rfl | 47, _ => rfl | 48, _ => rfl | 49, _ => rfl | 50, _ => rfl | 51, _ => rfl | 52, _ => rfl | 53, _ => rfl | 54, _ => rfl | 55, _ => rfl | 56, _ => rfl | 57, _ => rfl | z + 58, h => absurd h (by omega)) (Nat.le_of_ble_eq_true rfl) (Nat.le_of_ble_eq_true rfl) (nq_d dL_law_0_g (n := 4) rfl) (fun am H hP hD hS => ?_)
  have hP : va_P (dC, dI) vwCl [(ak, .inr (10, [.ref ah, .ref ar, .ref aw, .ref az, .ref ao, .ref ap, .ref au, .ref aq, .int k_nightPlay, .int k_nightWeather])), (aw, .inr (4, [.ref ag, .ref ae, .ref ac, .ref an, .int w_kept])), (ag, .inr (2, [.int g_number, .ref ag_sort, .ref ag_kind, .ref ag_tip, .ref ag_marks, .ref ag_brass, .ref ag_peg, .ref ag_has])), (ag_sort, .inl (cyI, 16, .inl g_sort)), (ag_kind, .inl (cyI, 16, .inl g_kind)), (ag_tip, .inl (cyI, 16, .inl g_tip)), (ag_marks, .inl (cyI, 16, .inl g_marks)), (ag_brass, .inl (cyI, 16, .inl g_brass)), (ag_peg, .inl (cyI, 16, .inl g_peg)), (ag_has, .inl (cyI, 16, .inl g_has)), (ae, .inr (1, [.int e_number, .ref ae_facts])), (ae_facts, .inl (cyI, 420, .inl e_facts)), (ac, .inr (0, [.int c_number, .ref ac_guest, .ref ac_yes, .ref ac_no])), (ac_guest, .inl (cyI, 6, .inl c_guest)), (ac_yes, .inl (cyI, 6, .inl c_yes)), (ac_no, .inl (cyI, 6, .inl c_no)), (an, .inr (6, [.int n_number, .ref an_left])), (an_left, .inl (cyI, 24, .inl n_left)), (az, .inr (4, [.ref azg, .ref aze, .ref azc, .ref azn, .int z_kept])), (azg, .inr (2, [.int zg_number, .ref azg_sort, .ref azg_kind, .ref azg_tip, .ref azg_marks, .ref azg_brass, .ref azg_peg, .ref azg_has])), (azg_sort, .inl (cyI, 16, .inl zg_sort)), (azg_kind, .inl (cyI, 16, .inl zg_kind)), (azg_tip, .inl (cyI, 16, .inl zg_tip)), (azg_marks, .inl (cyI, 16, .inl zg_marks)), (azg_brass, .inl (cyI, 16, .inl zg_brass)), (azg_peg, .inl (cyI, 16, .inl zg_peg)), (azg_has, .inl (cyI, 16, .inl zg_has)), (aze, .inr (1, [.int ze_number, .ref aze_facts])), (aze_facts, .inl (cyI, 420, .inl ze_facts)), (azc, .inr (0, [.int zc_number, .ref azc_guest, .ref azc_yes, .ref azc_no])), (azc_guest, .inl (cyI, 6, .inl zc_guest)), (azc_yes, .inl (cyI, 6, .inl zc_yes)), (azc_no, .inl (cyI, 6, .inl zc_no)), (azn, .inr (6, [.int zn_number, .ref azn_left])), (azn_left, .inl (cyI, 24, .inl zn_left)), (ao, .inr (4, [.ref aog, .ref aoe, .ref aoc, .ref aon, .int o_kept])), (aog, .inr (2, [.int og_number, .ref aog_sort, .ref aog_kind, .ref aog_tip, .ref aog_marks, .ref aog_brass, .ref aog_peg, .ref aog_has])), (aog_sort, .inl (cyI, 16, .inl og_sort)), (aog_kind, .inl (cyI, 16, .inl og_kind)), (aog_tip, .inl (cyI, 16, .inl og_tip)), (aog_marks, .inl (cyI, 16, .inl og_marks)), (aog_brass, .inl (cyI, 16, .inl og_brass)), (aog_peg, .inl (cyI, 16, .inl og_peg)), (aog_has, .inl (cyI, 16, .inl og_has)), (aoe, .inr (1, [.int oe_number, .ref aoe_facts])), (aoe_facts, .inl (cyI, 420, .inl oe_facts)), (aoc, .inr (0, [.int oc_number, .ref aoc_guest, .ref aoc_yes, .ref aoc_no])), (aoc_guest, .inl (cyI, 6, .inl oc_guest)), (aoc_yes, .inl (cyI, 6, .inl oc_yes)), (aoc_no, .inl (cyI, 6, .inl oc_no)), (aon, .inr (6, [.int on_number, .ref aon_left])), (aon_left, .inl (cyI, 24, .inl on_left)), (ah, .inr (3, [.ref ah_kind, .ref ah_walk, .ref ah_share, .ref ah_weight, .int h_pegs, .int h_ticks, .int h_loss])), (ah_kind, .inl (cyI, 24, .inl h_kind)), (ah_walk, .inl (cyI, 24, .inl h_walk)), (ah_share, .inl (cyI, 12, .inl h_share)), (ah_weight, .inl (cyI, 3, .inl h_weight)), (ar, .inr (8, [.ref ar_text, .int r_length, .int r_place, .int r_failure, .int r_at, .int r_firstFigure, .int r_toldBefore, .ref ad])), (ar_text, .inl (cyB, 240, .inl r_text)), (ad, .inr (3, [.ref ad_kind, .ref ad_walk, .ref ad_share, .ref ad_weight, .int d_pegs, .int d_ticks, .int d_loss])), (ad_kind, .inl (cyI, 24, .inl d_kind)), (ad_walk, .inl (cyI, 24, .inl d_walk)), (ad_share, .inl (cyI, 12, .inl d_share)), (ad_weight, .inl (cyI, 3, .inl d_weight)), (ap, .inr (7, [.ref ap_expected, .ref ap_pegFor, .ref ap_taken, .int p_sum])), (ap_expected, .inl (cyI, 16, .inl p_expected)), (ap_pegFor, .inl (cyI, 16, .inl p_pegFor)), (ap_taken, .inl (cyZ, 24, .inl p_taken)), (au, .inr (9, [.ref au_ticks, .ref au_tip, .ref au_row, .ref au_freeAt, .ref au_waits, .ref au_greatest, .ref au_tips, .ref au_best, .int u_size, .int u_loss, .int u_bestTips, .int u_bestWaits])), (au_ticks, .inl (cyI, 16, .inl u_ticks)), (au_tip, .inl (cyI, 16, .inl u_tip)), (au_row, .inl (cyI, 16, .inl u_row)), (au_freeAt, .inl (cyI, 68, .inl u_freeAt)), (au_waits, .inl (cyI, 17, .inl u_waits)), (au_greatest, .inl (cyI, 17, .inl u_greatest)), (au_tips, .inl (cyI, 17, .inl u_tips)), (au_best, .inl (cyI, 7, .inl u_best)), (aq, .inr (5, [.ref aq_fitting, .ref aq_waysOf, .int q_claims])), (aq_fitting, .inl (cyI, 6, .inl q_fitting)), (aq_waysOf, .inl (cyJ, 64, .inr (.inl q_waysOf))), (am, .inr (11, [.int (0 : Int32), .null, .null, .null, .null, .int (0 : Int32), .null, .int (0 : Int32), .int (0 : Int32), .int (0 : Int32), .long (0 : Int64), .int (0 : Int32), .int (0 : Int32), .int (0 : Int32), .int (0 : Int32), .null, .null, .null, .null, .int (0 : Int32), .int (0 : Int32), .null, .int (0 : Int32), .null, .null, .null, .null, .null, .null, .null, .int (0 : Int32), .int (0 : Int32), .null, .null, .int (0 : Int32), .null, .null, .null, .int (0 : Int32), .null, .null, .int (0 : Int32), .int (0 : Int32), .null, .int (0 : Int32), .null, .int (0 : Int32), .int (0 : Int32), .int (0 : Int32), .null, .int (0 : Int32), .null, .null, .null, .null, .null, .null, .int (0 : Int32)]))] H := hP
  have hD : va_D (fun q : Nat => s.heap.size ≤ q) [(ak, .inr (10, [.ref ah, .ref ar, .ref aw, .ref az, .ref ao, .ref ap, .ref au, .ref aq, .int k_nightPlay, .int k_nightWeather])), (aw, .inr (4, [.ref ag, .ref ae, .ref ac, .ref an, .int w_kept])), (ag, .inr (2, [.int g_number, .ref ag_sort, .ref ag_kind, .ref ag_tip, .ref ag_marks, .ref ag_brass, .ref ag_peg, .ref ag_has])), (ag_sort, .inl (cyI, 16, .inl g_sort)), (ag_kind, .inl (cyI, 16, .inl g_kind)), (ag_tip, .inl (cyI, 16, .inl g_tip)), (ag_marks, .inl (cyI, 16, .inl g_marks)), (ag_brass, .inl (cyI, 16, .inl g_brass)), (ag_peg, .inl (cyI, 16, .inl g_peg)), (ag_has, .inl (cyI, 16, .inl g_has)), (ae, .inr (1, [.int e_number, .ref ae_facts])), (ae_facts, .inl (cyI, 420, .inl e_facts)), (ac, .inr (0, [.int c_number, .ref ac_guest, .ref ac_yes, .ref ac_no])), (ac_guest, .inl (cyI, 6, .inl c_guest)), (ac_yes, .inl (cyI, 6, .inl c_yes)), (ac_no, .inl (cyI, 6, .inl c_no)), (an, .inr (6, [.int n_number, .ref an_left])), (an_left, .inl (cyI, 24, .inl n_left)), (az, .inr (4, [.ref azg, .ref aze, .ref azc, .ref azn, .int z_kept])), (azg, .inr (2, [.int zg_number, .ref azg_sort, .ref azg_kind, .ref azg_tip, .ref azg_marks, .ref azg_brass, .ref azg_peg, .ref azg_has])), (azg_sort, .inl (cyI, 16, .inl zg_sort)), (azg_kind, .inl (cyI, 16, .inl zg_kind)), (azg_tip, .inl (cyI, 16, .inl zg_tip)), (azg_marks, .inl (cyI, 16, .inl zg_marks)), (azg_brass, .inl (cyI, 16, .inl zg_brass)), (azg_peg, .inl (cyI, 16, .inl zg_peg)), (azg_has, .inl (cyI, 16, .inl zg_has)), (aze, .inr (1, [.int ze_number, .ref aze_facts])), (aze_facts, .inl (cyI, 420, .inl ze_facts)), (azc, .inr (0, [.int zc_number, .ref azc_guest, .ref azc_yes, .ref azc_no])), (azc_guest, .inl (cyI, 6, .inl zc_guest)), (azc_yes, .inl (cyI, 6, .inl zc_yes)), (azc_no, .inl (cyI, 6, .inl zc_no)), (azn, .inr (6, [.int zn_number, .ref azn_left])), (azn_left, .inl (cyI, 24, .inl zn_left)), (ao, .inr (4, [.ref aog, .ref aoe, .ref aoc, .ref aon, .int o_kept])), (aog, .inr (2, [.int og_number, .ref aog_sort, .ref aog_kind, .ref aog_tip, .ref aog_marks, .ref aog_brass, .ref aog_peg, .ref aog_has])), (aog_sort, .inl (cyI, 16, .inl og_sort)), (aog_kind, .inl (cyI, 16, .inl og_kind)), (aog_tip, .inl (cyI, 16, .inl og_tip)), (aog_marks, .inl (cyI, 16, .inl og_marks)), (aog_brass, .inl (cyI, 16, .inl og_brass)), (aog_peg, .inl (cyI, 16, .inl og_peg)), (aog_has, .inl (cyI, 16, .inl og_has)), (aoe, .inr (1, [.int oe_number, .ref aoe_facts])), (aoe_facts, .inl (cyI, 420, .inl oe_facts)), (aoc, .inr (0, [.int oc_number, .ref aoc_guest, .ref aoc_yes, .ref aoc_no])), (aoc_guest, .inl (cyI, 6, .inl oc_guest)), (aoc_yes, .inl (cyI, 6, .inl oc_yes)), (aoc_no, .inl (cyI, 6, .inl oc_no)), (aon, .inr (6, [.int on_number, .ref aon_left])), (aon_left, .inl (cyI, 24, .inl on_left)), (ah, .inr (3, [.ref ah_kind, .ref ah_walk, .ref ah_share, .ref ah_weight, .int h_pegs, .int h_ticks, .int h_loss])), (ah_kind, .inl (cyI, 24, .inl h_kind)), (ah_walk, .inl (cyI, 24, .inl h_walk)), (ah_share, .inl (cyI, 12, .inl h_share)), (ah_weight, .inl (cyI, 3, .inl h_weight)), (ar, .inr (8, [.ref ar_text, .int r_length, .int r_place, .int r_failure, .int r_at, .int r_firstFigure, .int r_toldBefore, .ref ad])), (ar_text, .inl (cyB, 240, .inl r_text)), (ad, .inr (3, [.ref ad_kind, .ref ad_walk, .ref ad_share, .ref ad_weight, .int d_pegs, .int d_ticks, .int d_loss])), (ad_kind, .inl (cyI, 24, .inl d_kind)), (ad_walk, .inl (cyI, 24, .inl d_walk)), (ad_share, .inl (cyI, 12, .inl d_share)), (ad_weight, .inl (cyI, 3, .inl d_weight)), (ap, .inr (7, [.ref ap_expected, .ref ap_pegFor, .ref ap_taken, .int p_sum])), (ap_expected, .inl (cyI, 16, .inl p_expected)), (ap_pegFor, .inl (cyI, 16, .inl p_pegFor)), (ap_taken, .inl (cyZ, 24, .inl p_taken)), (au, .inr (9, [.ref au_ticks, .ref au_tip, .ref au_row, .ref au_freeAt, .ref au_waits, .ref au_greatest, .ref au_tips, .ref au_best, .int u_size, .int u_loss, .int u_bestTips, .int u_bestWaits])), (au_ticks, .inl (cyI, 16, .inl u_ticks)), (au_tip, .inl (cyI, 16, .inl u_tip)), (au_row, .inl (cyI, 16, .inl u_row)), (au_freeAt, .inl (cyI, 68, .inl u_freeAt)), (au_waits, .inl (cyI, 17, .inl u_waits)), (au_greatest, .inl (cyI, 17, .inl u_greatest)), (au_tips, .inl (cyI, 17, .inl u_tips)), (au_best, .inl (cyI, 7, .inl u_best)), (aq, .inr (5, [.ref aq_fitting, .ref aq_waysOf, .int q_claims])), (aq_fitting, .inl (cyI, 6, .inl q_fitting)), (aq_waysOf, .inl (cyJ, 64, .inr (.inl q_waysOf))), (am, .inr (11, [.int (0 : Int32), .null, .null, .null, .null, .int (0 : Int32), .null, .int (0 : Int32), .int (0 : Int32), .int (0 : Int32), .long (0 : Int64), .int (0 : Int32), .int (0 : Int32), .int (0 : Int32), .int (0 : Int32), .null, .null, .null, .null, .int (0 : Int32), .int (0 : Int32), .null, .int (0 : Int32), .null, .null, .null, .null, .null, .null, .null, .int (0 : Int32), .int (0 : Int32), .null, .null, .int (0 : Int32), .null, .null, .null, .int (0 : Int32), .null, .null, .int (0 : Int32), .int (0 : Int32), .null, .int (0 : Int32), .null, .int (0 : Int32), .int (0 : Int32), .int (0 : Int32), .null, .int (0 : Int32), .null, .null, .null, .null, .null, .null, .int (0 : Int32)]))] := hD
  refine lv_dup hx hb (nq_d dL_law_0_g (n := 5) rfl) rfl ?_
  refine gx_rb (wr := [(ak, .inr (10, [.ref ah, .ref ar, .ref aw, .ref az, .ref ao, .ref ap, .ref au, .ref aq, .int k_nightPlay, .int k_nightWeather])), (aw, .inr (4, [.ref ag, .ref ae, .ref ac, .ref an, .int w_kept])), (ag, .inr (2, [.int g_number, .ref ag_sort, .ref ag_kind, .ref ag_tip, .ref ag_marks, .ref ag_brass, .ref ag_peg, .ref ag_has])), (ag_sort, .inl (cyI, 16, .inl g_sort)), (ag_kind, .inl (cyI, 16, .inl g_kind)), (ag_tip, .inl (cyI, 16, .inl g_tip)), (ag_marks, .inl (cyI, 16, .inl g_marks)), (ag_brass, .inl (cyI, 16, .inl g_brass)), (ag_peg, .inl (cyI, 16, .inl g_peg)), (ag_has, .inl (cyI, 16, .inl g_has)), (ae, .inr (1, [.int e_number, .ref ae_facts])), (ae_facts, .inl (cyI, 420, .inl e_facts)), (ac, .inr (0, [.int c_number, .ref ac_guest, .ref ac_yes, .ref ac_no])), (ac_guest, .inl (cyI, 6, .inl c_guest)), (ac_yes, .inl (cyI, 6, .inl c_yes)), (ac_no, .inl (cyI, 6, .inl c_no)), (an, .inr (6, [.int n_number, .ref an_left])), (an_left, .inl (cyI, 24, .inl n_left)), (az, .inr (4, [.ref azg, .ref aze, .ref azc, .ref azn, .int z_kept])), (azg, .inr (2, [.int zg_number, .ref azg_sort, .ref azg_kind, .ref azg_tip, .ref azg_marks, .ref azg_brass, .ref azg_peg, .ref azg_has])), (azg_sort, .inl (cyI, 16, .inl zg_sort)), (azg_kind, .inl (cyI, 16, .inl zg_kind)), (azg_tip, .inl (cyI, 16, .inl zg_tip)), (azg_marks, .inl (cyI, 16, .inl zg_marks)), (azg_brass, .inl (cyI, 16, .inl zg_brass)), (azg_peg, .inl (cyI, 16, .inl zg_peg)), (azg_has, .inl (cyI, 16, .inl zg_has)), (aze, .inr (1, [.int ze_number, .ref aze_facts])), (aze_facts, .inl (cyI, 420, .inl ze_facts)), (azc, .inr (0, [.int zc_number, .ref azc_guest, .ref azc_yes, .ref azc_no])), (azc_guest, .inl (cyI, 6, .inl zc_guest)), (azc_yes, .inl (cyI, 6, .inl zc_yes)), (azc_no, .inl (cyI, 6, .inl zc_no)), (azn, .inr (6, [.int zn_number, .ref azn_left])), (azn_left, .inl (cyI, 24, .inl zn_left)), (ao, .inr (4, [.ref aog, .ref aoe, .ref aoc, .ref aon, .int o_kept])), (aog, .inr (2, [.int og_number, .ref aog_sort, .ref aog_kind, .ref aog_tip, .ref aog_marks, .ref aog_brass, .ref aog_peg, .ref aog_has])), (aog_sort, .inl (cyI, 16, .inl og_sort)), (aog_kind, .inl (cyI, 16, .inl og_kind)), (aog_tip, .inl (cyI, 16, .inl og_tip)), (aog_marks, .inl (cyI, 16, .inl og_marks)), (aog_brass, .inl (cyI, 16, .inl og_brass)), (aog_peg, .inl (cyI, 16, .inl og_peg)), (aog_has, .inl (cyI, 16, .inl og_has)), (aoe, .inr (1, [.int oe_number, .ref aoe_facts])), (aoe_facts, .inl (cyI, 420, .inl oe_facts)), (aoc, .inr (0, [.int oc_number, .ref aoc_guest, .ref aoc_yes, .ref aoc_no])), (aoc_guest, .inl (cyI, 6, .inl oc_guest)), (aoc_yes, .inl (cyI, 6, .inl oc_yes)), (aoc_no, .inl (cyI, 6, .inl oc_no)), (aon, .inr (6, [.int on_number, .ref aon_left])), (aon_left, .inl (cyI, 24, .inl on_left)), (ah, .inr (3, [.ref ah_kind, .ref ah_walk, .ref ah_share, .ref ah_weight, .int h_pegs, .int h_ticks, .int h_loss])), (ah_kind, .inl (cyI, 24, .inl h_kind)), (ah_walk, .inl (cyI, 24, .inl h_walk)), (ah_share, .inl (cyI, 12, .inl h_share)), (ah_weight, .inl (cyI, 3, .inl h_weight)), (ar, .inr (8, [.ref ar_text, .int r_length, .int r_place, .int r_failure, .int r_at, .int r_firstFigure, .int r_toldBefore, .ref ad])), (ar_text, .inl (cyB, 240, .inl r_text)), (ad, .inr (3, [.ref ad_kind, .ref ad_walk, .ref ad_share, .ref ad_weight, .int d_pegs, .int d_ticks, .int d_loss])), (ad_kind, .inl (cyI, 24, .inl d_kind)), (ad_walk, .inl (cyI, 24, .inl d_walk)), (ad_share, .inl (cyI, 12, .inl d_share)), (ad_weight, .inl (cyI, 3, .inl d_weight)), (ap, .inr (7, [.ref ap_expected, .ref ap_pegFor, .ref ap_taken, .int p_sum])), (ap_expected, .inl (cyI, 16, .inl p_expected)), (ap_pegFor, .inl (cyI, 16, .inl p_pegFor)), (ap_taken, .inl (cyZ, 24, .inl p_taken)), (au, .inr (9, [.ref au_ticks, .ref au_tip, .ref au_row, .ref au_freeAt, .ref au_waits, .ref au_greatest, .ref au_tips, .ref au_best, .int u_size, .int u_loss, .int u_bestTips, .int u_bestWaits])), (au_ticks, .inl (cyI, 16, .inl u_ticks)), (au_tip, .inl (cyI, 16, .inl u_tip)), (au_row, .inl (cyI, 16, .inl u_row)), (au_freeAt, .inl (cyI, 68, .inl u_freeAt)), (au_waits, .inl (cyI, 17, .inl u_waits)), (au_greatest, .inl (cyI, 17, .inl u_greatest)), (au_tips, .inl (cyI, 17, .inl u_tips)), (au_best, .inl (cyI, 7, .inl u_best)), (aq, .inr (5, [.ref aq_fitting, .ref aq_waysOf, .int q_claims])), (aq_fitting, .inl (cyI, 6, .inl q_fitting)), (aq_waysOf, .inl (cyJ, 64, .inr (.inl q_waysOf)))]) (va_runI (As := []) (rest := [.ref am]) ⟨hx, hb, hml, hown, hts⟩ (ct_M_init l dC dI cyB cyI cyJ cyZ am _ _) (cwI 0 hts gL_law_X11_init rfl rfl rfl (hts (.initialized RX11) (by decide +kernel)) (hts (.methodLink RL 12 yX11_init) (by decide +kernel)) (hts (.instanceMethod yX11_init) (by decide +kernel)) rfl cd_X11_init.2 ⟨Nat.le_of_ble_eq_true rfl, Nat.le_of_ble_eq_true rfl⟩) (gx_preS hK hP hD hNw [80] rfl (by decide) hw) rfl rfl hl.1 rfl (lv_room (Nat.le_of_ble_eq_true rfl)) (nq_d dL_law_0_g (n := 6) rfl) ⟨Nat.le_of_ble_eq_true rfl, Nat.le_of_ble_eq_true rfl⟩) hP hD hS hA [80] [0, 1, 2, 3, 4, 5, 6, 7, 8, 9, 10, 11, 12, 13, 14, 15, 16, 17, 18, 19, 20, 21, 22, 23, 24, 25, 26, 27, 28, 29, 30, 31, 32, 33, 34, 35, 36, 37, 38, 39, 40, 41, 42, 43, 44, 45, 46, 47, 48, 49, 50, 51, 52, 53, 54, 55, 56, 57, 58, 59, 60, 61, 62, 63, 64, 65, 66, 67, 68, 69, 70, 71, 72, 73, 74, 75, 76, 77, 78, 79] rfl rfl (by decide +kernel) (by decide +kernel) (fun t H locs hB hj hS => ?_)
  refine Exists.elim hB ?_
  clear hB
  intro am_pegKind hB
  refine Exists.elim hB ?_
  clear hB
  intro am_pegWalk hB
  refine Exists.elim hB ?_
  clear hB
  intro am_oddsOf hB
  refine Exists.elim hB ?_
  clear hB
  intro am_singles hB
  refine Exists.elim hB ?_
  clear hB
  intro am_text hB
  refine Exists.elim hB ?_
  clear hB
  intro am_readKind hB
  refine Exists.elim hB ?_
  clear hB
  intro am_readWalk hB
  refine Exists.elim hB ?_
  clear hB
  intro am_readOdds hB
  refine Exists.elim hB ?_
  clear hB
  intro am_readSingle hB
  refine Exists.elim hB ?_
  clear hB
  intro am_hangs hB
  refine Exists.elim hB ?_
  clear hB
  intro am_sorts hB
  refine Exists.elim hB ?_
  clear hB
  intro am_kinds hB
  refine Exists.elim hB ?_
  clear hB
  intro am_tips hB
  refine Exists.elim hB ?_
  clear hB
  intro am_marks hB
  refine Exists.elim hB ?_
  clear hB
  intro am_brasses hB
  refine Exists.elim hB ?_
  clear hB
  intro am_has hB
  refine Exists.elim hB ?_
  clear hB
  intro am_hungBy hB
  refine Exists.elim hB ?_
  clear hB
  intro am_planned hB
  refine Exists.elim hB ?_
  clear hB
  intro am_isTaken hB
  refine Exists.elim hB ?_
  clear hB
  intro am_plays hB
  refine Exists.elim hB ?_
  clear hB
  intro am_weathers hB
  refine Exists.elim hB ?_
  clear hB
  intro am_lefts hB
  refine Exists.elim hB ?_
  clear hB
  intro am_eventRow hB
  refine Exists.elim hB ?_
  clear hB
  intro am_chained hB
  refine Exists.elim hB ?_
  clear hB
  intro am_row hB
  refine Exists.elim hB ?_
  clear hB
  intro am_freeAt hB
  refine Exists.elim hB ?_
  clear hB
  intro am_bestRow hB
  refine Exists.elim hB ?_
  clear hB
  intro am_claimGuest hB
  refine Exists.elim hB ?_
  clear hB
  intro am_claimYes hB
  refine Exists.elim hB ?_
  clear hB
  intro am_claimNo hB
  refine Exists.elim hB ?_
  clear hB
  intro am_waysTo hB
  refine Exists.elim hB ?_
  clear hB
  intro am_images hB
  refine Exists.elim hB ?_
  clear hB
  intro am_isKept hB
  refine Exists.elim hB ?_
  clear hB
  intro m_pegs hB
  refine Exists.elim hB ?_
  clear hB
  intro m_halls hB
  refine Exists.elim hB ?_
  clear hB
  intro m_texted hB
  refine Exists.elim hB ?_
  clear hB
  intro m_faultPlace hB
  refine Exists.elim hB ?_
  clear hB
  intro m_at0 hB
  refine Exists.elim hB ?_
  clear hB
  intro m_word hB
  refine Exists.elim hB ?_
  clear hB
  intro m_wordEnd hB
  refine Exists.elim hB ?_
  clear hB
  intro m_number hB
  refine Exists.elim hB ?_
  clear hB
  intro m_numberAt hB
  refine Exists.elim hB ?_
  clear hB
  intro m_readPegs hB
  refine Exists.elim hB ?_
  clear hB
  intro m_toldSet hB
  refine Exists.elim hB ?_
  clear hB
  intro m_sortSet hB
  refine Exists.elim hB ?_
  clear hB
  intro m_guests hB
  refine Exists.elim hB ?_
  clear hB
  intro m_nightPlay hB
  refine Exists.elim hB ?_
  clear hB
  intro m_nightWeather hB
  refine Exists.elim hB ?_
  clear hB
  intro m_nights hB
  refine Exists.elim hB ?_
  clear hB
  intro m_events hB
  refine Exists.elim hB ?_
  clear hB
  intro m_chainMany hB
  refine Exists.elim hB ?_
  clear hB
  intro m_isRound hB
  refine Exists.elim hB ?_
  clear hB
  intro m_rowMany hB
  refine Exists.elim hB ?_
  clear hB
  intro m_waitSum hB
  refine Exists.elim hB ?_
  clear hB
  intro m_waitMost hB
  refine Exists.elim hB ?_
  clear hB
  intro m_tipSum hB
  refine Exists.elim hB ?_
  clear hB
  intro m_claims hB
  refine Exists.elim hB ?_
  clear hB
  intro m_imageAt hB
  refine Exists.elim hB ?_
  clear hB
  intro m_pegKind hB
  refine Exists.elim hB ?_
  clear hB
  intro m_pegWalk hB
  refine Exists.elim hB ?_
  clear hB
  intro m_oddsOf hB
  refine Exists.elim hB ?_
  clear hB
  intro m_singles hB
  refine Exists.elim hB ?_
  clear hB
  intro m_text hB
  refine Exists.elim hB ?_
  clear hB
  intro m_readKind hB
  refine Exists.elim hB ?_
  clear hB
  intro m_readWalk hB
  refine Exists.elim hB ?_
  clear hB
  intro m_readOdds hB
  refine Exists.elim hB ?_
  clear hB
  intro m_readSingle hB
  refine Exists.elim hB ?_
  clear hB
  intro m_hangs hB
  refine Exists.elim hB ?_
  clear hB
  intro m_sorts hB
  refine Exists.elim hB ?_
  clear hB
  intro m_kinds hB
  refine Exists.elim hB ?_
  clear hB
  intro m_tips hB
  refine Exists.elim hB ?_
  clear hB
  intro m_marks hB
  refine Exists.elim hB ?_
  clear hB
  intro m_brasses hB
  refine Exists.elim hB ?_
  clear hB
  intro m_has hB
  refine Exists.elim hB ?_
  clear hB
  intro m_hungBy hB
  refine Exists.elim hB ?_
  clear hB
  intro m_planned hB
  refine Exists.elim hB ?_
  clear hB
  intro m_isTaken hB
  refine Exists.elim hB ?_
  clear hB
  intro m_plays hB
  refine Exists.elim hB ?_
  clear hB
  intro m_weathers hB
  refine Exists.elim hB ?_
  clear hB
  intro m_lefts hB
  refine Exists.elim hB ?_
  clear hB
  intro m_eventRow hB
  refine Exists.elim hB ?_
  clear hB
  intro m_chained hB
  refine Exists.elim hB ?_
  clear hB
  intro m_row hB
  refine Exists.elim hB ?_
  clear hB
  intro m_freeAt hB
  refine Exists.elim hB ?_
  clear hB
  intro m_bestRow hB
  refine Exists.elim hB ?_
  clear hB
  intro m_claimGuest hB
  refine Exists.elim hB ?_
  clear hB
  intro m_claimYes hB
  refine Exists.elim hB ?_
  clear hB
  intro m_claimNo hB
  refine Exists.elim hB ?_
  clear hB
  intro m_waysTo hB
  refine Exists.elim hB ?_
  clear hB
  intro m_images hB
  refine Exists.elim hB ?_
  clear hB
  intro m_isKept hB
  obtain ⟨hP1, hD1, hw⟩ := hB
  obtain ⟨hP, hD⟩ := hj _ hP1 hD1
  have hP : va_P (dC, dI) vwCl [(ak, .inr (10, [.ref ah, .ref ar, .ref aw, .ref az, .ref ao, .ref ap, .ref au, .ref aq, .int k_nightPlay, .int k_nightWeather])), (aw, .inr (4, [.ref ag, .ref ae, .ref ac, .ref an, .int w_kept])), (ag, .inr (2, [.int g_number, .ref ag_sort, .ref ag_kind, .ref ag_tip, .ref ag_marks, .ref ag_brass, .ref ag_peg, .ref ag_has])), (ag_sort, .inl (cyI, 16, .inl g_sort)), (ag_kind, .inl (cyI, 16, .inl g_kind)), (ag_tip, .inl (cyI, 16, .inl g_tip)), (ag_marks, .inl (cyI, 16, .inl g_marks)), (ag_brass, .inl (cyI, 16, .inl g_brass)), (ag_peg, .inl (cyI, 16, .inl g_peg)), (ag_has, .inl (cyI, 16, .inl g_has)), (ae, .inr (1, [.int e_number, .ref ae_facts])), (ae_facts, .inl (cyI, 420, .inl e_facts)), (ac, .inr (0, [.int c_number, .ref ac_guest, .ref ac_yes, .ref ac_no])), (ac_guest, .inl (cyI, 6, .inl c_guest)), (ac_yes, .inl (cyI, 6, .inl c_yes)), (ac_no, .inl (cyI, 6, .inl c_no)), (an, .inr (6, [.int n_number, .ref an_left])), (an_left, .inl (cyI, 24, .inl n_left)), (az, .inr (4, [.ref azg, .ref aze, .ref azc, .ref azn, .int z_kept])), (azg, .inr (2, [.int zg_number, .ref azg_sort, .ref azg_kind, .ref azg_tip, .ref azg_marks, .ref azg_brass, .ref azg_peg, .ref azg_has])), (azg_sort, .inl (cyI, 16, .inl zg_sort)), (azg_kind, .inl (cyI, 16, .inl zg_kind)), (azg_tip, .inl (cyI, 16, .inl zg_tip)), (azg_marks, .inl (cyI, 16, .inl zg_marks)), (azg_brass, .inl (cyI, 16, .inl zg_brass)), (azg_peg, .inl (cyI, 16, .inl zg_peg)), (azg_has, .inl (cyI, 16, .inl zg_has)), (aze, .inr (1, [.int ze_number, .ref aze_facts])), (aze_facts, .inl (cyI, 420, .inl ze_facts)), (azc, .inr (0, [.int zc_number, .ref azc_guest, .ref azc_yes, .ref azc_no])), (azc_guest, .inl (cyI, 6, .inl zc_guest)), (azc_yes, .inl (cyI, 6, .inl zc_yes)), (azc_no, .inl (cyI, 6, .inl zc_no)), (azn, .inr (6, [.int zn_number, .ref azn_left])), (azn_left, .inl (cyI, 24, .inl zn_left)), (ao, .inr (4, [.ref aog, .ref aoe, .ref aoc, .ref aon, .int o_kept])), (aog, .inr (2, [.int og_number, .ref aog_sort, .ref aog_kind, .ref aog_tip, .ref aog_marks, .ref aog_brass, .ref aog_peg, .ref aog_has])), (aog_sort, .inl (cyI, 16, .inl og_sort)), (aog_kind, .inl (cyI, 16, .inl og_kind)), (aog_tip, .inl (cyI, 16, .inl og_tip)), (aog_marks, .inl (cyI, 16, .inl og_marks)), (aog_brass, .inl (cyI, 16, .inl og_brass)), (aog_peg, .inl (cyI, 16, .inl og_peg)), (aog_has, .inl (cyI, 16, .inl og_has)), (aoe, .inr (1, [.int oe_number, .ref aoe_facts])), (aoe_facts, .inl (cyI, 420, .inl oe_facts)), (aoc, .inr (0, [.int oc_number, .ref aoc_guest, .ref aoc_yes, .ref aoc_no])), (aoc_guest, .inl (cyI, 6, .inl oc_guest)), (aoc_yes, .inl (cyI, 6, .inl oc_yes)), (aoc_no, .inl (cyI, 6, .inl oc_no)), (aon, .inr (6, [.int on_number, .ref aon_left])), (aon_left, .inl (cyI, 24, .inl on_left)), (ah, .inr (3, [.ref ah_kind, .ref ah_walk, .ref ah_share, .ref ah_weight, .int h_pegs, .int h_ticks, .int h_loss])), (ah_kind, .inl (cyI, 24, .inl h_kind)), (ah_walk, .inl (cyI, 24, .inl h_walk)), (ah_share, .inl (cyI, 12, .inl h_share)), (ah_weight, .inl (cyI, 3, .inl h_weight)), (ar, .inr (8, [.ref ar_text, .int r_length, .int r_place, .int r_failure, .int r_at, .int r_firstFigure, .int r_toldBefore, .ref ad])), (ar_text, .inl (cyB, 240, .inl r_text)), (ad, .inr (3, [.ref ad_kind, .ref ad_walk, .ref ad_share, .ref ad_weight, .int d_pegs, .int d_ticks, .int d_loss])), (ad_kind, .inl (cyI, 24, .inl d_kind)), (ad_walk, .inl (cyI, 24, .inl d_walk)), (ad_share, .inl (cyI, 12, .inl d_share)), (ad_weight, .inl (cyI, 3, .inl d_weight)), (ap, .inr (7, [.ref ap_expected, .ref ap_pegFor, .ref ap_taken, .int p_sum])), (ap_expected, .inl (cyI, 16, .inl p_expected)), (ap_pegFor, .inl (cyI, 16, .inl p_pegFor)), (ap_taken, .inl (cyZ, 24, .inl p_taken)), (au, .inr (9, [.ref au_ticks, .ref au_tip, .ref au_row, .ref au_freeAt, .ref au_waits, .ref au_greatest, .ref au_tips, .ref au_best, .int u_size, .int u_loss, .int u_bestTips, .int u_bestWaits])), (au_ticks, .inl (cyI, 16, .inl u_ticks)), (au_tip, .inl (cyI, 16, .inl u_tip)), (au_row, .inl (cyI, 16, .inl u_row)), (au_freeAt, .inl (cyI, 68, .inl u_freeAt)), (au_waits, .inl (cyI, 17, .inl u_waits)), (au_greatest, .inl (cyI, 17, .inl u_greatest)), (au_tips, .inl (cyI, 17, .inl u_tips)), (au_best, .inl (cyI, 7, .inl u_best)), (aq, .inr (5, [.ref aq_fitting, .ref aq_waysOf, .int q_claims])), (aq_fitting, .inl (cyI, 6, .inl q_fitting)), (aq_waysOf, .inl (cyJ, 64, .inr (.inl q_waysOf))), (am, .inr (11, [.int m_pegs, .ref am_pegKind, .ref am_pegWalk, .ref am_oddsOf, .ref am_singles, .int m_halls, .ref am_text, .int m_texted, .int m_faultPlace, .int m_at0, .long m_word, .int m_wordEnd, .int m_number, .int m_numberAt, .int m_readPegs, .ref am_readKind, .ref am_readWalk, .ref am_readOdds, .ref am_readSingle, .int m_toldSet, .int m_sortSet, .ref am_hangs, .int m_guests, .ref am_sorts, .ref am_kinds, .ref am_tips, .ref am_marks, .ref am_brasses, .ref am_has, .ref am_hungBy, .int m_nightPlay, .int m_nightWeather, .ref am_planned, .ref am_isTaken, .int m_nights, .ref am_plays, .ref am_weathers, .ref am_lefts, .int m_events, .ref am_eventRow, .ref am_chained, .int m_chainMany, .int m_isRound, .ref am_row, .int m_rowMany, .ref am_freeAt, .int m_waitSum, .int m_waitMost, .int m_tipSum, .ref am_bestRow, .int m_claims, .ref am_claimGuest, .ref am_claimYes, .ref am_claimNo, .ref am_waysTo, .ref am_images, .ref am_isKept, .int m_imageAt])), (am_pegKind, .inl (cyI, 24, .inl m_pegKind)), (am_pegWalk, .inl (cyI, 24, .inl m_pegWalk)), (am_oddsOf, .inl (cyI, 12, .inl m_oddsOf)), (am_singles, .inl (cyI, 5, .inl m_singles)), (am_text, .inl (cyI, 240, .inl m_text)), (am_readKind, .inl (cyI, 24, .inl m_readKind)), (am_readWalk, .inl (cyI, 24, .inl m_readWalk)), (am_readOdds, .inl (cyI, 12, .inl m_readOdds)), (am_readSingle, .inl (cyI, 5, .inl m_readSingle)), (am_hangs, .inl (cyI, 24, .inl m_hangs)), (am_sorts, .inl (cyI, 16, .inl m_sorts)), (am_kinds, .inl (cyI, 16, .inl m_kinds)), (am_tips, .inl (cyI, 16, .inl m_tips)), (am_marks, .inl (cyI, 16, .inl m_marks)), (am_brasses, .inl (cyI, 16, .inl m_brasses)), (am_has, .inl (cyI, 16, .inl m_has)), (am_hungBy, .inl (cyI, 16, .inl m_hungBy)), (am_planned, .inl (cyI, 16, .inl m_planned)), (am_isTaken, .inl (cyZ, 24, .inl m_isTaken)), (am_plays, .inl (cyI, 60, .inl m_plays)), (am_weathers, .inl (cyI, 60, .inl m_weathers)), (am_lefts, .inl (cyI, 180, .inl m_lefts)), (am_eventRow, .inl (cyI, 420, .inl m_eventRow)), (am_chained, .inl (cyI, 17, .inl m_chained)), (am_row, .inl (cyI, 16, .inl m_row)), (am_freeAt, .inl (cyI, 4, .inl m_freeAt)), (am_bestRow, .inl (cyI, 7, .inl m_bestRow)), (am_claimGuest, .inl (cyI, 6, .inl m_claimGuest)), (am_claimYes, .inl (cyI, 6, .inl m_claimYes)), (am_claimNo, .inl (cyI, 6, .inl m_claimNo)), (am_waysTo, .inl (cyJ, 64, .inr (.inl m_waysTo))), (am_images, .inl (cyI, 1800, .inl m_images)), (am_isKept, .inl (cyZ, 2, .inl m_isKept))] H := hP
  have hD : va_D (fun q : Nat => s.heap.size ≤ q) [(ak, .inr (10, [.ref ah, .ref ar, .ref aw, .ref az, .ref ao, .ref ap, .ref au, .ref aq, .int k_nightPlay, .int k_nightWeather])), (aw, .inr (4, [.ref ag, .ref ae, .ref ac, .ref an, .int w_kept])), (ag, .inr (2, [.int g_number, .ref ag_sort, .ref ag_kind, .ref ag_tip, .ref ag_marks, .ref ag_brass, .ref ag_peg, .ref ag_has])), (ag_sort, .inl (cyI, 16, .inl g_sort)), (ag_kind, .inl (cyI, 16, .inl g_kind)), (ag_tip, .inl (cyI, 16, .inl g_tip)), (ag_marks, .inl (cyI, 16, .inl g_marks)), (ag_brass, .inl (cyI, 16, .inl g_brass)), (ag_peg, .inl (cyI, 16, .inl g_peg)), (ag_has, .inl (cyI, 16, .inl g_has)), (ae, .inr (1, [.int e_number, .ref ae_facts])), (ae_facts, .inl (cyI, 420, .inl e_facts)), (ac, .inr (0, [.int c_number, .ref ac_guest, .ref ac_yes, .ref ac_no])), (ac_guest, .inl (cyI, 6, .inl c_guest)), (ac_yes, .inl (cyI, 6, .inl c_yes)), (ac_no, .inl (cyI, 6, .inl c_no)), (an, .inr (6, [.int n_number, .ref an_left])), (an_left, .inl (cyI, 24, .inl n_left)), (az, .inr (4, [.ref azg, .ref aze, .ref azc, .ref azn, .int z_kept])), (azg, .inr (2, [.int zg_number, .ref azg_sort, .ref azg_kind, .ref azg_tip, .ref azg_marks, .ref azg_brass, .ref azg_peg, .ref azg_has])), (azg_sort, .inl (cyI, 16, .inl zg_sort)), (azg_kind, .inl (cyI, 16, .inl zg_kind)), (azg_tip, .inl (cyI, 16, .inl zg_tip)), (azg_marks, .inl (cyI, 16, .inl zg_marks)), (azg_brass, .inl (cyI, 16, .inl zg_brass)), (azg_peg, .inl (cyI, 16, .inl zg_peg)), (azg_has, .inl (cyI, 16, .inl zg_has)), (aze, .inr (1, [.int ze_number, .ref aze_facts])), (aze_facts, .inl (cyI, 420, .inl ze_facts)), (azc, .inr (0, [.int zc_number, .ref azc_guest, .ref azc_yes, .ref azc_no])), (azc_guest, .inl (cyI, 6, .inl zc_guest)), (azc_yes, .inl (cyI, 6, .inl zc_yes)), (azc_no, .inl (cyI, 6, .inl zc_no)), (azn, .inr (6, [.int zn_number, .ref azn_left])), (azn_left, .inl (cyI, 24, .inl zn_left)), (ao, .inr (4, [.ref aog, .ref aoe, .ref aoc, .ref aon, .int o_kept])), (aog, .inr (2, [.int og_number, .ref aog_sort, .ref aog_kind, .ref aog_tip, .ref aog_marks, .ref aog_brass, .ref aog_peg, .ref aog_has])), (aog_sort, .inl (cyI, 16, .inl og_sort)), (aog_kind, .inl (cyI, 16, .inl og_kind)), (aog_tip, .inl (cyI, 16, .inl og_tip)), (aog_marks, .inl (cyI, 16, .inl og_marks)), (aog_brass, .inl (cyI, 16, .inl og_brass)), (aog_peg, .inl (cyI, 16, .inl og_peg)), (aog_has, .inl (cyI, 16, .inl og_has)), (aoe, .inr (1, [.int oe_number, .ref aoe_facts])), (aoe_facts, .inl (cyI, 420, .inl oe_facts)), (aoc, .inr (0, [.int oc_number, .ref aoc_guest, .ref aoc_yes, .ref aoc_no])), (aoc_guest, .inl (cyI, 6, .inl oc_guest)), (aoc_yes, .inl (cyI, 6, .inl oc_yes)), (aoc_no, .inl (cyI, 6, .inl oc_no)), (aon, .inr (6, [.int on_number, .ref aon_left])), (aon_left, .inl (cyI, 24, .inl on_left)), (ah, .inr (3, [.ref ah_kind, .ref ah_walk, .ref ah_share, .ref ah_weight, .int h_pegs, .int h_ticks, .int h_loss])), (ah_kind, .inl (cyI, 24, .inl h_kind)), (ah_walk, .inl (cyI, 24, .inl h_walk)), (ah_share, .inl (cyI, 12, .inl h_share)), (ah_weight, .inl (cyI, 3, .inl h_weight)), (ar, .inr (8, [.ref ar_text, .int r_length, .int r_place, .int r_failure, .int r_at, .int r_firstFigure, .int r_toldBefore, .ref ad])), (ar_text, .inl (cyB, 240, .inl r_text)), (ad, .inr (3, [.ref ad_kind, .ref ad_walk, .ref ad_share, .ref ad_weight, .int d_pegs, .int d_ticks, .int d_loss])), (ad_kind, .inl (cyI, 24, .inl d_kind)), (ad_walk, .inl (cyI, 24, .inl d_walk)), (ad_share, .inl (cyI, 12, .inl d_share)), (ad_weight, .inl (cyI, 3, .inl d_weight)), (ap, .inr (7, [.ref ap_expected, .ref ap_pegFor, .ref ap_taken, .int p_sum])), (ap_expected, .inl (cyI, 16, .inl p_expected)), (ap_pegFor, .inl (cyI, 16, .inl p_pegFor)), (ap_taken, .inl (cyZ, 24, .inl p_taken)), (au, .inr (9, [.ref au_ticks, .ref au_tip, .ref au_row, .ref au_freeAt, .ref au_waits, .ref au_greatest, .ref au_tips, .ref au_best, .int u_size, .int u_loss, .int u_bestTips, .int u_bestWaits])), (au_ticks, .inl (cyI, 16, .inl u_ticks)), (au_tip, .inl (cyI, 16, .inl u_tip)), (au_row, .inl (cyI, 16, .inl u_row)), (au_freeAt, .inl (cyI, 68, .inl u_freeAt)), (au_waits, .inl (cyI, 17, .inl u_waits)), (au_greatest, .inl (cyI, 17, .inl u_greatest)), (au_tips, .inl (cyI, 17, .inl u_tips)), (au_best, .inl (cyI, 7, .inl u_best)), (aq, .inr (5, [.ref aq_fitting, .ref aq_waysOf, .int q_claims])), (aq_fitting, .inl (cyI, 6, .inl q_fitting)), (aq_waysOf, .inl (cyJ, 64, .inr (.inl q_waysOf))), (am, .inr (11, [.int m_pegs, .ref am_pegKind, .ref am_pegWalk, .ref am_oddsOf, .ref am_singles, .int m_halls, .ref am_text, .int m_texted, .int m_faultPlace, .int m_at0, .long m_word, .int m_wordEnd, .int m_number, .int m_numberAt, .int m_readPegs, .ref am_readKind, .ref am_readWalk, .ref am_readOdds, .ref am_readSingle, .int m_toldSet, .int m_sortSet, .ref am_hangs, .int m_guests, .ref am_sorts, .ref am_kinds, .ref am_tips, .ref am_marks, .ref am_brasses, .ref am_has, .ref am_hungBy, .int m_nightPlay, .int m_nightWeather, .ref am_planned, .ref am_isTaken, .int m_nights, .ref am_plays, .ref am_weathers, .ref am_lefts, .int m_events, .ref am_eventRow, .ref am_chained, .int m_chainMany, .int m_isRound, .ref am_row, .int m_rowMany, .ref am_freeAt, .int m_waitSum, .int m_waitMost, .int m_tipSum, .ref am_bestRow, .int m_claims, .ref am_claimGuest, .ref am_claimYes, .ref am_claimNo, .ref am_waysTo, .ref am_images, .ref am_isKept, .int m_imageAt])), (am_pegKind, .inl (cyI, 24, .inl m_pegKind)), (am_pegWalk, .inl (cyI, 24, .inl m_pegWalk)), (am_oddsOf, .inl (cyI, 12, .inl m_oddsOf)), (am_singles, .inl (cyI, 5, .inl m_singles)), (am_text, .inl (cyI, 240, .inl m_text)), (am_readKind, .inl (cyI, 24, .inl m_readKind)), (am_readWalk, .inl (cyI, 24, .inl m_readWalk)), (am_readOdds, .inl (cyI, 12, .inl m_readOdds)), (am_readSingle, .inl (cyI, 5, .inl m_readSingle)), (am_hangs, .inl (cyI, 24, .inl m_hangs)), (am_sorts, .inl (cyI, 16, .inl m_sorts)), (am_kinds, .inl (cyI, 16, .inl m_kinds)), (am_tips, .inl (cyI, 16, .inl m_tips)), (am_marks, .inl (cyI, 16, .inl m_marks)), (am_brasses, .inl (cyI, 16, .inl m_brasses)), (am_has, .inl (cyI, 16, .inl m_has)), (am_hungBy, .inl (cyI, 16, .inl m_hungBy)), (am_planned, .inl (cyI, 16, .inl m_planned)), (am_isTaken, .inl (cyZ, 24, .inl m_isTaken)), (am_plays, .inl (cyI, 60, .inl m_plays)), (am_weathers, .inl (cyI, 60, .inl m_weathers)), (am_lefts, .inl (cyI, 180, .inl m_lefts)), (am_eventRow, .inl (cyI, 420, .inl m_eventRow)), (am_chained, .inl (cyI, 17, .inl m_chained)), (am_row, .inl (cyI, 16, .inl m_row)), (am_freeAt, .inl (cyI, 4, .inl m_freeAt)), (am_bestRow, .inl (cyI, 7, .inl m_bestRow)), (am_claimGuest, .inl (cyI, 6, .inl m_claimGuest)), (am_claimYes, .inl (cyI, 6, .inl m_claimYes)), (am_claimNo, .inl (cyI, 6, .inl m_claimNo)), (am_waysTo, .inl (cyJ, 64, .inr (.inl m_waysTo))), (am_images, .inl (cyI, 1800, .inl m_images)), (am_isKept, .inl (cyZ, 2, .inl m_isKept))] := hD
  refine lv_astore_n (lv' := [(2, .ref am), (1, .ref ak), (0, .ref b)]) hx hb (nq_d dL_law_0_g (n := 7) rfl) rfl hl (by decide) rfl (fun ls hl => ?_)
  refine lv_iconst (v := (0 : Int32)) hx hb (nq_d dL_law_0_g (n := 8) rfl) (by decide) ?_
  refine lv_istore_n (lv' := [(3, .int 0), (2, .ref am), (1, .ref ak), (0, .ref b)]) hx hb (nq_d dL_law_0_g (n := 9) rfl) rfl hl (by decide) rfl (fun ls hl => ?_)
  refine W.widen (k := 114) (n := 5754) (Nat.le_of_ble_eq_true rfl) (Nat.le_of_ble_eq_true rfl) ?_
  exact law_loop hL C0 hNw hT hK I h0 h1 h2 h3 h4 h5 h6 h7 h8 h9 h10 h11 h12 h13 h14 h15 h16 h17 h18 h19 h20 h21 h22 h23 h24 h25 h26 h27 h28 h29 h30 h31 h32 hm _ 0 rfl (by omega) ak aw ag ag_sort ag_kind ag_tip ag_marks ag_brass ag_peg ag_has ae ae_facts ac ac_guest ac_yes ac_no an an_left az azg azg_sort azg_kind azg_tip azg_marks azg_brass azg_peg azg_has aze aze_facts azc azc_guest azc_yes azc_no azn azn_left ao aog aog_sort aog_kind aog_tip aog_marks aog_brass aog_peg aog_has aoe aoe_facts aoc aoc_guest aoc_yes aoc_no aon aon_left ah ah_kind ah_walk ah_share ah_weight ar ar_text ad ad_kind ad_walk ad_share ad_weight ap ap_expected ap_pegFor ap_taken au au_ticks au_tip au_row au_freeAt au_waits au_greatest au_tips au_best aq aq_fitting aq_waysOf am am_pegKind am_pegWalk am_oddsOf am_singles am_text am_readKind am_readWalk am_readOdds am_readSingle am_hangs am_sorts am_kinds am_tips am_marks am_brasses am_has am_hungBy am_planned am_isTaken am_plays am_weathers am_lefts am_eventRow am_chained am_row am_freeAt am_bestRow am_claimGuest am_claimYes am_claimNo am_waysTo am_images am_isKept k_nightPlay k_nightWeather w_kept g_number e_number c_number n_number z_kept zg_number ze_number zc_number zn_number o_kept og_number oe_number oc_number on_number h_pegs h_ticks h_loss r_length r_place r_failure r_at r_firstFigure r_toldBefore d_pegs d_ticks d_loss p_sum u_size u_loss u_bestTips u_bestWaits q_claims m_pegs m_halls m_texted m_faultPlace m_at0 m_wordEnd m_number m_numberAt m_readPegs m_toldSet m_sortSet m_guests m_nightPlay m_nightWeather m_nights m_events m_chainMany m_isRound m_rowMany m_waitSum m_waitMost m_tipSum m_claims m_imageAt m_word g_sort g_kind g_tip g_marks g_brass g_peg g_has e_facts c_guest c_yes c_no n_left zg_sort zg_kind zg_tip zg_marks zg_brass zg_peg zg_has ze_facts zc_guest zc_yes zc_no zn_left og_sort og_kind og_tip og_marks og_brass og_peg og_has oe_facts oc_guest oc_yes oc_no on_left h_kind h_walk h_share h_weight r_text d_kind d_walk d_share d_weight p_expected p_pegFor p_taken u_ticks u_tip u_row u_freeAt u_waits u_greatest u_tips u_best q_fitting m_pegKind m_pegWalk m_oddsOf m_singles m_text m_readKind m_readWalk m_readOdds m_readSingle m_hangs m_sorts m_kinds m_tips m_marks m_brasses m_has m_hungBy m_planned m_isTaken m_plays m_weathers m_lefts m_eventRow m_chained m_row m_freeAt m_bestRow m_claimGuest m_claimYes m_claimNo m_images m_isKept q_waysOf m_waysTo hw _ _ _ hP hD hS (lv_sub hl [3, 2, 1, 0] rfl)
