/-! the invariant of all the law, its cases (totality) -/
def cA (gn : Int) (gt : Int → Int) (en cn nn : Int) (L : Int → Int) : Prop := cG gn gt ∧ (0 ≤ en ∧ en ≤ 60) ∧ (0 ≤ cn ∧ cn ≤ 6) ∧ cN nn L
def II (i : Nat) : lwI := fun k_nightPlay k_nightWeather w_kept g_number g_sort g_kind g_tip g_marks g_brass g_peg g_has e_number e_facts c_number c_guest c_yes c_no n_number n_left z_kept zg_number zg_sort zg_kind zg_tip zg_marks zg_brass zg_peg zg_has ze_number ze_facts zc_number zc_guest zc_yes zc_no zn_number zn_left o_kept og_number og_sort og_kind og_tip og_marks og_brass og_peg og_has oe_number oe_facts oc_number oc_guest oc_yes oc_no on_number on_left h_pegs h_ticks h_loss h_kind h_walk h_share h_weight r_length r_place r_failure r_at r_firstFigure r_toldBefore r_text d_pegs d_ticks d_loss d_kind d_walk d_share d_weight p_sum p_expected p_pegFor p_taken u_size u_loss u_bestTips u_bestWaits u_ticks u_tip u_row u_freeAt u_waits u_greatest u_tips u_best q_claims q_fitting q_waysOf m_pegs m_halls m_texted m_faultPlace m_at0 m_word m_wordEnd m_number m_numberAt m_readPegs m_toldSet m_sortSet m_guests m_nightPlay m_nightWeather m_nights m_events m_chainMany m_isRound m_rowMany m_waitSum m_waitMost m_tipSum m_claims m_imageAt m_pegKind m_pegWalk m_oddsOf m_singles m_text m_readKind m_readWalk m_readOdds m_readSingle m_hangs m_sorts m_kinds m_tips m_marks m_brasses m_has m_hungBy m_planned m_isTaken m_plays m_weathers m_lefts m_eventRow m_chained m_row m_freeAt m_bestRow m_claimGuest m_claimYes m_claimNo m_waysTo m_images m_isKept => (cA g_number g_tip e_number c_number n_number n_left) ∧ (cA zg_number zg_tip ze_number zc_number zn_number zn_left) ∧ (cA og_number og_tip oe_number oc_number on_number on_left) ∧ (dI 0 h_pegs h_ticks h_loss h_walk h_share h_weight) ∧ (0 ≤ d_pegs ∧ d_pegs ≤ 24) ∧ (0 ≤ r_length ∧ r_length ≤ 240) ∧ (cP p_expected) ∧ (uI u_loss u_ticks u_tip) ∧ (uA u_freeAt) ∧ (uW u_waits u_greatest u_tips) ∧ (rI 0 m_pegs m_pegWalk m_oddsOf m_singles) ∧ (0 ≤ m_halls ∧ m_halls ≤ (i : Int) + 1) ∧ (0 ≤ m_texted ∧ m_texted ≤ 240) ∧ (∀ k, 0 ≤ k → k < 240 → 0 ≤ m_text k ∧ m_text k ≤ 255) ∧ (0 ≤ m_number ∧ m_number ≤ 100009) ∧ (mF m_guests m_events m_claims m_nights m_sorts m_tips m_has m_hungBy m_hangs m_eventRow m_claimGuest m_lefts) ∧ (∀ x, 0 ≤ x → x ≤ 1 → m_isKept x ≠ 0 → mIm (900 * x) m_images) ∧ (tx r_length r_text m_text) ∧ (r_length = m_texted) ∧ (r_place = m_faultPlace) ∧ (cR h_pegs h_ticks h_loss h_kind h_walk h_share h_weight m_pegs m_pegKind m_pegWalk m_oddsOf m_singles) ∧ (RS m_pegs m_pegKind g_number g_sort g_kind g_tip g_marks g_brass g_peg g_has e_number e_facts c_number c_guest c_yes c_no n_number n_left m_guests m_sorts m_kinds m_tips m_marks m_brasses m_has m_hungBy m_hangs m_events m_eventRow m_claims m_claimGuest m_claimYes m_claimNo m_nights m_plays m_weathers m_lefts) ∧ (RI z_kept (m_isKept 0) (m_images (900 * 0)) m_halls (RSb m_pegs m_pegKind zg_number zg_sort zg_kind zg_tip zg_marks zg_brass zg_peg zg_has ze_number ze_facts zc_number zc_guest zc_yes zc_no zn_number zn_left (900 * 0) m_images)) ∧ (RI o_kept (m_isKept 1) (m_images (900 * 1)) m_halls (RSb m_pegs m_pegKind og_number og_sort og_kind og_tip og_marks og_brass og_peg og_has oe_number oe_facts oc_number oc_guest oc_yes oc_no on_number on_left (900 * 1) m_images)) ∧ (∀ x, 0 ≤ x → x ≤ 1 → m_isKept x ≠ 0 → m_images (900 * x) ≤ m_halls)
theorem II_mk {i : Nat} {k_nightPlay : Int} {k_nightWeather : Int} {w_kept : Int} {g_number : Int} {g_sort : (Int → Int)} {g_kind : (Int → Int)} {g_tip : (Int → Int)} {g_marks : (Int → Int)} {g_brass : (Int → Int)} {g_peg : (Int → Int)} {g_has : (Int → Int)} {e_number : Int} {e_facts : (Int → Int)} {c_number : Int} {c_guest : (Int → Int)} {c_yes : (Int → Int)} {c_no : (Int → Int)} {n_number : Int} {n_left : (Int → Int)} {z_kept : Int} {zg_number : Int} {zg_sort : (Int → Int)} {zg_kind : (Int → Int)} {zg_tip : (Int → Int)} {zg_marks : (Int → Int)} {zg_brass : (Int → Int)} {zg_peg : (Int → Int)} {zg_has : (Int → Int)} {ze_number : Int} {ze_facts : (Int → Int)} {zc_number : Int} {zc_guest : (Int → Int)} {zc_yes : (Int → Int)} {zc_no : (Int → Int)} {zn_number : Int} {zn_left : (Int → Int)} {o_kept : Int} {og_number : Int} {og_sort : (Int → Int)} {og_kind : (Int → Int)} {og_tip : (Int → Int)} {og_marks : (Int → Int)} {og_brass : (Int → Int)} {og_peg : (Int → Int)} {og_has : (Int → Int)} {oe_number : Int} {oe_facts : (Int → Int)} {oc_number : Int} {oc_guest : (Int → Int)} {oc_yes : (Int → Int)} {oc_no : (Int → Int)} {on_number : Int} {on_left : (Int → Int)} {h_pegs : Int} {h_ticks : Int} {h_loss : Int} {h_kind : (Int → Int)} {h_walk : (Int → Int)} {h_share : (Int → Int)} {h_weight : (Int → Int)} {r_length : Int} {r_place : Int} {r_failure : Int} {r_at : Int} {r_firstFigure : Int} {r_toldBefore : Int} {r_text : (Int → Int)} {d_pegs : Int} {d_ticks : Int} {d_loss : Int} {d_kind : (Int → Int)} {d_walk : (Int → Int)} {d_share : (Int → Int)} {d_weight : (Int → Int)} {p_sum : Int} {p_expected : (Int → Int)} {p_pegFor : (Int → Int)} {p_taken : (Int → Int)} {u_size : Int} {u_loss : Int} {u_bestTips : Int} {u_bestWaits : Int} {u_ticks : (Int → Int)} {u_tip : (Int → Int)} {u_row : (Int → Int)} {u_freeAt : (Int → Int)} {u_waits : (Int → Int)} {u_greatest : (Int → Int)} {u_tips : (Int → Int)} {u_best : (Int → Int)} {q_claims : Int} {q_fitting : (Int → Int)} {q_waysOf : (Int → Int)} {m_pegs : Int} {m_halls : Int} {m_texted : Int} {m_faultPlace : Int} {m_at0 : Int} {m_word : Int} {m_wordEnd : Int} {m_number : Int} {m_numberAt : Int} {m_readPegs : Int} {m_toldSet : Int} {m_sortSet : Int} {m_guests : Int} {m_nightPlay : Int} {m_nightWeather : Int} {m_nights : Int} {m_events : Int} {m_chainMany : Int} {m_isRound : Int} {m_rowMany : Int} {m_waitSum : Int} {m_waitMost : Int} {m_tipSum : Int} {m_claims : Int} {m_imageAt : Int} {m_pegKind : (Int → Int)} {m_pegWalk : (Int → Int)} {m_oddsOf : (Int → Int)} {m_singles : (Int → Int)} {m_text : (Int → Int)} {m_readKind : (Int → Int)} {m_readWalk : (Int → Int)} {m_readOdds : (Int → Int)} {m_readSingle : (Int → Int)} {m_hangs : (Int → Int)} {m_sorts : (Int → Int)} {m_kinds : (Int → Int)} {m_tips : (Int → Int)} {m_marks : (Int → Int)} {m_brasses : (Int → Int)} {m_has : (Int → Int)} {m_hungBy : (Int → Int)} {m_planned : (Int → Int)} {m_isTaken : (Int → Int)} {m_plays : (Int → Int)} {m_weathers : (Int → Int)} {m_lefts : (Int → Int)} {m_eventRow : (Int → Int)} {m_chained : (Int → Int)} {m_row : (Int → Int)} {m_freeAt : (Int → Int)} {m_bestRow : (Int → Int)} {m_claimGuest : (Int → Int)} {m_claimYes : (Int → Int)} {m_claimNo : (Int → Int)} {m_waysTo : (Int → Int)} {m_images : (Int → Int)} {m_isKept : (Int → Int)} (c1 : cA g_number g_tip e_number c_number n_number n_left) (c2 : cA zg_number zg_tip ze_number zc_number zn_number zn_left) (c3 : cA og_number og_tip oe_number oc_number on_number on_left) (c4 : dI 0 h_pegs h_ticks h_loss h_walk h_share h_weight) (c5 : 0 ≤ d_pegs ∧ d_pegs ≤ 24) (c6 : 0 ≤ r_length ∧ r_length ≤ 240) (c7 : cP p_expected) (c8 : uI u_loss u_ticks u_tip) (c9 : uA u_freeAt) (c10 : uW u_waits u_greatest u_tips) (m1 : rI 0 m_pegs m_pegWalk m_oddsOf m_singles) (m2 : 0 ≤ m_halls ∧ m_halls ≤ (i : Int) + 1) (m3 : 0 ≤ m_texted ∧ m_texted ≤ 240) (m4 : ∀ k, 0 ≤ k → k < 240 → 0 ≤ m_text k ∧ m_text k ≤ 255) (m5 : 0 ≤ m_number ∧ m_number ≤ 100009) (m6 : mF m_guests m_events m_claims m_nights m_sorts m_tips m_has m_hungBy m_hangs m_eventRow m_claimGuest m_lefts) (m7 : ∀ x, 0 ≤ x → x ≤ 1 → m_isKept x ≠ 0 → mIm (900 * x) m_images) (r1 : tx r_length r_text m_text) (r2 : r_length = m_texted) (r3 : r_place = m_faultPlace) (r4 : cR h_pegs h_ticks h_loss h_kind h_walk h_share h_weight m_pegs m_pegKind m_pegWalk m_oddsOf m_singles) (r5 : RS m_pegs m_pegKind g_number g_sort g_kind g_tip g_marks g_brass g_peg g_has e_number e_facts c_number c_guest c_yes c_no n_number n_left m_guests m_sorts m_kinds m_tips m_marks m_brasses m_has m_hungBy m_hangs m_events m_eventRow m_claims m_claimGuest m_claimYes m_claimNo m_nights m_plays m_weathers m_lefts) (r6 : RI z_kept (m_isKept 0) (m_images (900 * 0)) m_halls (RSb m_pegs m_pegKind zg_number zg_sort zg_kind zg_tip zg_marks zg_brass zg_peg zg_has ze_number ze_facts zc_number zc_guest zc_yes zc_no zn_number zn_left (900 * 0) m_images)) (r7 : RI o_kept (m_isKept 1) (m_images (900 * 1)) m_halls (RSb m_pegs m_pegKind og_number og_sort og_kind og_tip og_marks og_brass og_peg og_has oe_number oe_facts oc_number oc_guest oc_yes oc_no on_number on_left (900 * 1) m_images)) (r8 : ∀ x, 0 ≤ x → x ≤ 1 → m_isKept x ≠ 0 → m_images (900 * x) ≤ m_halls) : II i k_nightPlay k_nightWeather w_kept g_number g_sort g_kind g_tip g_marks g_brass g_peg g_has e_number e_facts c_number c_guest c_yes c_no n_number n_left z_kept zg_number zg_sort zg_kind zg_tip zg_marks zg_brass zg_peg zg_has ze_number ze_facts zc_number zc_guest zc_yes zc_no zn_number zn_left o_kept og_number og_sort og_kind og_tip og_marks og_brass og_peg og_has oe_number oe_facts oc_number oc_guest oc_yes oc_no on_number on_left h_pegs h_ticks h_loss h_kind h_walk h_share h_weight r_length r_place r_failure r_at r_firstFigure r_toldBefore r_text d_pegs d_ticks d_loss d_kind d_walk d_share d_weight p_sum p_expected p_pegFor p_taken u_size u_loss u_bestTips u_bestWaits u_ticks u_tip u_row u_freeAt u_waits u_greatest u_tips u_best q_claims q_fitting q_waysOf m_pegs m_halls m_texted m_faultPlace m_at0 m_word m_wordEnd m_number m_numberAt m_readPegs m_toldSet m_sortSet m_guests m_nightPlay m_nightWeather m_nights m_events m_chainMany m_isRound m_rowMany m_waitSum m_waitMost m_tipSum m_claims m_imageAt m_pegKind m_pegWalk m_oddsOf m_singles m_text m_readKind m_readWalk m_readOdds m_readSingle m_hangs m_sorts m_kinds m_tips m_marks m_brasses m_has m_hungBy m_planned m_isTaken m_plays m_weathers m_lefts m_eventRow m_chained m_row m_freeAt m_bestRow m_claimGuest m_claimYes m_claimNo m_waysTo m_images m_isKept := ⟨c1, c2, c3, c4, c5, c6, c7, c8, c9, c10, m1, m2, m3, m4, m5, m6, m7, r1, r2, r3, r4, r5, r6, r7, r8⟩
theorem II_e {i : Nat} {k_nightPlay : Int} {k_nightWeather : Int} {w_kept : Int} {g_number : Int} {g_sort : (Int → Int)} {g_kind : (Int → Int)} {g_tip : (Int → Int)} {g_marks : (Int → Int)} {g_brass : (Int → Int)} {g_peg : (Int → Int)} {g_has : (Int → Int)} {e_number : Int} {e_facts : (Int → Int)} {c_number : Int} {c_guest : (Int → Int)} {c_yes : (Int → Int)} {c_no : (Int → Int)} {n_number : Int} {n_left : (Int → Int)} {z_kept : Int} {zg_number : Int} {zg_sort : (Int → Int)} {zg_kind : (Int → Int)} {zg_tip : (Int → Int)} {zg_marks : (Int → Int)} {zg_brass : (Int → Int)} {zg_peg : (Int → Int)} {zg_has : (Int → Int)} {ze_number : Int} {ze_facts : (Int → Int)} {zc_number : Int} {zc_guest : (Int → Int)} {zc_yes : (Int → Int)} {zc_no : (Int → Int)} {zn_number : Int} {zn_left : (Int → Int)} {o_kept : Int} {og_number : Int} {og_sort : (Int → Int)} {og_kind : (Int → Int)} {og_tip : (Int → Int)} {og_marks : (Int → Int)} {og_brass : (Int → Int)} {og_peg : (Int → Int)} {og_has : (Int → Int)} {oe_number : Int} {oe_facts : (Int → Int)} {oc_number : Int} {oc_guest : (Int → Int)} {oc_yes : (Int → Int)} {oc_no : (Int → Int)} {on_number : Int} {on_left : (Int → Int)} {h_pegs : Int} {h_ticks : Int} {h_loss : Int} {h_kind : (Int → Int)} {h_walk : (Int → Int)} {h_share : (Int → Int)} {h_weight : (Int → Int)} {r_length : Int} {r_place : Int} {r_failure : Int} {r_at : Int} {r_firstFigure : Int} {r_toldBefore : Int} {r_text : (Int → Int)} {d_pegs : Int} {d_ticks : Int} {d_loss : Int} {d_kind : (Int → Int)} {d_walk : (Int → Int)} {d_share : (Int → Int)} {d_weight : (Int → Int)} {p_sum : Int} {p_expected : (Int → Int)} {p_pegFor : (Int → Int)} {p_taken : (Int → Int)} {u_size : Int} {u_loss : Int} {u_bestTips : Int} {u_bestWaits : Int} {u_ticks : (Int → Int)} {u_tip : (Int → Int)} {u_row : (Int → Int)} {u_freeAt : (Int → Int)} {u_waits : (Int → Int)} {u_greatest : (Int → Int)} {u_tips : (Int → Int)} {u_best : (Int → Int)} {q_claims : Int} {q_fitting : (Int → Int)} {q_waysOf : (Int → Int)} {m_pegs : Int} {m_halls : Int} {m_texted : Int} {m_faultPlace : Int} {m_at0 : Int} {m_word : Int} {m_wordEnd : Int} {m_number : Int} {m_numberAt : Int} {m_readPegs : Int} {m_toldSet : Int} {m_sortSet : Int} {m_guests : Int} {m_nightPlay : Int} {m_nightWeather : Int} {m_nights : Int} {m_events : Int} {m_chainMany : Int} {m_isRound : Int} {m_rowMany : Int} {m_waitSum : Int} {m_waitMost : Int} {m_tipSum : Int} {m_claims : Int} {m_imageAt : Int} {m_pegKind : (Int → Int)} {m_pegWalk : (Int → Int)} {m_oddsOf : (Int → Int)} {m_singles : (Int → Int)} {m_text : (Int → Int)} {m_readKind : (Int → Int)} {m_readWalk : (Int → Int)} {m_readOdds : (Int → Int)} {m_readSingle : (Int → Int)} {m_hangs : (Int → Int)} {m_sorts : (Int → Int)} {m_kinds : (Int → Int)} {m_tips : (Int → Int)} {m_marks : (Int → Int)} {m_brasses : (Int → Int)} {m_has : (Int → Int)} {m_hungBy : (Int → Int)} {m_planned : (Int → Int)} {m_isTaken : (Int → Int)} {m_plays : (Int → Int)} {m_weathers : (Int → Int)} {m_lefts : (Int → Int)} {m_eventRow : (Int → Int)} {m_chained : (Int → Int)} {m_row : (Int → Int)} {m_freeAt : (Int → Int)} {m_bestRow : (Int → Int)} {m_claimGuest : (Int → Int)} {m_claimYes : (Int → Int)} {m_claimNo : (Int → Int)} {m_waysTo : (Int → Int)} {m_images : (Int → Int)} {m_isKept : (Int → Int)} (h : II i k_nightPlay k_nightWeather w_kept g_number g_sort g_kind g_tip g_marks g_brass g_peg g_has e_number e_facts c_number c_guest c_yes c_no n_number n_left z_kept zg_number zg_sort zg_kind zg_tip zg_marks zg_brass zg_peg zg_has ze_number ze_facts zc_number zc_guest zc_yes zc_no zn_number zn_left o_kept og_number og_sort og_kind og_tip og_marks og_brass og_peg og_has oe_number oe_facts oc_number oc_guest oc_yes oc_no on_number on_left h_pegs h_ticks h_loss h_kind h_walk h_share h_weight r_length r_place r_failure r_at r_firstFigure r_toldBefore r_text d_pegs d_ticks d_loss d_kind d_walk d_share d_weight p_sum p_expected p_pegFor p_taken u_size u_loss u_bestTips u_bestWaits u_ticks u_tip u_row u_freeAt u_waits u_greatest u_tips u_best q_claims q_fitting q_waysOf m_pegs m_halls m_texted m_faultPlace m_at0 m_word m_wordEnd m_number m_numberAt m_readPegs m_toldSet m_sortSet m_guests m_nightPlay m_nightWeather m_nights m_events m_chainMany m_isRound m_rowMany m_waitSum m_waitMost m_tipSum m_claims m_imageAt m_pegKind m_pegWalk m_oddsOf m_singles m_text m_readKind m_readWalk m_readOdds m_readSingle m_hangs m_sorts m_kinds m_tips m_marks m_brasses m_has m_hungBy m_planned m_isTaken m_plays m_weathers m_lefts m_eventRow m_chained m_row m_freeAt m_bestRow m_claimGuest m_claimYes m_claimNo m_waysTo m_images m_isKept) : (cA g_number g_tip e_number c_number n_number n_left) ∧ (cA zg_number zg_tip ze_number zc_number zn_number zn_left) ∧ (cA og_number og_tip oe_number oc_number on_number on_left) ∧ (dI 0 h_pegs h_ticks h_loss h_walk h_share h_weight) ∧ (0 ≤ d_pegs ∧ d_pegs ≤ 24) ∧ (0 ≤ r_length ∧ r_length ≤ 240) ∧ (cP p_expected) ∧ (uI u_loss u_ticks u_tip) ∧ (uA u_freeAt) ∧ (uW u_waits u_greatest u_tips) ∧ (rI 0 m_pegs m_pegWalk m_oddsOf m_singles) ∧ (0 ≤ m_halls ∧ m_halls ≤ (i : Int) + 1) ∧ (0 ≤ m_texted ∧ m_texted ≤ 240) ∧ (∀ k, 0 ≤ k → k < 240 → 0 ≤ m_text k ∧ m_text k ≤ 255) ∧ (0 ≤ m_number ∧ m_number ≤ 100009) ∧ (mF m_guests m_events m_claims m_nights m_sorts m_tips m_has m_hungBy m_hangs m_eventRow m_claimGuest m_lefts) ∧ (∀ x, 0 ≤ x → x ≤ 1 → m_isKept x ≠ 0 → mIm (900 * x) m_images) ∧ (tx r_length r_text m_text) ∧ (r_length = m_texted) ∧ (r_place = m_faultPlace) ∧ (cR h_pegs h_ticks h_loss h_kind h_walk h_share h_weight m_pegs m_pegKind m_pegWalk m_oddsOf m_singles) ∧ (RS m_pegs m_pegKind g_number g_sort g_kind g_tip g_marks g_brass g_peg g_has e_number e_facts c_number c_guest c_yes c_no n_number n_left m_guests m_sorts m_kinds m_tips m_marks m_brasses m_has m_hungBy m_hangs m_events m_eventRow m_claims m_claimGuest m_claimYes m_claimNo m_nights m_plays m_weathers m_lefts) ∧ (RI z_kept (m_isKept 0) (m_images (900 * 0)) m_halls (RSb m_pegs m_pegKind zg_number zg_sort zg_kind zg_tip zg_marks zg_brass zg_peg zg_has ze_number ze_facts zc_number zc_guest zc_yes zc_no zn_number zn_left (900 * 0) m_images)) ∧ (RI o_kept (m_isKept 1) (m_images (900 * 1)) m_halls (RSb m_pegs m_pegKind og_number og_sort og_kind og_tip og_marks og_brass og_peg og_has oe_number oe_facts oc_number oc_guest oc_yes oc_no on_number on_left (900 * 1) m_images)) ∧ (∀ x, 0 ≤ x → x ≤ 1 → m_isKept x ≠ 0 → m_images (900 * x) ≤ m_halls) := h
theorem st_Hkeep {g_number : Int} {g_sort : (Int → Int)} {g_kind : (Int → Int)} {g_tip : (Int → Int)} {g_marks : (Int → Int)} {g_brass : (Int → Int)} {g_peg : (Int → Int)} {g_has : (Int → Int)} {e_number : Int} {e_facts : (Int → Int)} {c_number : Int} {c_guest : (Int → Int)} {c_yes : (Int → Int)} {c_no : (Int → Int)} {n_number : Int} {n_left : (Int → Int)} {z_kept : Int} {zg_number : Int} {zg_sort : (Int → Int)} {zg_kind : (Int → Int)} {zg_tip : (Int → Int)} {zg_marks : (Int → Int)} {zg_brass : (Int → Int)} {zg_peg : (Int → Int)} {zg_has : (Int → Int)} {ze_number : Int} {ze_facts : (Int → Int)} {zc_number : Int} {zc_guest : (Int → Int)} {zc_yes : (Int → Int)} {zc_no : (Int → Int)} {zn_number : Int} {zn_left : (Int → Int)} {o_kept : Int} {og_number : Int} {og_sort : (Int → Int)} {og_kind : (Int → Int)} {og_tip : (Int → Int)} {og_marks : (Int → Int)} {og_brass : (Int → Int)} {og_peg : (Int → Int)} {og_has : (Int → Int)} {oe_number : Int} {oe_facts : (Int → Int)} {oc_number : Int} {oc_guest : (Int → Int)} {oc_yes : (Int → Int)} {oc_no : (Int → Int)} {on_number : Int} {on_left : (Int → Int)} {x1 : Int} {Q : Int → Int → Int → (Int → Int) → (Int → Int) → (Int → Int) → (Int → Int) → (Int → Int) → (Int → Int) → (Int → Int) → Int → (Int → Int) → Int → (Int → Int) → (Int → Int) → (Int → Int) → Int → (Int → Int) → Int → Int → (Int → Int) → (Int → Int) → (Int → Int) → (Int → Int) → (Int → Int) → (Int → Int) → (Int → Int) → Int → (Int → Int) → Int → (Int → Int) → (Int → Int) → (Int → Int) → Int → (Int → Int) → Prop} (h0 : ¬ (0 ≤ x1 ∧ x1 ≤ 1) → Q (-1001) z_kept zg_number zg_sort zg_kind zg_tip zg_marks zg_brass zg_peg zg_has ze_number ze_facts zc_number zc_guest zc_yes zc_no zn_number zn_left o_kept og_number og_sort og_kind og_tip og_marks og_brass og_peg og_has oe_number oe_facts oc_number oc_guest oc_yes oc_no on_number on_left) (h1 : x1 = 0 → Q 1 1 g_number g_sort g_kind g_tip g_marks g_brass g_peg g_has e_number e_facts c_number c_guest c_yes c_no n_number n_left o_kept og_number og_sort og_kind og_tip og_marks og_brass og_peg og_has oe_number oe_facts oc_number oc_guest oc_yes oc_no on_number on_left) (h2 : x1 = 1 → Q 1 z_kept zg_number zg_sort zg_kind zg_tip zg_marks zg_brass zg_peg zg_has ze_number ze_facts zc_number zc_guest zc_yes zc_no zn_number zn_left 1 g_number g_sort g_kind g_tip g_marks g_brass g_peg g_has e_number e_facts c_number c_guest c_yes c_no n_number n_left) : nf_H_keep g_number g_sort g_kind g_tip g_marks g_brass g_peg g_has e_number e_facts c_number c_guest c_yes c_no n_number n_left z_kept zg_number zg_sort zg_kind zg_tip zg_marks zg_brass zg_peg zg_has ze_number ze_facts zc_number zc_guest zc_yes zc_no zn_number zn_left o_kept og_number og_sort og_kind og_tip og_marks og_brass og_peg og_has oe_number oe_facts oc_number oc_guest oc_yes oc_no on_number on_left x1 Q := by
  unfold nf_H_keep nf_Image_copyFrom nf_Guests_copyFrom nf_Events_copyFrom nf_Claims_copyFrom nf_Nights_copyFrom
  simp only [ci_m1, ci_m10, ci_m1001, ci_m1002, ci_m1003, ci_m1004, ci_0, ci_1, ci_10, ci_100, ci_1000, ci_10000, ci_101, ci_103, ci_104, ci_105, ci_107, ci_108, ci_110, ci_111, ci_114, ci_115, ci_116, ci_118, ci_119, ci_12, ci_122, ci_1431655765, ci_15, ci_16, ci_2, ci_20, ci_23, ci_24, ci_240, ci_252645135, ci_255, ci_256, ci_3, ci_32, ci_4, ci_420, ci_48, ci_5, ci_5040, ci_57, ci_59, ci_6, ci_60, ci_63, ci_64, ci_7, ci_70, ci_8, ci_858993459, ci_9, ci_900, ci_97, ci_99, ci_999, ci_9999, cl_0, cl_1, cl_10, cl_1000000000000, cl_122, cl_2, cl_2000000000000, cl_23, cl_255, cl_27, cl_3, cl_4, cl_48, cl_57, cl_6, cl_8, cl_96, cl_97, cl_99, cl_999, cl_9999, wL]
  refine sp_imageOf (fun a => cB_t rfl (h0 a)) (fun a => cB_f (by decide) (cB_t rfl (h1 a))) (fun a => cB_f (by decide) (cB_f (by decide) (h2 a)))
theorem st_HgoBack {g_number : Int} {g_sort : (Int → Int)} {g_kind : (Int → Int)} {g_tip : (Int → Int)} {g_marks : (Int → Int)} {g_brass : (Int → Int)} {g_peg : (Int → Int)} {g_has : (Int → Int)} {e_number : Int} {e_facts : (Int → Int)} {c_number : Int} {c_guest : (Int → Int)} {c_yes : (Int → Int)} {c_no : (Int → Int)} {n_number : Int} {n_left : (Int → Int)} {z_kept : Int} {zg_number : Int} {zg_sort : (Int → Int)} {zg_kind : (Int → Int)} {zg_tip : (Int → Int)} {zg_marks : (Int → Int)} {zg_brass : (Int → Int)} {zg_peg : (Int → Int)} {zg_has : (Int → Int)} {ze_number : Int} {ze_facts : (Int → Int)} {zc_number : Int} {zc_guest : (Int → Int)} {zc_yes : (Int → Int)} {zc_no : (Int → Int)} {zn_number : Int} {zn_left : (Int → Int)} {o_kept : Int} {og_number : Int} {og_sort : (Int → Int)} {og_kind : (Int → Int)} {og_tip : (Int → Int)} {og_marks : (Int → Int)} {og_brass : (Int → Int)} {og_peg : (Int → Int)} {og_has : (Int → Int)} {oe_number : Int} {oe_facts : (Int → Int)} {oc_number : Int} {oc_guest : (Int → Int)} {oc_yes : (Int → Int)} {oc_no : (Int → Int)} {on_number : Int} {on_left : (Int → Int)} {x1 : Int} {Q : Int → Int → (Int → Int) → (Int → Int) → (Int → Int) → (Int → Int) → (Int → Int) → (Int → Int) → (Int → Int) → Int → (Int → Int) → Int → (Int → Int) → (Int → Int) → (Int → Int) → Int → (Int → Int) → Prop} (h0 : ∀ r, Q r g_number g_sort g_kind g_tip g_marks g_brass g_peg g_has e_number e_facts c_number c_guest c_yes c_no n_number n_left) (h1 : Q 1 zg_number zg_sort zg_kind zg_tip zg_marks zg_brass zg_peg zg_has ze_number ze_facts zc_number zc_guest zc_yes zc_no zn_number zn_left) (h2 : Q 1 og_number og_sort og_kind og_tip og_marks og_brass og_peg og_has oe_number oe_facts oc_number oc_guest oc_yes oc_no on_number on_left) : nf_H_goBack g_number g_sort g_kind g_tip g_marks g_brass g_peg g_has e_number e_facts c_number c_guest c_yes c_no n_number n_left z_kept zg_number zg_sort zg_kind zg_tip zg_marks zg_brass zg_peg zg_has ze_number ze_facts zc_number zc_guest zc_yes zc_no zn_number zn_left o_kept og_number og_sort og_kind og_tip og_marks og_brass og_peg og_has oe_number oe_facts oc_number oc_guest oc_yes oc_no on_number on_left x1 Q := by
  unfold nf_H_goBack nf_Image_copyFrom nf_Guests_copyFrom nf_Events_copyFrom nf_Claims_copyFrom nf_Nights_copyFrom
  simp only [ci_m1, ci_m10, ci_m1001, ci_m1002, ci_m1003, ci_m1004, ci_0, ci_1, ci_10, ci_100, ci_1000, ci_10000, ci_101, ci_103, ci_104, ci_105, ci_107, ci_108, ci_110, ci_111, ci_114, ci_115, ci_116, ci_118, ci_119, ci_12, ci_122, ci_1431655765, ci_15, ci_16, ci_2, ci_20, ci_23, ci_24, ci_240, ci_252645135, ci_255, ci_256, ci_3, ci_32, ci_4, ci_420, ci_48, ci_5, ci_5040, ci_57, ci_59, ci_6, ci_60, ci_63, ci_64, ci_7, ci_70, ci_8, ci_858993459, ci_9, ci_900, ci_97, ci_99, ci_999, ci_9999, cl_0, cl_1, cl_10, cl_1000000000000, cl_122, cl_2, cl_2000000000000, cl_23, cl_255, cl_27, cl_3, cl_4, cl_48, cl_57, cl_6, cl_8, cl_96, cl_97, cl_99, cl_999, cl_9999, wL]
  refine sp_imageOf (fun a => cB_t rfl (h0 _)) (fun a => cB_f (by decide) (cB_t rfl (cB_i (fun _ => h0 _) (fun _ => h1)))) (fun a => cB_f (by decide) (cB_f (by decide) (cB_i (fun _ => h0 _) (fun _ => h2))))
theorem so_HgoBack {g_number : Int} {g_sort : (Int → Int)} {g_kind : (Int → Int)} {g_tip : (Int → Int)} {g_marks : (Int → Int)} {g_brass : (Int → Int)} {g_peg : (Int → Int)} {g_has : (Int → Int)} {e_number : Int} {e_facts : (Int → Int)} {c_number : Int} {c_guest : (Int → Int)} {c_yes : (Int → Int)} {c_no : (Int → Int)} {n_number : Int} {n_left : (Int → Int)} {z_kept : Int} {zg_number : Int} {zg_sort : (Int → Int)} {zg_kind : (Int → Int)} {zg_tip : (Int → Int)} {zg_marks : (Int → Int)} {zg_brass : (Int → Int)} {zg_peg : (Int → Int)} {zg_has : (Int → Int)} {ze_number : Int} {ze_facts : (Int → Int)} {zc_number : Int} {zc_guest : (Int → Int)} {zc_yes : (Int → Int)} {zc_no : (Int → Int)} {zn_number : Int} {zn_left : (Int → Int)} {o_kept : Int} {og_number : Int} {og_sort : (Int → Int)} {og_kind : (Int → Int)} {og_tip : (Int → Int)} {og_marks : (Int → Int)} {og_brass : (Int → Int)} {og_peg : (Int → Int)} {og_has : (Int → Int)} {oe_number : Int} {oe_facts : (Int → Int)} {oc_number : Int} {oc_guest : (Int → Int)} {oc_yes : (Int → Int)} {oc_no : (Int → Int)} {on_number : Int} {on_left : (Int → Int)} {x1 : Int} {Q : Int → Int → (Int → Int) → (Int → Int) → (Int → Int) → (Int → Int) → (Int → Int) → (Int → Int) → (Int → Int) → Int → (Int → Int) → Int → (Int → Int) → (Int → Int) → (Int → Int) → Int → (Int → Int) → Prop} (h0 : ¬ (0 ≤ x1 ∧ x1 ≤ 1) → Q (-1001) g_number g_sort g_kind g_tip g_marks g_brass g_peg g_has e_number e_facts c_number c_guest c_yes c_no n_number n_left) (h1 : x1 = 0 → z_kept = 0 → Q (-1003) g_number g_sort g_kind g_tip g_marks g_brass g_peg g_has e_number e_facts c_number c_guest c_yes c_no n_number n_left) (h2 : x1 = 0 → z_kept ≠ 0 → Q 1 zg_number zg_sort zg_kind zg_tip zg_marks zg_brass zg_peg zg_has ze_number ze_facts zc_number zc_guest zc_yes zc_no zn_number zn_left) (h3 : x1 = 1 → o_kept = 0 → Q (-1003) g_number g_sort g_kind g_tip g_marks g_brass g_peg g_has e_number e_facts c_number c_guest c_yes c_no n_number n_left) (h4 : x1 = 1 → o_kept ≠ 0 → Q 1 og_number og_sort og_kind og_tip og_marks og_brass og_peg og_has oe_number oe_facts oc_number oc_guest oc_yes oc_no on_number on_left) : nf_H_goBack g_number g_sort g_kind g_tip g_marks g_brass g_peg g_has e_number e_facts c_number c_guest c_yes c_no n_number n_left z_kept zg_number zg_sort zg_kind zg_tip zg_marks zg_brass zg_peg zg_has ze_number ze_facts zc_number zc_guest zc_yes zc_no zn_number zn_left o_kept og_number og_sort og_kind og_tip og_marks og_brass og_peg og_has oe_number oe_facts oc_number oc_guest oc_yes oc_no on_number on_left x1 Q := by
  unfold nf_H_goBack nf_Image_copyFrom nf_Guests_copyFrom nf_Events_copyFrom nf_Claims_copyFrom nf_Nights_copyFrom
  simp only [ci_m1, ci_m10, ci_m1001, ci_m1002, ci_m1003, ci_m1004, ci_0, ci_1, ci_10, ci_100, ci_1000, ci_10000, ci_101, ci_103, ci_104, ci_105, ci_107, ci_108, ci_110, ci_111, ci_114, ci_115, ci_116, ci_118, ci_119, ci_12, ci_122, ci_1431655765, ci_15, ci_16, ci_2, ci_20, ci_23, ci_24, ci_240, ci_252645135, ci_255, ci_256, ci_3, ci_32, ci_4, ci_420, ci_48, ci_5, ci_5040, ci_57, ci_59, ci_6, ci_60, ci_63, ci_64, ci_7, ci_70, ci_8, ci_858993459, ci_9, ci_900, ci_97, ci_99, ci_999, ci_9999, cl_0, cl_1, cl_10, cl_1000000000000, cl_122, cl_2, cl_2000000000000, cl_23, cl_255, cl_27, cl_3, cl_4, cl_48, cl_57, cl_6, cl_8, cl_96, cl_97, cl_99, cl_999, cl_9999, wL]
  refine sp_imageOf (fun a => cB_t rfl (h0 a)) (fun a => cB_f (by decide) (cB_t rfl (cB_i (fun e => h1 a e) (fun e => h2 a e)))) (fun a => cB_f (by decide) (cB_f (by decide) (cB_i (fun e => h3 a e) (fun e => h4 a e))))
theorem hk_0 (i : Nat) (hi : i + 6 ≤ 3072) : lH0 (II i) (II (i + 6)) := by
  unfold lH0
  intro k_nightPlay k_nightWeather w_kept g_number g_sort g_kind g_tip g_marks g_brass g_peg g_has e_number e_facts c_number c_guest c_yes c_no n_number n_left z_kept zg_number zg_sort zg_kind zg_tip zg_marks zg_brass zg_peg zg_has ze_number ze_facts zc_number zc_guest zc_yes zc_no zn_number zn_left o_kept og_number og_sort og_kind og_tip og_marks og_brass og_peg og_has oe_number oe_facts oc_number oc_guest oc_yes oc_no on_number on_left h_pegs h_ticks h_loss h_kind h_walk h_share h_weight r_length r_place r_failure r_at r_firstFigure r_toldBefore r_text d_pegs d_ticks d_loss d_kind d_walk d_share d_weight p_sum p_expected p_pegFor p_taken u_size u_loss u_bestTips u_bestWaits u_ticks u_tip u_row u_freeAt u_waits u_greatest u_tips u_best q_claims q_fitting q_waysOf m_pegs m_halls m_texted m_faultPlace m_at0 m_word m_wordEnd m_number m_numberAt m_readPegs m_toldSet m_sortSet m_guests m_nightPlay m_nightWeather m_nights m_events m_chainMany m_isRound m_rowMany m_waitSum m_waitMost m_tipSum m_claims m_imageAt m_pegKind m_pegWalk m_oddsOf m_singles m_text m_readKind m_readWalk m_readOdds m_readSingle m_hangs m_sorts m_kinds m_tips m_marks m_brasses m_has m_hungBy m_planned m_isTaken m_plays m_weathers m_lefts m_eventRow m_chained m_row m_freeAt m_bestRow m_claimGuest m_claimYes m_claimNo m_waysTo m_images m_isKept hI _ v1 w64 h1 h2
  obtain ⟨c1, c2, c3, c4, c5, c6, c7, c8, c9, c10, m1, m2, m3, m4, m5, m6, m7, r1, r2, r3, r4, r5, r6, r7, r8⟩ := II_e hI
  clear hI
  subst r2
  have e4 := r4.1
  subst e4
  have m2n : 0 ≤ m_halls ∧ m_halls ≤ ((i + 6 : Nat) : Int) + 1 := by omega
  have pq := m1.2.2.2 rfl
  have hpg : 0 ≤ h_pegs ∧ h_pegs ≤ 24 := ⟨m1.1, m1.2.1⟩
  have hgu : 0 ≤ m_guests ∧ m_guests ≤ 16 := ⟨m6.1.1, m6.1.2.1⟩
  have hso : ∀ g, 0 ≤ g → g < 16 → 0 ≤ m_sorts g ∧ m_sorts g ≤ 3 := fun g a b => ⟨(m6.1.2.2.1 g a b).1, (m6.1.2.2.1 g a b).2.1⟩
  have hti : ∀ g, 0 ≤ g → g < 16 → 0 ≤ m_tips g ∧ m_tips g ≤ 99 := fun g a b => ⟨(m6.1.2.2.1 g a b).2.2.1, (m6.1.2.2.1 g a b).2.2.2.1⟩
  have hh : ∀ p, 0 ≤ p → p < 24 → -1 ≤ m_hangs p ∧ m_hangs p < 16 := fun p a b => by
    have := m6.1.2.2.2.2.1 p a b
    omega
  exact sim_feed r1 m4 (fun r n F T t1 t2 => (II_mk c1 c2 c3 c4 c5 t1.1 c7 c8 c9 c10 m1 m2n t1.1 t2 m5 m6 m7 t1 rfl r3 r4 r5 r6 r7 r8))
theorem hk_1 (i : Nat) (hi : i + 6 ≤ 3072) : lH1 (II i) (II (i + 6)) := by
  unfold lH1
  intro k_nightPlay k_nightWeather w_kept g_number g_sort g_kind g_tip g_marks g_brass g_peg g_has e_number e_facts c_number c_guest c_yes c_no n_number n_left z_kept zg_number zg_sort zg_kind zg_tip zg_marks zg_brass zg_peg zg_has ze_number ze_facts zc_number zc_guest zc_yes zc_no zn_number zn_left o_kept og_number og_sort og_kind og_tip og_marks og_brass og_peg og_has oe_number oe_facts oc_number oc_guest oc_yes oc_no on_number on_left h_pegs h_ticks h_loss h_kind h_walk h_share h_weight r_length r_place r_failure r_at r_firstFigure r_toldBefore r_text d_pegs d_ticks d_loss d_kind d_walk d_share d_weight p_sum p_expected p_pegFor p_taken u_size u_loss u_bestTips u_bestWaits u_ticks u_tip u_row u_freeAt u_waits u_greatest u_tips u_best q_claims q_fitting q_waysOf m_pegs m_halls m_texted m_faultPlace m_at0 m_word m_wordEnd m_number m_numberAt m_readPegs m_toldSet m_sortSet m_guests m_nightPlay m_nightWeather m_nights m_events m_chainMany m_isRound m_rowMany m_waitSum m_waitMost m_tipSum m_claims m_imageAt m_pegKind m_pegWalk m_oddsOf m_singles m_text m_readKind m_readWalk m_readOdds m_readSingle m_hangs m_sorts m_kinds m_tips m_marks m_brasses m_has m_hungBy m_planned m_isTaken m_plays m_weathers m_lefts m_eventRow m_chained m_row m_freeAt m_bestRow m_claimGuest m_claimYes m_claimNo m_waysTo m_images m_isKept hI _ 
  obtain ⟨c1, c2, c3, c4, c5, c6, c7, c8, c9, c10, m1, m2, m3, m4, m5, m6, m7, r1, r2, r3, r4, r5, r6, r7, r8⟩ := II_e hI
  clear hI
  subst r2
  have e4 := r4.1
  subst e4
  have m2n : 0 ≤ m_halls ∧ m_halls ≤ ((i + 6 : Nat) : Int) + 1 := by omega
  have pq := m1.2.2.2 rfl
  have hpg : 0 ≤ h_pegs ∧ h_pegs ≤ 24 := ⟨m1.1, m1.2.1⟩
  have hgu : 0 ≤ m_guests ∧ m_guests ≤ 16 := ⟨m6.1.1, m6.1.2.1⟩
  have hso : ∀ g, 0 ≤ g → g < 16 → 0 ≤ m_sorts g ∧ m_sorts g ≤ 3 := fun g a b => ⟨(m6.1.2.2.1 g a b).1, (m6.1.2.2.1 g a b).2.1⟩
  have hti : ∀ g, 0 ≤ g → g < 16 → 0 ≤ m_tips g ∧ m_tips g ≤ 99 := fun g a b => ⟨(m6.1.2.2.1 g a b).2.2.1, (m6.1.2.2.1 g a b).2.2.2.1⟩
  have hh : ∀ p, 0 ≤ p → p < 24 → -1 ≤ m_hangs p ∧ m_hangs p < 16 := fun p a b => by
    have := m6.1.2.2.2.2.1 p a b
    omega
  have hev := r5.1.2.1
  refine so_hall r1 (fun hp => ⟨fun _ => sm_hall ⟨m2.1, by omega⟩ m3 m4 m5 (fun _ => (II_mk c1 c2 c3 c4 c5 c6 c7 c8 c9 c10 m1 m2n m3 m4 m5 m6 m7 r1 rfl r3 r4 r5 r6 r7 r8)) (fun h => by omega), fun h => absurd h (by decide)⟩) (fun hp => ?_)
  have hp2 : m_events ≤ 0 := by omega
  cases e : pHall m_text r_length with
  | inl x =>
    intro hx a' ff' tb' dp' dt' dl' dk' dw' ds' dx' d0 d1
    refine ⟨fun _ => sm_hall ⟨m2.1, by omega⟩ m3 m4 m5 (fun h => by omega) (fun _ => ?_), fun h => absurd h (by decide)⟩
    rw [e]
    intro _ a2 w2 we2 nb2 na2 rp2 ts2 ss2 rk2 rw2 ro2 rs2 n0 n1
    exact (II_mk c1 c2 c3 c4 ⟨d0, d1⟩ ⟨by omega, by omega⟩ c7 c8 c9 c10 m1 m2n ⟨by omega, by omega⟩ m4 ⟨n0, n1⟩ m6 m7 tx_0 rfl rfl r4 r5 r6 r7 r8)
  | inr s =>
    intro hI a' ff' tb' dp' dt' dl' dk' dw' ds' dx' hR
    refine ⟨fun h => absurd h (by decide), fun _ => sm_hall ⟨m2.1, by omega⟩ m3 m4 m5 (fun h => by omega) (fun _ => ?_)⟩
    rw [e]
    intro _ a2 w2 we2 nb2 na2 ts2 ss2 pk2 pw2 oo2 sg2 rk2 rw2 ro2 rs2 n0 n1 hM
    exact (II_mk c1 c2 c3 (dI_g hR hI) ⟨c4.1, c4.2.1⟩ ⟨by omega, by omega⟩ c7 c8 c9 c10 (rI_g hM hI) ⟨by omega, by omega⟩ ⟨by omega, by omega⟩ m4 ⟨n0, n1⟩ m6 m7 tx_0 rfl rfl (cR_m hR hM) (RS_hall hpg.2 m6.1 hp2 r5) (RI_f (r8 0 (by omega) (by omega))) (RI_f (r8 1 (by omega) (by omega))) (fun x a b c => by have := r8 x a b c; omega))
theorem hk_2 (i : Nat) (hi : i + 6 ≤ 3072) : lH2 (II i) (II (i + 6)) := by
  unfold lH2
  intro k_nightPlay k_nightWeather w_kept g_number g_sort g_kind g_tip g_marks g_brass g_peg g_has e_number e_facts c_number c_guest c_yes c_no n_number n_left z_kept zg_number zg_sort zg_kind zg_tip zg_marks zg_brass zg_peg zg_has ze_number ze_facts zc_number zc_guest zc_yes zc_no zn_number zn_left o_kept og_number og_sort og_kind og_tip og_marks og_brass og_peg og_has oe_number oe_facts oc_number oc_guest oc_yes oc_no on_number on_left h_pegs h_ticks h_loss h_kind h_walk h_share h_weight r_length r_place r_failure r_at r_firstFigure r_toldBefore r_text d_pegs d_ticks d_loss d_kind d_walk d_share d_weight p_sum p_expected p_pegFor p_taken u_size u_loss u_bestTips u_bestWaits u_ticks u_tip u_row u_freeAt u_waits u_greatest u_tips u_best q_claims q_fitting q_waysOf m_pegs m_halls m_texted m_faultPlace m_at0 m_word m_wordEnd m_number m_numberAt m_readPegs m_toldSet m_sortSet m_guests m_nightPlay m_nightWeather m_nights m_events m_chainMany m_isRound m_rowMany m_waitSum m_waitMost m_tipSum m_claims m_imageAt m_pegKind m_pegWalk m_oddsOf m_singles m_text m_readKind m_readWalk m_readOdds m_readSingle m_hangs m_sorts m_kinds m_tips m_marks m_brasses m_has m_hungBy m_planned m_isTaken m_plays m_weathers m_lefts m_eventRow m_chained m_row m_freeAt m_bestRow m_claimGuest m_claimYes m_claimNo m_waysTo m_images m_isKept hI _ 
  obtain ⟨c1, c2, c3, c4, c5, c6, c7, c8, c9, c10, m1, m2, m3, m4, m5, m6, m7, r1, r2, r3, r4, r5, r6, r7, r8⟩ := II_e hI
  clear hI
  subst r2
  have e4 := r4.1
  subst e4
  have m2n : 0 ≤ m_halls ∧ m_halls ≤ ((i + 6 : Nat) : Int) + 1 := by omega
  have pq := m1.2.2.2 rfl
  have hpg : 0 ≤ h_pegs ∧ h_pegs ≤ 24 := ⟨m1.1, m1.2.1⟩
  have hgu : 0 ≤ m_guests ∧ m_guests ≤ 16 := ⟨m6.1.1, m6.1.2.1⟩
  have hso : ∀ g, 0 ≤ g → g < 16 → 0 ≤ m_sorts g ∧ m_sorts g ≤ 3 := fun g a b => ⟨(m6.1.2.2.1 g a b).1, (m6.1.2.2.1 g a b).2.1⟩
  have hti : ∀ g, 0 ≤ g → g < 16 → 0 ≤ m_tips g ∧ m_tips g ≤ 99 := fun g a b => ⟨(m6.1.2.2.1 g a b).2.2.1, (m6.1.2.2.1 g a b).2.2.2.1⟩
  have hh : ∀ p, 0 ≤ p → p < 24 → -1 ≤ m_hangs p ∧ m_hangs p < 16 := fun p a b => by
    have := m6.1.2.2.2.2.1 p a b
    omega
  exact st_Hfault (st_mfault (II_mk c1 c2 c3 c4 c5 c6 c7 c8 c9 c10 m1 m2n m3 m4 m5 m6 m7 r1 rfl r3 r4 r5 r6 r7 r8))
theorem hk_3 (i : Nat) (hi : i + 6 ≤ 3072) : lH3 (II i) (II (i + 6)) := by
  unfold lH3
  intro k_nightPlay k_nightWeather w_kept g_number g_sort g_kind g_tip g_marks g_brass g_peg g_has e_number e_facts c_number c_guest c_yes c_no n_number n_left z_kept zg_number zg_sort zg_kind zg_tip zg_marks zg_brass zg_peg zg_has ze_number ze_facts zc_number zc_guest zc_yes zc_no zn_number zn_left o_kept og_number og_sort og_kind og_tip og_marks og_brass og_peg og_has oe_number oe_facts oc_number oc_guest oc_yes oc_no on_number on_left h_pegs h_ticks h_loss h_kind h_walk h_share h_weight r_length r_place r_failure r_at r_firstFigure r_toldBefore r_text d_pegs d_ticks d_loss d_kind d_walk d_share d_weight p_sum p_expected p_pegFor p_taken u_size u_loss u_bestTips u_bestWaits u_ticks u_tip u_row u_freeAt u_waits u_greatest u_tips u_best q_claims q_fitting q_waysOf m_pegs m_halls m_texted m_faultPlace m_at0 m_word m_wordEnd m_number m_numberAt m_readPegs m_toldSet m_sortSet m_guests m_nightPlay m_nightWeather m_nights m_events m_chainMany m_isRound m_rowMany m_waitSum m_waitMost m_tipSum m_claims m_imageAt m_pegKind m_pegWalk m_oddsOf m_singles m_text m_readKind m_readWalk m_readOdds m_readSingle m_hangs m_sorts m_kinds m_tips m_marks m_brasses m_has m_hungBy m_planned m_isTaken m_plays m_weathers m_lefts m_eventRow m_chained m_row m_freeAt m_bestRow m_claimGuest m_claimYes m_claimNo m_waysTo m_images m_isKept hI _ v1 v2 h1 h2
  obtain ⟨c1, c2, c3, c4, c5, c6, c7, c8, c9, c10, m1, m2, m3, m4, m5, m6, m7, r1, r2, r3, r4, r5, r6, r7, r8⟩ := II_e hI
  clear hI
  subst r2
  have e4 := r4.1
  subst e4
  have m2n : 0 ≤ m_halls ∧ m_halls ≤ ((i + 6 : Nat) : Int) + 1 := by omega
  have pq := m1.2.2.2 rfl
  have hpg : 0 ≤ h_pegs ∧ h_pegs ≤ 24 := ⟨m1.1, m1.2.1⟩
  have hgu : 0 ≤ m_guests ∧ m_guests ≤ 16 := ⟨m6.1.1, m6.1.2.1⟩
  have hso : ∀ g, 0 ≤ g → g < 16 → 0 ≤ m_sorts g ∧ m_sorts g ≤ 3 := fun g a b => ⟨(m6.1.2.2.1 g a b).1, (m6.1.2.2.1 g a b).2.1⟩
  have hti : ∀ g, 0 ≤ g → g < 16 → 0 ≤ m_tips g ∧ m_tips g ≤ 99 := fun g a b => ⟨(m6.1.2.2.1 g a b).2.2.1, (m6.1.2.2.1 g a b).2.2.2.1⟩
  have hh : ∀ p, 0 ≤ p → p < 24 → -1 ≤ m_hangs p ∧ m_hangs p < 16 := fun p a b => by
    have := m6.1.2.2.2.2.1 p a b
    omega
  exact st_Hpeg c1.1.1 (fun r => st_mpeg hpg (fun r2 => (II_mk c1 c2 c3 c4 c5 c6 c7 c8 c9 c10 m1 m2n m3 m4 m5 m6 m7 r1 rfl r3 r4 r5 r6 r7 r8)))
theorem hk_4 (i : Nat) (hi : i + 6 ≤ 3072) : lH4 (II i) (II (i + 6)) := by
  unfold lH4
  intro k_nightPlay k_nightWeather w_kept g_number g_sort g_kind g_tip g_marks g_brass g_peg g_has e_number e_facts c_number c_guest c_yes c_no n_number n_left z_kept zg_number zg_sort zg_kind zg_tip zg_marks zg_brass zg_peg zg_has ze_number ze_facts zc_number zc_guest zc_yes zc_no zn_number zn_left o_kept og_number og_sort og_kind og_tip og_marks og_brass og_peg og_has oe_number oe_facts oc_number oc_guest oc_yes oc_no on_number on_left h_pegs h_ticks h_loss h_kind h_walk h_share h_weight r_length r_place r_failure r_at r_firstFigure r_toldBefore r_text d_pegs d_ticks d_loss d_kind d_walk d_share d_weight p_sum p_expected p_pegFor p_taken u_size u_loss u_bestTips u_bestWaits u_ticks u_tip u_row u_freeAt u_waits u_greatest u_tips u_best q_claims q_fitting q_waysOf m_pegs m_halls m_texted m_faultPlace m_at0 m_word m_wordEnd m_number m_numberAt m_readPegs m_toldSet m_sortSet m_guests m_nightPlay m_nightWeather m_nights m_events m_chainMany m_isRound m_rowMany m_waitSum m_waitMost m_tipSum m_claims m_imageAt m_pegKind m_pegWalk m_oddsOf m_singles m_text m_readKind m_readWalk m_readOdds m_readSingle m_hangs m_sorts m_kinds m_tips m_marks m_brasses m_has m_hungBy m_planned m_isTaken m_plays m_weathers m_lefts m_eventRow m_chained m_row m_freeAt m_bestRow m_claimGuest m_claimYes m_claimNo m_waysTo m_images m_isKept hI _ v1 v2 h1 h2
  obtain ⟨c1, c2, c3, c4, c5, c6, c7, c8, c9, c10, m1, m2, m3, m4, m5, m6, m7, r1, r2, r3, r4, r5, r6, r7, r8⟩ := II_e hI
  clear hI
  subst r2
  have e4 := r4.1
  subst e4
  have m2n : 0 ≤ m_halls ∧ m_halls ≤ ((i + 6 : Nat) : Int) + 1 := by omega
  have pq := m1.2.2.2 rfl
  have hpg : 0 ≤ h_pegs ∧ h_pegs ≤ 24 := ⟨m1.1, m1.2.1⟩
  have hgu : 0 ≤ m_guests ∧ m_guests ≤ 16 := ⟨m6.1.1, m6.1.2.1⟩
  have hso : ∀ g, 0 ≤ g → g < 16 → 0 ≤ m_sorts g ∧ m_sorts g ≤ 3 := fun g a b => ⟨(m6.1.2.2.1 g a b).1, (m6.1.2.2.1 g a b).2.1⟩
  have hti : ∀ g, 0 ≤ g → g < 16 → 0 ≤ m_tips g ∧ m_tips g ≤ 99 := fun g a b => ⟨(m6.1.2.2.1 g a b).2.2.1, (m6.1.2.2.1 g a b).2.2.2.1⟩
  have hh : ∀ p, 0 ≤ p → p < 24 → -1 ≤ m_hangs p ∧ m_hangs p < 16 := fun p a b => by
    have := m6.1.2.2.2.2.1 p a b
    omega
  exact st_Hodds (fun r => st_modds (fun r2 => (II_mk c1 c2 c3 c4 c5 c6 c7 c8 c9 c10 m1 m2n m3 m4 m5 m6 m7 r1 rfl r3 r4 r5 r6 r7 r8)))
theorem hk_5 (i : Nat) (hi : i + 6 ≤ 3072) : lH5 (II i) (II (i + 6)) := by
  unfold lH5
  intro k_nightPlay k_nightWeather w_kept g_number g_sort g_kind g_tip g_marks g_brass g_peg g_has e_number e_facts c_number c_guest c_yes c_no n_number n_left z_kept zg_number zg_sort zg_kind zg_tip zg_marks zg_brass zg_peg zg_has ze_number ze_facts zc_number zc_guest zc_yes zc_no zn_number zn_left o_kept og_number og_sort og_kind og_tip og_marks og_brass og_peg og_has oe_number oe_facts oc_number oc_guest oc_yes oc_no on_number on_left h_pegs h_ticks h_loss h_kind h_walk h_share h_weight r_length r_place r_failure r_at r_firstFigure r_toldBefore r_text d_pegs d_ticks d_loss d_kind d_walk d_share d_weight p_sum p_expected p_pegFor p_taken u_size u_loss u_bestTips u_bestWaits u_ticks u_tip u_row u_freeAt u_waits u_greatest u_tips u_best q_claims q_fitting q_waysOf m_pegs m_halls m_texted m_faultPlace m_at0 m_word m_wordEnd m_number m_numberAt m_readPegs m_toldSet m_sortSet m_guests m_nightPlay m_nightWeather m_nights m_events m_chainMany m_isRound m_rowMany m_waitSum m_waitMost m_tipSum m_claims m_imageAt m_pegKind m_pegWalk m_oddsOf m_singles m_text m_readKind m_readWalk m_readOdds m_readSingle m_hangs m_sorts m_kinds m_tips m_marks m_brasses m_has m_hungBy m_planned m_isTaken m_plays m_weathers m_lefts m_eventRow m_chained m_row m_freeAt m_bestRow m_claimGuest m_claimYes m_claimNo m_waysTo m_images m_isKept hI _ v1 h1
  obtain ⟨c1, c2, c3, c4, c5, c6, c7, c8, c9, c10, m1, m2, m3, m4, m5, m6, m7, r1, r2, r3, r4, r5, r6, r7, r8⟩ := II_e hI
  clear hI
  subst r2
  have e4 := r4.1
  subst e4
  have m2n : 0 ≤ m_halls ∧ m_halls ≤ ((i + 6 : Nat) : Int) + 1 := by omega
  have pq := m1.2.2.2 rfl
  have hpg : 0 ≤ h_pegs ∧ h_pegs ≤ 24 := ⟨m1.1, m1.2.1⟩
  have hgu : 0 ≤ m_guests ∧ m_guests ≤ 16 := ⟨m6.1.1, m6.1.2.1⟩
  have hso : ∀ g, 0 ≤ g → g < 16 → 0 ≤ m_sorts g ∧ m_sorts g ≤ 3 := fun g a b => ⟨(m6.1.2.2.1 g a b).1, (m6.1.2.2.1 g a b).2.1⟩
  have hti : ∀ g, 0 ≤ g → g < 16 → 0 ≤ m_tips g ∧ m_tips g ≤ 99 := fun g a b => ⟨(m6.1.2.2.1 g a b).2.2.1, (m6.1.2.2.1 g a b).2.2.2.1⟩
  have hh : ∀ p, 0 ≤ p → p < 24 → -1 ≤ m_hangs p ∧ m_hangs p < 16 := fun p a b => by
    have := m6.1.2.2.2.2.1 p a b
    omega
  exact st_Hcount (fun r => st_mcount (fun r2 => (II_mk c1 c2 c3 c4 c5 c6 c7 c8 c9 c10 m1 m2n m3 m4 m5 m6 m7 r1 rfl r3 r4 r5 r6 r7 r8)))
theorem hk_6 (i : Nat) (hi : i + 6 ≤ 3072) : lH6 (II i) (II (i + 6)) := by
  unfold lH6
  intro k_nightPlay k_nightWeather w_kept g_number g_sort g_kind g_tip g_marks g_brass g_peg g_has e_number e_facts c_number c_guest c_yes c_no n_number n_left z_kept zg_number zg_sort zg_kind zg_tip zg_marks zg_brass zg_peg zg_has ze_number ze_facts zc_number zc_guest zc_yes zc_no zn_number zn_left o_kept og_number og_sort og_kind og_tip og_marks og_brass og_peg og_has oe_number oe_facts oc_number oc_guest oc_yes oc_no on_number on_left h_pegs h_ticks h_loss h_kind h_walk h_share h_weight r_length r_place r_failure r_at r_firstFigure r_toldBefore r_text d_pegs d_ticks d_loss d_kind d_walk d_share d_weight p_sum p_expected p_pegFor p_taken u_size u_loss u_bestTips u_bestWaits u_ticks u_tip u_row u_freeAt u_waits u_greatest u_tips u_best q_claims q_fitting q_waysOf m_pegs m_halls m_texted m_faultPlace m_at0 m_word m_wordEnd m_number m_numberAt m_readPegs m_toldSet m_sortSet m_guests m_nightPlay m_nightWeather m_nights m_events m_chainMany m_isRound m_rowMany m_waitSum m_waitMost m_tipSum m_claims m_imageAt m_pegKind m_pegWalk m_oddsOf m_singles m_text m_readKind m_readWalk m_readOdds m_readSingle m_hangs m_sorts m_kinds m_tips m_marks m_brasses m_has m_hungBy m_planned m_isTaken m_plays m_weathers m_lefts m_eventRow m_chained m_row m_freeAt m_bestRow m_claimGuest m_claimYes m_claimNo m_waysTo m_images m_isKept hI _ v1 v2 v3 v4 h1 h2 h3 h4
  obtain ⟨c1, c2, c3, c4, c5, c6, c7, c8, c9, c10, m1, m2, m3, m4, m5, m6, m7, r1, r2, r3, r4, r5, r6, r7, r8⟩ := II_e hI
  clear hI
  subst r2
  have e4 := r4.1
  subst e4
  have m2n : 0 ≤ m_halls ∧ m_halls ≤ ((i + 6 : Nat) : Int) + 1 := by omega
  have pq := m1.2.2.2 rfl
  have hpg : 0 ≤ h_pegs ∧ h_pegs ≤ 24 := ⟨m1.1, m1.2.1⟩
  have hgu : 0 ≤ m_guests ∧ m_guests ≤ 16 := ⟨m6.1.1, m6.1.2.1⟩
  have hso : ∀ g, 0 ≤ g → g < 16 → 0 ≤ m_sorts g ∧ m_sorts g ≤ 3 := fun g a b => ⟨(m6.1.2.2.1 g a b).1, (m6.1.2.2.1 g a b).2.1⟩
  have hti : ∀ g, 0 ≤ g → g < 16 → 0 ≤ m_tips g ∧ m_tips g ≤ 99 := fun g a b => ⟨(m6.1.2.2.1 g a b).2.2.1, (m6.1.2.2.1 g a b).2.2.2.1⟩
  have hh : ∀ p, 0 ≤ p → p < 24 → -1 ≤ m_hangs p ∧ m_hangs p < 16 := fun p a b => by
    have := m6.1.2.2.2.2.1 p a b
    omega
  exact sim_guest c1.1 m6 r5 (fun r _ _ _ _ _ _ _ _ _ _ _ _ _ _ _ _ g f s => (II_mk ⟨g, c1.2.1, c1.2.2.1, c1.2.2.2⟩ c2 c3 c4 c5 c6 c7 c8 c9 c10 m1 m2n m3 m4 m5 f m7 r1 rfl r3 r4 s r6 r7 r8))
theorem hk_7 (i : Nat) (hi : i + 6 ≤ 3072) : lH7 (II i) (II (i + 6)) := by
  unfold lH7
  intro k_nightPlay k_nightWeather w_kept g_number g_sort g_kind g_tip g_marks g_brass g_peg g_has e_number e_facts c_number c_guest c_yes c_no n_number n_left z_kept zg_number zg_sort zg_kind zg_tip zg_marks zg_brass zg_peg zg_has ze_number ze_facts zc_number zc_guest zc_yes zc_no zn_number zn_left o_kept og_number og_sort og_kind og_tip og_marks og_brass og_peg og_has oe_number oe_facts oc_number oc_guest oc_yes oc_no on_number on_left h_pegs h_ticks h_loss h_kind h_walk h_share h_weight r_length r_place r_failure r_at r_firstFigure r_toldBefore r_text d_pegs d_ticks d_loss d_kind d_walk d_share d_weight p_sum p_expected p_pegFor p_taken u_size u_loss u_bestTips u_bestWaits u_ticks u_tip u_row u_freeAt u_waits u_greatest u_tips u_best q_claims q_fitting q_waysOf m_pegs m_halls m_texted m_faultPlace m_at0 m_word m_wordEnd m_number m_numberAt m_readPegs m_toldSet m_sortSet m_guests m_nightPlay m_nightWeather m_nights m_events m_chainMany m_isRound m_rowMany m_waitSum m_waitMost m_tipSum m_claims m_imageAt m_pegKind m_pegWalk m_oddsOf m_singles m_text m_readKind m_readWalk m_readOdds m_readSingle m_hangs m_sorts m_kinds m_tips m_marks m_brasses m_has m_hungBy m_planned m_isTaken m_plays m_weathers m_lefts m_eventRow m_chained m_row m_freeAt m_bestRow m_claimGuest m_claimYes m_claimNo m_waysTo m_images m_isKept hI _ v1 v2 h1 h2
  obtain ⟨c1, c2, c3, c4, c5, c6, c7, c8, c9, c10, m1, m2, m3, m4, m5, m6, m7, r1, r2, r3, r4, r5, r6, r7, r8⟩ := II_e hI
  clear hI
  subst r2
  have e4 := r4.1
  subst e4
  have m2n : 0 ≤ m_halls ∧ m_halls ≤ ((i + 6 : Nat) : Int) + 1 := by omega
  have pq := m1.2.2.2 rfl
  have hpg : 0 ≤ h_pegs ∧ h_pegs ≤ 24 := ⟨m1.1, m1.2.1⟩
  have hgu : 0 ≤ m_guests ∧ m_guests ≤ 16 := ⟨m6.1.1, m6.1.2.1⟩
  have hso : ∀ g, 0 ≤ g → g < 16 → 0 ≤ m_sorts g ∧ m_sorts g ≤ 3 := fun g a b => ⟨(m6.1.2.2.1 g a b).1, (m6.1.2.2.1 g a b).2.1⟩
  have hti : ∀ g, 0 ≤ g → g < 16 → 0 ≤ m_tips g ∧ m_tips g ≤ 99 := fun g a b => ⟨(m6.1.2.2.1 g a b).2.2.1, (m6.1.2.2.1 g a b).2.2.2.1⟩
  have hh : ∀ p, 0 ≤ p → p < 24 → -1 ≤ m_hangs p ∧ m_hangs p < 16 := fun p a b => by
    have := m6.1.2.2.2.2.1 p a b
    omega
  exact st_Htold c1.1.1 (cN_T c1.2.2.2) c4 (fun r => st_mtold hpg m6 pq.1 pq.2.1 (fun r2 => (II_mk c1 c2 c3 c4 c5 c6 c7 c8 c9 c10 m1 m2n m3 m4 m5 m6 m7 r1 rfl r3 r4 r5 r6 r7 r8)))
theorem hk_8 (i : Nat) (hi : i + 6 ≤ 3072) : lH8 (II i) (II (i + 6)) := by
  unfold lH8
  intro k_nightPlay k_nightWeather w_kept g_number g_sort g_kind g_tip g_marks g_brass g_peg g_has e_number e_facts c_number c_guest c_yes c_no n_number n_left z_kept zg_number zg_sort zg_kind zg_tip zg_marks zg_brass zg_peg zg_has ze_number ze_facts zc_number zc_guest zc_yes zc_no zn_number zn_left o_kept og_number og_sort og_kind og_tip og_marks og_brass og_peg og_has oe_number oe_facts oc_number oc_guest oc_yes oc_no on_number on_left h_pegs h_ticks h_loss h_kind h_walk h_share h_weight r_length r_place r_failure r_at r_firstFigure r_toldBefore r_text d_pegs d_ticks d_loss d_kind d_walk d_share d_weight p_sum p_expected p_pegFor p_taken u_size u_loss u_bestTips u_bestWaits u_ticks u_tip u_row u_freeAt u_waits u_greatest u_tips u_best q_claims q_fitting q_waysOf m_pegs m_halls m_texted m_faultPlace m_at0 m_word m_wordEnd m_number m_numberAt m_readPegs m_toldSet m_sortSet m_guests m_nightPlay m_nightWeather m_nights m_events m_chainMany m_isRound m_rowMany m_waitSum m_waitMost m_tipSum m_claims m_imageAt m_pegKind m_pegWalk m_oddsOf m_singles m_text m_readKind m_readWalk m_readOdds m_readSingle m_hangs m_sorts m_kinds m_tips m_marks m_brasses m_has m_hungBy m_planned m_isTaken m_plays m_weathers m_lefts m_eventRow m_chained m_row m_freeAt m_bestRow m_claimGuest m_claimYes m_claimNo m_waysTo m_images m_isKept hI _ v2 h1
  obtain ⟨c1, c2, c3, c4, c5, c6, c7, c8, c9, c10, m1, m2, m3, m4, m5, m6, m7, r1, r2, r3, r4, r5, r6, r7, r8⟩ := II_e hI
  clear hI
  subst r2
  have e4 := r4.1
  subst e4
  have m2n : 0 ≤ m_halls ∧ m_halls ≤ ((i + 6 : Nat) : Int) + 1 := by omega
  have pq := m1.2.2.2 rfl
  have hpg : 0 ≤ h_pegs ∧ h_pegs ≤ 24 := ⟨m1.1, m1.2.1⟩
  have hgu : 0 ≤ m_guests ∧ m_guests ≤ 16 := ⟨m6.1.1, m6.1.2.1⟩
  have hso : ∀ g, 0 ≤ g → g < 16 → 0 ≤ m_sorts g ∧ m_sorts g ≤ 3 := fun g a b => ⟨(m6.1.2.2.1 g a b).1, (m6.1.2.2.1 g a b).2.1⟩
  have hti : ∀ g, 0 ≤ g → g < 16 → 0 ≤ m_tips g ∧ m_tips g ≤ 99 := fun g a b => ⟨(m6.1.2.2.1 g a b).2.2.1, (m6.1.2.2.1 g a b).2.2.2.1⟩
  have hh : ∀ p, 0 ≤ p → p < 24 → -1 ≤ m_hangs p ∧ m_hangs p < 16 := fun p a b => by
    have := m6.1.2.2.2.2.1 p a b
    omega
  exact ⟨st_Hplan c1.1.1 (cN_T c1.2.2.2) c4 c7 (fun r s pe f t hp => st_mplan hpg hgu m6.2.2.2.1 m6.2.2.2.2.2.2 pq.1 pq.2.1 hso m1.2.2.1 (fun r2 pd tk => (II_mk c1 c2 c3 c4 c5 c6 hp c8 c9 c10 m1 m2n m3 m4 m5 m6 m7 r1 rfl r3 r4 r5 r6 r7 r8))), st_Hplan c1.1.1 (cN_T c1.2.2.2) c4 c7 (fun r s pe f t hp => st_mplan hpg hgu m6.2.2.2.1 m6.2.2.2.2.2.2 pq.1 pq.2.1 hso m1.2.2.1 (fun r2 pd tk => (II_mk c1 c2 c3 c4 c5 c6 hp c8 c9 c10 m1 m2n m3 m4 m5 m6 m7 r1 rfl r3 r4 r5 r6 r7 r8)))⟩
theorem hk_9 (i : Nat) (hi : i + 6 ≤ 3072) : lH9 (II i) (II (i + 6)) := by
  unfold lH9
  intro k_nightPlay k_nightWeather w_kept g_number g_sort g_kind g_tip g_marks g_brass g_peg g_has e_number e_facts c_number c_guest c_yes c_no n_number n_left z_kept zg_number zg_sort zg_kind zg_tip zg_marks zg_brass zg_peg zg_has ze_number ze_facts zc_number zc_guest zc_yes zc_no zn_number zn_left o_kept og_number og_sort og_kind og_tip og_marks og_brass og_peg og_has oe_number oe_facts oc_number oc_guest oc_yes oc_no on_number on_left h_pegs h_ticks h_loss h_kind h_walk h_share h_weight r_length r_place r_failure r_at r_firstFigure r_toldBefore r_text d_pegs d_ticks d_loss d_kind d_walk d_share d_weight p_sum p_expected p_pegFor p_taken u_size u_loss u_bestTips u_bestWaits u_ticks u_tip u_row u_freeAt u_waits u_greatest u_tips u_best q_claims q_fitting q_waysOf m_pegs m_halls m_texted m_faultPlace m_at0 m_word m_wordEnd m_number m_numberAt m_readPegs m_toldSet m_sortSet m_guests m_nightPlay m_nightWeather m_nights m_events m_chainMany m_isRound m_rowMany m_waitSum m_waitMost m_tipSum m_claims m_imageAt m_pegKind m_pegWalk m_oddsOf m_singles m_text m_readKind m_readWalk m_readOdds m_readSingle m_hangs m_sorts m_kinds m_tips m_marks m_brasses m_has m_hungBy m_planned m_isTaken m_plays m_weathers m_lefts m_eventRow m_chained m_row m_freeAt m_bestRow m_claimGuest m_claimYes m_claimNo m_waysTo m_images m_isKept hI _ v1 v2 v3 v4 v5 h1 h2 h3 h4 h5
  obtain ⟨c1, c2, c3, c4, c5, c6, c7, c8, c9, c10, m1, m2, m3, m4, m5, m6, m7, r1, r2, r3, r4, r5, r6, r7, r8⟩ := II_e hI
  clear hI
  subst r2
  have e4 := r4.1
  subst e4
  have m2n : 0 ≤ m_halls ∧ m_halls ≤ ((i + 6 : Nat) : Int) + 1 := by omega
  have pq := m1.2.2.2 rfl
  have hpg : 0 ≤ h_pegs ∧ h_pegs ≤ 24 := ⟨m1.1, m1.2.1⟩
  have hgu : 0 ≤ m_guests ∧ m_guests ≤ 16 := ⟨m6.1.1, m6.1.2.1⟩
  have hso : ∀ g, 0 ≤ g → g < 16 → 0 ≤ m_sorts g ∧ m_sorts g ≤ 3 := fun g a b => ⟨(m6.1.2.2.1 g a b).1, (m6.1.2.2.1 g a b).2.1⟩
  have hti : ∀ g, 0 ≤ g → g < 16 → 0 ≤ m_tips g ∧ m_tips g ≤ 99 := fun g a b => ⟨(m6.1.2.2.1 g a b).2.2.1, (m6.1.2.2.1 g a b).2.2.2.1⟩
  have hh : ∀ p, 0 ≤ p → p < 24 → -1 ≤ m_hangs p ∧ m_hangs p < 16 := fun p a b => by
    have := m6.1.2.2.2.2.1 p a b
    omega
  exact sim_night c1.2.2.2 m6 r5 (fun r _ _ _ _ _ _ g f s => (II_mk ⟨c1.1, c1.2.1, c1.2.2.1, g⟩ c2 c3 c4 c5 c6 c7 c8 c9 c10 m1 m2n m3 m4 m5 f m7 r1 rfl r3 r4 s r6 r7 r8))
theorem hk_10 (i : Nat) (hi : i + 6 ≤ 3072) : lH10 (II i) (II (i + 6)) := by
  unfold lH10
  intro k_nightPlay k_nightWeather w_kept g_number g_sort g_kind g_tip g_marks g_brass g_peg g_has e_number e_facts c_number c_guest c_yes c_no n_number n_left z_kept zg_number zg_sort zg_kind zg_tip zg_marks zg_brass zg_peg zg_has ze_number ze_facts zc_number zc_guest zc_yes zc_no zn_number zn_left o_kept og_number og_sort og_kind og_tip og_marks og_brass og_peg og_has oe_number oe_facts oc_number oc_guest oc_yes oc_no on_number on_left h_pegs h_ticks h_loss h_kind h_walk h_share h_weight r_length r_place r_failure r_at r_firstFigure r_toldBefore r_text d_pegs d_ticks d_loss d_kind d_walk d_share d_weight p_sum p_expected p_pegFor p_taken u_size u_loss u_bestTips u_bestWaits u_ticks u_tip u_row u_freeAt u_waits u_greatest u_tips u_best q_claims q_fitting q_waysOf m_pegs m_halls m_texted m_faultPlace m_at0 m_word m_wordEnd m_number m_numberAt m_readPegs m_toldSet m_sortSet m_guests m_nightPlay m_nightWeather m_nights m_events m_chainMany m_isRound m_rowMany m_waitSum m_waitMost m_tipSum m_claims m_imageAt m_pegKind m_pegWalk m_oddsOf m_singles m_text m_readKind m_readWalk m_readOdds m_readSingle m_hangs m_sorts m_kinds m_tips m_marks m_brasses m_has m_hungBy m_planned m_isTaken m_plays m_weathers m_lefts m_eventRow m_chained m_row m_freeAt m_bestRow m_claimGuest m_claimYes m_claimNo m_waysTo m_images m_isKept hI _ v1 v2 v3 h1 h2 h3
  obtain ⟨c1, c2, c3, c4, c5, c6, c7, c8, c9, c10, m1, m2, m3, m4, m5, m6, m7, r1, r2, r3, r4, r5, r6, r7, r8⟩ := II_e hI
  clear hI
  subst r2
  have e4 := r4.1
  subst e4
  have m2n : 0 ≤ m_halls ∧ m_halls ≤ ((i + 6 : Nat) : Int) + 1 := by omega
  have pq := m1.2.2.2 rfl
  have hpg : 0 ≤ h_pegs ∧ h_pegs ≤ 24 := ⟨m1.1, m1.2.1⟩
  have hgu : 0 ≤ m_guests ∧ m_guests ≤ 16 := ⟨m6.1.1, m6.1.2.1⟩
  have hso : ∀ g, 0 ≤ g → g < 16 → 0 ≤ m_sorts g ∧ m_sorts g ≤ 3 := fun g a b => ⟨(m6.1.2.2.1 g a b).1, (m6.1.2.2.1 g a b).2.1⟩
  have hti : ∀ g, 0 ≤ g → g < 16 → 0 ≤ m_tips g ∧ m_tips g ≤ 99 := fun g a b => ⟨(m6.1.2.2.1 g a b).2.2.1, (m6.1.2.2.1 g a b).2.2.2.1⟩
  have hh : ∀ p, 0 ≤ p → p < 24 → -1 ≤ m_hangs p ∧ m_hangs p < 16 := fun p a b => by
    have := m6.1.2.2.2.2.1 p a b
    omega
  exact st_Hlearnt (cN_T c1.2.2.2) (fun r => st_mlearnt m6.2.2.2.1 m6.2.2.2.2.2.2 (fun r2 => (II_mk c1 c2 c3 c4 c5 c6 c7 c8 c9 c10 m1 m2n m3 m4 m5 m6 m7 r1 rfl r3 r4 r5 r6 r7 r8)))
theorem hk_11 (i : Nat) (hi : i + 6 ≤ 3072) : lH11 (II i) (II (i + 6)) := by
  unfold lH11
  intro k_nightPlay k_nightWeather w_kept g_number g_sort g_kind g_tip g_marks g_brass g_peg g_has e_number e_facts c_number c_guest c_yes c_no n_number n_left z_kept zg_number zg_sort zg_kind zg_tip zg_marks zg_brass zg_peg zg_has ze_number ze_facts zc_number zc_guest zc_yes zc_no zn_number zn_left o_kept og_number og_sort og_kind og_tip og_marks og_brass og_peg og_has oe_number oe_facts oc_number oc_guest oc_yes oc_no on_number on_left h_pegs h_ticks h_loss h_kind h_walk h_share h_weight r_length r_place r_failure r_at r_firstFigure r_toldBefore r_text d_pegs d_ticks d_loss d_kind d_walk d_share d_weight p_sum p_expected p_pegFor p_taken u_size u_loss u_bestTips u_bestWaits u_ticks u_tip u_row u_freeAt u_waits u_greatest u_tips u_best q_claims q_fitting q_waysOf m_pegs m_halls m_texted m_faultPlace m_at0 m_word m_wordEnd m_number m_numberAt m_readPegs m_toldSet m_sortSet m_guests m_nightPlay m_nightWeather m_nights m_events m_chainMany m_isRound m_rowMany m_waitSum m_waitMost m_tipSum m_claims m_imageAt m_pegKind m_pegWalk m_oddsOf m_singles m_text m_readKind m_readWalk m_readOdds m_readSingle m_hangs m_sorts m_kinds m_tips m_marks m_brasses m_has m_hungBy m_planned m_isTaken m_plays m_weathers m_lefts m_eventRow m_chained m_row m_freeAt m_bestRow m_claimGuest m_claimYes m_claimNo m_waysTo m_images m_isKept hI _ v1 v2 h1 h2
  obtain ⟨c1, c2, c3, c4, c5, c6, c7, c8, c9, c10, m1, m2, m3, m4, m5, m6, m7, r1, r2, r3, r4, r5, r6, r7, r8⟩ := II_e hI
  clear hI
  subst r2
  have e4 := r4.1
  subst e4
  have m2n : 0 ≤ m_halls ∧ m_halls ≤ ((i + 6 : Nat) : Int) + 1 := by omega
  have pq := m1.2.2.2 rfl
  have hpg : 0 ≤ h_pegs ∧ h_pegs ≤ 24 := ⟨m1.1, m1.2.1⟩
  have hgu : 0 ≤ m_guests ∧ m_guests ≤ 16 := ⟨m6.1.1, m6.1.2.1⟩
  have hso : ∀ g, 0 ≤ g → g < 16 → 0 ≤ m_sorts g ∧ m_sorts g ≤ 3 := fun g a b => ⟨(m6.1.2.2.1 g a b).1, (m6.1.2.2.1 g a b).2.1⟩
  have hti : ∀ g, 0 ≤ g → g < 16 → 0 ≤ m_tips g ∧ m_tips g ≤ 99 := fun g a b => ⟨(m6.1.2.2.1 g a b).2.2.1, (m6.1.2.2.1 g a b).2.2.2.1⟩
  have hh : ∀ p, 0 ≤ p → p < 24 → -1 ≤ m_hangs p ∧ m_hangs p < 16 := fun p a b => by
    have := m6.1.2.2.2.2.1 p a b
    omega
  exact st_Htonight (fun r a b => st_mtonight (fun r2 a2 b2 => (II_mk c1 c2 c3 c4 c5 c6 c7 c8 c9 c10 m1 m2n m3 m4 m5 m6 m7 r1 rfl r3 r4 r5 r6 r7 r8)))
theorem hk_12 (i : Nat) (hi : i + 6 ≤ 3072) : lH12 (II i) (II (i + 6)) := by
  unfold lH12
  intro k_nightPlay k_nightWeather w_kept g_number g_sort g_kind g_tip g_marks g_brass g_peg g_has e_number e_facts c_number c_guest c_yes c_no n_number n_left z_kept zg_number zg_sort zg_kind zg_tip zg_marks zg_brass zg_peg zg_has ze_number ze_facts zc_number zc_guest zc_yes zc_no zn_number zn_left o_kept og_number og_sort og_kind og_tip og_marks og_brass og_peg og_has oe_number oe_facts oc_number oc_guest oc_yes oc_no on_number on_left h_pegs h_ticks h_loss h_kind h_walk h_share h_weight r_length r_place r_failure r_at r_firstFigure r_toldBefore r_text d_pegs d_ticks d_loss d_kind d_walk d_share d_weight p_sum p_expected p_pegFor p_taken u_size u_loss u_bestTips u_bestWaits u_ticks u_tip u_row u_freeAt u_waits u_greatest u_tips u_best q_claims q_fitting q_waysOf m_pegs m_halls m_texted m_faultPlace m_at0 m_word m_wordEnd m_number m_numberAt m_readPegs m_toldSet m_sortSet m_guests m_nightPlay m_nightWeather m_nights m_events m_chainMany m_isRound m_rowMany m_waitSum m_waitMost m_tipSum m_claims m_imageAt m_pegKind m_pegWalk m_oddsOf m_singles m_text m_readKind m_readWalk m_readOdds m_readSingle m_hangs m_sorts m_kinds m_tips m_marks m_brasses m_has m_hungBy m_planned m_isTaken m_plays m_weathers m_lefts m_eventRow m_chained m_row m_freeAt m_bestRow m_claimGuest m_claimYes m_claimNo m_waysTo m_images m_isKept hI _ v1 v2 v3 v4 h1 h2 h3 h4
  obtain ⟨c1, c2, c3, c4, c5, c6, c7, c8, c9, c10, m1, m2, m3, m4, m5, m6, m7, r1, r2, r3, r4, r5, r6, r7, r8⟩ := II_e hI
  clear hI
  subst r2
  have e4 := r4.1
  subst e4
  have m2n : 0 ≤ m_halls ∧ m_halls ≤ ((i + 6 : Nat) : Int) + 1 := by omega
  have pq := m1.2.2.2 rfl
  have hpg : 0 ≤ h_pegs ∧ h_pegs ≤ 24 := ⟨m1.1, m1.2.1⟩
  have hgu : 0 ≤ m_guests ∧ m_guests ≤ 16 := ⟨m6.1.1, m6.1.2.1⟩
  have hso : ∀ g, 0 ≤ g → g < 16 → 0 ≤ m_sorts g ∧ m_sorts g ≤ 3 := fun g a b => ⟨(m6.1.2.2.1 g a b).1, (m6.1.2.2.1 g a b).2.1⟩
  have hti : ∀ g, 0 ≤ g → g < 16 → 0 ≤ m_tips g ∧ m_tips g ≤ 99 := fun g a b => ⟨(m6.1.2.2.1 g a b).2.2.1, (m6.1.2.2.1 g a b).2.2.2.1⟩
  have hh : ∀ p, 0 ≤ p → p < 24 → -1 ≤ m_hangs p ∧ m_hangs p < 16 := fun p a b => by
    have := m6.1.2.2.2.2.1 p a b
    omega
  exact sim_hang hpg (fun q a b => (r4.2.1 q a b).1) m6 r5 (fun r _ _ _ _ _ _ _ _ _ e f s => (II_mk ⟨c1.1, e, c1.2.2.1, c1.2.2.2⟩ c2 c3 c4 c5 c6 c7 c8 c9 c10 m1 m2n m3 m4 m5 f m7 r1 rfl r3 r4 s r6 r7 r8))
theorem hk_13 (i : Nat) (hi : i + 6 ≤ 3072) : lH13 (II i) (II (i + 6)) := by
  unfold lH13
  intro k_nightPlay k_nightWeather w_kept g_number g_sort g_kind g_tip g_marks g_brass g_peg g_has e_number e_facts c_number c_guest c_yes c_no n_number n_left z_kept zg_number zg_sort zg_kind zg_tip zg_marks zg_brass zg_peg zg_has ze_number ze_facts zc_number zc_guest zc_yes zc_no zn_number zn_left o_kept og_number og_sort og_kind og_tip og_marks og_brass og_peg og_has oe_number oe_facts oc_number oc_guest oc_yes oc_no on_number on_left h_pegs h_ticks h_loss h_kind h_walk h_share h_weight r_length r_place r_failure r_at r_firstFigure r_toldBefore r_text d_pegs d_ticks d_loss d_kind d_walk d_share d_weight p_sum p_expected p_pegFor p_taken u_size u_loss u_bestTips u_bestWaits u_ticks u_tip u_row u_freeAt u_waits u_greatest u_tips u_best q_claims q_fitting q_waysOf m_pegs m_halls m_texted m_faultPlace m_at0 m_word m_wordEnd m_number m_numberAt m_readPegs m_toldSet m_sortSet m_guests m_nightPlay m_nightWeather m_nights m_events m_chainMany m_isRound m_rowMany m_waitSum m_waitMost m_tipSum m_claims m_imageAt m_pegKind m_pegWalk m_oddsOf m_singles m_text m_readKind m_readWalk m_readOdds m_readSingle m_hangs m_sorts m_kinds m_tips m_marks m_brasses m_has m_hungBy m_planned m_isTaken m_plays m_weathers m_lefts m_eventRow m_chained m_row m_freeAt m_bestRow m_claimGuest m_claimYes m_claimNo m_waysTo m_images m_isKept hI _ v1 v2 v3 h1 h2 h3
  obtain ⟨c1, c2, c3, c4, c5, c6, c7, c8, c9, c10, m1, m2, m3, m4, m5, m6, m7, r1, r2, r3, r4, r5, r6, r7, r8⟩ := II_e hI
  clear hI
  subst r2
  have e4 := r4.1
  subst e4
  have m2n : 0 ≤ m_halls ∧ m_halls ≤ ((i + 6 : Nat) : Int) + 1 := by omega
  have pq := m1.2.2.2 rfl
  have hpg : 0 ≤ h_pegs ∧ h_pegs ≤ 24 := ⟨m1.1, m1.2.1⟩
  have hgu : 0 ≤ m_guests ∧ m_guests ≤ 16 := ⟨m6.1.1, m6.1.2.1⟩
  have hso : ∀ g, 0 ≤ g → g < 16 → 0 ≤ m_sorts g ∧ m_sorts g ≤ 3 := fun g a b => ⟨(m6.1.2.2.1 g a b).1, (m6.1.2.2.1 g a b).2.1⟩
  have hti : ∀ g, 0 ≤ g → g < 16 → 0 ≤ m_tips g ∧ m_tips g ≤ 99 := fun g a b => ⟨(m6.1.2.2.1 g a b).2.2.1, (m6.1.2.2.1 g a b).2.2.2.1⟩
  have hh : ∀ p, 0 ≤ p → p < 24 → -1 ≤ m_hangs p ∧ m_hangs p < 16 := fun p a b => by
    have := m6.1.2.2.2.2.1 p a b
    omega
  exact sim_give hpg m6 r5 (fun r _ _ _ _ _ _ _ _ _ _ e f s => (II_mk ⟨c1.1, e, c1.2.2.1, c1.2.2.2⟩ c2 c3 c4 c5 c6 c7 c8 c9 c10 m1 m2n m3 m4 m5 f m7 r1 rfl r3 r4 s r6 r7 r8))
theorem hk_14 (i : Nat) (hi : i + 6 ≤ 3072) : lH14 (II i) (II (i + 6)) := by
  unfold lH14
  intro k_nightPlay k_nightWeather w_kept g_number g_sort g_kind g_tip g_marks g_brass g_peg g_has e_number e_facts c_number c_guest c_yes c_no n_number n_left z_kept zg_number zg_sort zg_kind zg_tip zg_marks zg_brass zg_peg zg_has ze_number ze_facts zc_number zc_guest zc_yes zc_no zn_number zn_left o_kept og_number og_sort og_kind og_tip og_marks og_brass og_peg og_has oe_number oe_facts oc_number oc_guest oc_yes oc_no on_number on_left h_pegs h_ticks h_loss h_kind h_walk h_share h_weight r_length r_place r_failure r_at r_firstFigure r_toldBefore r_text d_pegs d_ticks d_loss d_kind d_walk d_share d_weight p_sum p_expected p_pegFor p_taken u_size u_loss u_bestTips u_bestWaits u_ticks u_tip u_row u_freeAt u_waits u_greatest u_tips u_best q_claims q_fitting q_waysOf m_pegs m_halls m_texted m_faultPlace m_at0 m_word m_wordEnd m_number m_numberAt m_readPegs m_toldSet m_sortSet m_guests m_nightPlay m_nightWeather m_nights m_events m_chainMany m_isRound m_rowMany m_waitSum m_waitMost m_tipSum m_claims m_imageAt m_pegKind m_pegWalk m_oddsOf m_singles m_text m_readKind m_readWalk m_readOdds m_readSingle m_hangs m_sorts m_kinds m_tips m_marks m_brasses m_has m_hungBy m_planned m_isTaken m_plays m_weathers m_lefts m_eventRow m_chained m_row m_freeAt m_bestRow m_claimGuest m_claimYes m_claimNo m_waysTo m_images m_isKept hI _ v1 h1
  obtain ⟨c1, c2, c3, c4, c5, c6, c7, c8, c9, c10, m1, m2, m3, m4, m5, m6, m7, r1, r2, r3, r4, r5, r6, r7, r8⟩ := II_e hI
  clear hI
  subst r2
  have e4 := r4.1
  subst e4
  have m2n : 0 ≤ m_halls ∧ m_halls ≤ ((i + 6 : Nat) : Int) + 1 := by omega
  have pq := m1.2.2.2 rfl
  have hpg : 0 ≤ h_pegs ∧ h_pegs ≤ 24 := ⟨m1.1, m1.2.1⟩
  have hgu : 0 ≤ m_guests ∧ m_guests ≤ 16 := ⟨m6.1.1, m6.1.2.1⟩
  have hso : ∀ g, 0 ≤ g → g < 16 → 0 ≤ m_sorts g ∧ m_sorts g ≤ 3 := fun g a b => ⟨(m6.1.2.2.1 g a b).1, (m6.1.2.2.1 g a b).2.1⟩
  have hti : ∀ g, 0 ≤ g → g < 16 → 0 ≤ m_tips g ∧ m_tips g ≤ 99 := fun g a b => ⟨(m6.1.2.2.1 g a b).2.2.1, (m6.1.2.2.1 g a b).2.2.2.1⟩
  have hh : ∀ p, 0 ≤ p → p < 24 → -1 ≤ m_hangs p ∧ m_hangs p < 16 := fun p a b => by
    have := m6.1.2.2.2.2.1 p a b
    omega
  exact sim_lose m6 r5 (fun r _ _ _ _ _ _ e f s => (II_mk ⟨c1.1, e, c1.2.2.1, c1.2.2.2⟩ c2 c3 c4 c5 c6 c7 c8 c9 c10 m1 m2n m3 m4 m5 f m7 r1 rfl r3 r4 s r6 r7 r8))
theorem hk_15 (i : Nat) (hi : i + 6 ≤ 3072) : lH15 (II i) (II (i + 6)) := by
  unfold lH15
  intro k_nightPlay k_nightWeather w_kept g_number g_sort g_kind g_tip g_marks g_brass g_peg g_has e_number e_facts c_number c_guest c_yes c_no n_number n_left z_kept zg_number zg_sort zg_kind zg_tip zg_marks zg_brass zg_peg zg_has ze_number ze_facts zc_number zc_guest zc_yes zc_no zn_number zn_left o_kept og_number og_sort og_kind og_tip og_marks og_brass og_peg og_has oe_number oe_facts oc_number oc_guest oc_yes oc_no on_number on_left h_pegs h_ticks h_loss h_kind h_walk h_share h_weight r_length r_place r_failure r_at r_firstFigure r_toldBefore r_text d_pegs d_ticks d_loss d_kind d_walk d_share d_weight p_sum p_expected p_pegFor p_taken u_size u_loss u_bestTips u_bestWaits u_ticks u_tip u_row u_freeAt u_waits u_greatest u_tips u_best q_claims q_fitting q_waysOf m_pegs m_halls m_texted m_faultPlace m_at0 m_word m_wordEnd m_number m_numberAt m_readPegs m_toldSet m_sortSet m_guests m_nightPlay m_nightWeather m_nights m_events m_chainMany m_isRound m_rowMany m_waitSum m_waitMost m_tipSum m_claims m_imageAt m_pegKind m_pegWalk m_oddsOf m_singles m_text m_readKind m_readWalk m_readOdds m_readSingle m_hangs m_sorts m_kinds m_tips m_marks m_brasses m_has m_hungBy m_planned m_isTaken m_plays m_weathers m_lefts m_eventRow m_chained m_row m_freeAt m_bestRow m_claimGuest m_claimYes m_claimNo m_waysTo m_images m_isKept hI _ v1 v2 h1 h2
  obtain ⟨c1, c2, c3, c4, c5, c6, c7, c8, c9, c10, m1, m2, m3, m4, m5, m6, m7, r1, r2, r3, r4, r5, r6, r7, r8⟩ := II_e hI
  clear hI
  subst r2
  have e4 := r4.1
  subst e4
  have m2n : 0 ≤ m_halls ∧ m_halls ≤ ((i + 6 : Nat) : Int) + 1 := by omega
  have pq := m1.2.2.2 rfl
  have hpg : 0 ≤ h_pegs ∧ h_pegs ≤ 24 := ⟨m1.1, m1.2.1⟩
  have hgu : 0 ≤ m_guests ∧ m_guests ≤ 16 := ⟨m6.1.1, m6.1.2.1⟩
  have hso : ∀ g, 0 ≤ g → g < 16 → 0 ≤ m_sorts g ∧ m_sorts g ≤ 3 := fun g a b => ⟨(m6.1.2.2.1 g a b).1, (m6.1.2.2.1 g a b).2.1⟩
  have hti : ∀ g, 0 ≤ g → g < 16 → 0 ≤ m_tips g ∧ m_tips g ≤ 99 := fun g a b => ⟨(m6.1.2.2.1 g a b).2.2.1, (m6.1.2.2.1 g a b).2.2.2.1⟩
  have hh : ∀ p, 0 ≤ p → p < 24 → -1 ≤ m_hangs p ∧ m_hangs p < 16 := fun p a b => by
    have := m6.1.2.2.2.2.1 p a b
    omega
  exact st_Hevent (fun r => st_mevent m6.2.1 (fun r2 => (II_mk c1 c2 c3 c4 c5 c6 c7 c8 c9 c10 m1 m2n m3 m4 m5 m6 m7 r1 rfl r3 r4 r5 r6 r7 r8)))
theorem hk_16 (i : Nat) (hi : i + 6 ≤ 3072) : lH16 (II i) (II (i + 6)) := by
  unfold lH16
  intro k_nightPlay k_nightWeather w_kept g_number g_sort g_kind g_tip g_marks g_brass g_peg g_has e_number e_facts c_number c_guest c_yes c_no n_number n_left z_kept zg_number zg_sort zg_kind zg_tip zg_marks zg_brass zg_peg zg_has ze_number ze_facts zc_number zc_guest zc_yes zc_no zn_number zn_left o_kept og_number og_sort og_kind og_tip og_marks og_brass og_peg og_has oe_number oe_facts oc_number oc_guest oc_yes oc_no on_number on_left h_pegs h_ticks h_loss h_kind h_walk h_share h_weight r_length r_place r_failure r_at r_firstFigure r_toldBefore r_text d_pegs d_ticks d_loss d_kind d_walk d_share d_weight p_sum p_expected p_pegFor p_taken u_size u_loss u_bestTips u_bestWaits u_ticks u_tip u_row u_freeAt u_waits u_greatest u_tips u_best q_claims q_fitting q_waysOf m_pegs m_halls m_texted m_faultPlace m_at0 m_word m_wordEnd m_number m_numberAt m_readPegs m_toldSet m_sortSet m_guests m_nightPlay m_nightWeather m_nights m_events m_chainMany m_isRound m_rowMany m_waitSum m_waitMost m_tipSum m_claims m_imageAt m_pegKind m_pegWalk m_oddsOf m_singles m_text m_readKind m_readWalk m_readOdds m_readSingle m_hangs m_sorts m_kinds m_tips m_marks m_brasses m_has m_hungBy m_planned m_isTaken m_plays m_weathers m_lefts m_eventRow m_chained m_row m_freeAt m_bestRow m_claimGuest m_claimYes m_claimNo m_waysTo m_images m_isKept hI _ 
  obtain ⟨c1, c2, c3, c4, c5, c6, c7, c8, c9, c10, m1, m2, m3, m4, m5, m6, m7, r1, r2, r3, r4, r5, r6, r7, r8⟩ := II_e hI
  clear hI
  subst r2
  have e4 := r4.1
  subst e4
  have m2n : 0 ≤ m_halls ∧ m_halls ≤ ((i + 6 : Nat) : Int) + 1 := by omega
  have pq := m1.2.2.2 rfl
  have hpg : 0 ≤ h_pegs ∧ h_pegs ≤ 24 := ⟨m1.1, m1.2.1⟩
  have hgu : 0 ≤ m_guests ∧ m_guests ≤ 16 := ⟨m6.1.1, m6.1.2.1⟩
  have hso : ∀ g, 0 ≤ g → g < 16 → 0 ≤ m_sorts g ∧ m_sorts g ≤ 3 := fun g a b => ⟨(m6.1.2.2.1 g a b).1, (m6.1.2.2.1 g a b).2.1⟩
  have hti : ∀ g, 0 ≤ g → g < 16 → 0 ≤ m_tips g ∧ m_tips g ≤ 99 := fun g a b => ⟨(m6.1.2.2.1 g a b).2.2.1, (m6.1.2.2.1 g a b).2.2.2.1⟩
  have hh : ∀ p, 0 ≤ p → p < 24 → -1 ≤ m_hangs p ∧ m_hangs p < 16 := fun p a b => by
    have := m6.1.2.2.2.2.1 p a b
    omega
  exact st_Hastray c1.1.1 (fun r => st_mastray hgu (fun r2 => (II_mk c1 c2 c3 c4 c5 c6 c7 c8 c9 c10 m1 m2n m3 m4 m5 m6 m7 r1 rfl r3 r4 r5 r6 r7 r8)))
theorem hk_17 (i : Nat) (hi : i + 6 ≤ 3072) : lH17 (II i) (II (i + 6)) := by
  unfold lH17
  intro k_nightPlay k_nightWeather w_kept g_number g_sort g_kind g_tip g_marks g_brass g_peg g_has e_number e_facts c_number c_guest c_yes c_no n_number n_left z_kept zg_number zg_sort zg_kind zg_tip zg_marks zg_brass zg_peg zg_has ze_number ze_facts zc_number zc_guest zc_yes zc_no zn_number zn_left o_kept og_number og_sort og_kind og_tip og_marks og_brass og_peg og_has oe_number oe_facts oc_number oc_guest oc_yes oc_no on_number on_left h_pegs h_ticks h_loss h_kind h_walk h_share h_weight r_length r_place r_failure r_at r_firstFigure r_toldBefore r_text d_pegs d_ticks d_loss d_kind d_walk d_share d_weight p_sum p_expected p_pegFor p_taken u_size u_loss u_bestTips u_bestWaits u_ticks u_tip u_row u_freeAt u_waits u_greatest u_tips u_best q_claims q_fitting q_waysOf m_pegs m_halls m_texted m_faultPlace m_at0 m_word m_wordEnd m_number m_numberAt m_readPegs m_toldSet m_sortSet m_guests m_nightPlay m_nightWeather m_nights m_events m_chainMany m_isRound m_rowMany m_waitSum m_waitMost m_tipSum m_claims m_imageAt m_pegKind m_pegWalk m_oddsOf m_singles m_text m_readKind m_readWalk m_readOdds m_readSingle m_hangs m_sorts m_kinds m_tips m_marks m_brasses m_has m_hungBy m_planned m_isTaken m_plays m_weathers m_lefts m_eventRow m_chained m_row m_freeAt m_bestRow m_claimGuest m_claimYes m_claimNo m_waysTo m_images m_isKept hI _ v1 v2 h1 h2
  obtain ⟨c1, c2, c3, c4, c5, c6, c7, c8, c9, c10, m1, m2, m3, m4, m5, m6, m7, r1, r2, r3, r4, r5, r6, r7, r8⟩ := II_e hI
  clear hI
  subst r2
  have e4 := r4.1
  subst e4
  have m2n : 0 ≤ m_halls ∧ m_halls ≤ ((i + 6 : Nat) : Int) + 1 := by omega
  have pq := m1.2.2.2 rfl
  have hpg : 0 ≤ h_pegs ∧ h_pegs ≤ 24 := ⟨m1.1, m1.2.1⟩
  have hgu : 0 ≤ m_guests ∧ m_guests ≤ 16 := ⟨m6.1.1, m6.1.2.1⟩
  have hso : ∀ g, 0 ≤ g → g < 16 → 0 ≤ m_sorts g ∧ m_sorts g ≤ 3 := fun g a b => ⟨(m6.1.2.2.1 g a b).1, (m6.1.2.2.1 g a b).2.1⟩
  have hti : ∀ g, 0 ≤ g → g < 16 → 0 ≤ m_tips g ∧ m_tips g ≤ 99 := fun g a b => ⟨(m6.1.2.2.1 g a b).2.2.1, (m6.1.2.2.1 g a b).2.2.2.1⟩
  have hh : ∀ p, 0 ≤ p → p < 24 → -1 ≤ m_hangs p ∧ m_hangs p < 16 := fun p a b => by
    have := m6.1.2.2.2.2.1 p a b
    omega
  exact st_Hchain h2.2 (fun r => st_mchain m6.1 (fun r2 _ _ _ => (II_mk c1 c2 c3 c4 c5 c6 c7 c8 c9 c10 m1 m2n m3 m4 m5 m6 m7 r1 rfl r3 r4 r5 r6 r7 r8)))
theorem hk_18 (i : Nat) (hi : i + 6 ≤ 3072) : lH18 (II i) (II (i + 6)) := by
  unfold lH18
  intro k_nightPlay k_nightWeather w_kept g_number g_sort g_kind g_tip g_marks g_brass g_peg g_has e_number e_facts c_number c_guest c_yes c_no n_number n_left z_kept zg_number zg_sort zg_kind zg_tip zg_marks zg_brass zg_peg zg_has ze_number ze_facts zc_number zc_guest zc_yes zc_no zn_number zn_left o_kept og_number og_sort og_kind og_tip og_marks og_brass og_peg og_has oe_number oe_facts oc_number oc_guest oc_yes oc_no on_number on_left h_pegs h_ticks h_loss h_kind h_walk h_share h_weight r_length r_place r_failure r_at r_firstFigure r_toldBefore r_text d_pegs d_ticks d_loss d_kind d_walk d_share d_weight p_sum p_expected p_pegFor p_taken u_size u_loss u_bestTips u_bestWaits u_ticks u_tip u_row u_freeAt u_waits u_greatest u_tips u_best q_claims q_fitting q_waysOf m_pegs m_halls m_texted m_faultPlace m_at0 m_word m_wordEnd m_number m_numberAt m_readPegs m_toldSet m_sortSet m_guests m_nightPlay m_nightWeather m_nights m_events m_chainMany m_isRound m_rowMany m_waitSum m_waitMost m_tipSum m_claims m_imageAt m_pegKind m_pegWalk m_oddsOf m_singles m_text m_readKind m_readWalk m_readOdds m_readSingle m_hangs m_sorts m_kinds m_tips m_marks m_brasses m_has m_hungBy m_planned m_isTaken m_plays m_weathers m_lefts m_eventRow m_chained m_row m_freeAt m_bestRow m_claimGuest m_claimYes m_claimNo m_waysTo m_images m_isKept hI _ v1 h1
  obtain ⟨c1, c2, c3, c4, c5, c6, c7, c8, c9, c10, m1, m2, m3, m4, m5, m6, m7, r1, r2, r3, r4, r5, r6, r7, r8⟩ := II_e hI
  clear hI
  subst r2
  have e4 := r4.1
  subst e4
  have m2n : 0 ≤ m_halls ∧ m_halls ≤ ((i + 6 : Nat) : Int) + 1 := by omega
  have pq := m1.2.2.2 rfl
  have hpg : 0 ≤ h_pegs ∧ h_pegs ≤ 24 := ⟨m1.1, m1.2.1⟩
  have hgu : 0 ≤ m_guests ∧ m_guests ≤ 16 := ⟨m6.1.1, m6.1.2.1⟩
  have hso : ∀ g, 0 ≤ g → g < 16 → 0 ≤ m_sorts g ∧ m_sorts g ≤ 3 := fun g a b => ⟨(m6.1.2.2.1 g a b).1, (m6.1.2.2.1 g a b).2.1⟩
  have hti : ∀ g, 0 ≤ g → g < 16 → 0 ≤ m_tips g ∧ m_tips g ≤ 99 := fun g a b => ⟨(m6.1.2.2.1 g a b).2.2.1, (m6.1.2.2.1 g a b).2.2.2.1⟩
  have hh : ∀ p, 0 ≤ p → p < 24 → -1 ≤ m_hangs p ∧ m_hangs p < 16 := fun p a b => by
    have := m6.1.2.2.2.2.1 p a b
    omega
  exact st_Hring (fun r => st_mring m6.1 (fun r2 _ _ _ => (II_mk c1 c2 c3 c4 c5 c6 c7 c8 c9 c10 m1 m2n m3 m4 m5 m6 m7 r1 rfl r3 r4 r5 r6 r7 r8)))
theorem hk_19 (i : Nat) (hi : i + 6 ≤ 3072) : lH19 (II i) (II (i + 6)) := by
  unfold lH19
  intro k_nightPlay k_nightWeather w_kept g_number g_sort g_kind g_tip g_marks g_brass g_peg g_has e_number e_facts c_number c_guest c_yes c_no n_number n_left z_kept zg_number zg_sort zg_kind zg_tip zg_marks zg_brass zg_peg zg_has ze_number ze_facts zc_number zc_guest zc_yes zc_no zn_number zn_left o_kept og_number og_sort og_kind og_tip og_marks og_brass og_peg og_has oe_number oe_facts oc_number oc_guest oc_yes oc_no on_number on_left h_pegs h_ticks h_loss h_kind h_walk h_share h_weight r_length r_place r_failure r_at r_firstFigure r_toldBefore r_text d_pegs d_ticks d_loss d_kind d_walk d_share d_weight p_sum p_expected p_pegFor p_taken u_size u_loss u_bestTips u_bestWaits u_ticks u_tip u_row u_freeAt u_waits u_greatest u_tips u_best q_claims q_fitting q_waysOf m_pegs m_halls m_texted m_faultPlace m_at0 m_word m_wordEnd m_number m_numberAt m_readPegs m_toldSet m_sortSet m_guests m_nightPlay m_nightWeather m_nights m_events m_chainMany m_isRound m_rowMany m_waitSum m_waitMost m_tipSum m_claims m_imageAt m_pegKind m_pegWalk m_oddsOf m_singles m_text m_readKind m_readWalk m_readOdds m_readSingle m_hangs m_sorts m_kinds m_tips m_marks m_brasses m_has m_hungBy m_planned m_isTaken m_plays m_weathers m_lefts m_eventRow m_chained m_row m_freeAt m_bestRow m_claimGuest m_claimYes m_claimNo m_waysTo m_images m_isKept hI _ 
  obtain ⟨c1, c2, c3, c4, c5, c6, c7, c8, c9, c10, m1, m2, m3, m4, m5, m6, m7, r1, r2, r3, r4, r5, r6, r7, r8⟩ := II_e hI
  clear hI
  subst r2
  have e4 := r4.1
  subst e4
  have m2n : 0 ≤ m_halls ∧ m_halls ≤ ((i + 6 : Nat) : Int) + 1 := by omega
  have pq := m1.2.2.2 rfl
  have hpg : 0 ≤ h_pegs ∧ h_pegs ≤ 24 := ⟨m1.1, m1.2.1⟩
  have hgu : 0 ≤ m_guests ∧ m_guests ≤ 16 := ⟨m6.1.1, m6.1.2.1⟩
  have hso : ∀ g, 0 ≤ g → g < 16 → 0 ≤ m_sorts g ∧ m_sorts g ≤ 3 := fun g a b => ⟨(m6.1.2.2.1 g a b).1, (m6.1.2.2.1 g a b).2.1⟩
  have hti : ∀ g, 0 ≤ g → g < 16 → 0 ≤ m_tips g ∧ m_tips g ≤ 99 := fun g a b => ⟨(m6.1.2.2.1 g a b).2.2.1, (m6.1.2.2.1 g a b).2.2.2.1⟩
  have hh : ∀ p, 0 ≤ p → p < 24 → -1 ≤ m_hangs p ∧ m_hangs p < 16 := fun p a b => by
    have := m6.1.2.2.2.2.1 p a b
    omega
  exact st_Hexch c1.1.1 (fun r => st_mexch m6.1 (fun r2 _ _ _ => (II_mk c1 c2 c3 c4 c5 c6 c7 c8 c9 c10 m1 m2n m3 m4 m5 m6 m7 r1 rfl r3 r4 r5 r6 r7 r8)))
theorem hk_20 (i : Nat) (hi : i + 6 ≤ 3072) : lH20 (II i) (II (i + 6)) := by
  unfold lH20
  intro k_nightPlay k_nightWeather w_kept g_number g_sort g_kind g_tip g_marks g_brass g_peg g_has e_number e_facts c_number c_guest c_yes c_no n_number n_left z_kept zg_number zg_sort zg_kind zg_tip zg_marks zg_brass zg_peg zg_has ze_number ze_facts zc_number zc_guest zc_yes zc_no zn_number zn_left o_kept og_number og_sort og_kind og_tip og_marks og_brass og_peg og_has oe_number oe_facts oc_number oc_guest oc_yes oc_no on_number on_left h_pegs h_ticks h_loss h_kind h_walk h_share h_weight r_length r_place r_failure r_at r_firstFigure r_toldBefore r_text d_pegs d_ticks d_loss d_kind d_walk d_share d_weight p_sum p_expected p_pegFor p_taken u_size u_loss u_bestTips u_bestWaits u_ticks u_tip u_row u_freeAt u_waits u_greatest u_tips u_best q_claims q_fitting q_waysOf m_pegs m_halls m_texted m_faultPlace m_at0 m_word m_wordEnd m_number m_numberAt m_readPegs m_toldSet m_sortSet m_guests m_nightPlay m_nightWeather m_nights m_events m_chainMany m_isRound m_rowMany m_waitSum m_waitMost m_tipSum m_claims m_imageAt m_pegKind m_pegWalk m_oddsOf m_singles m_text m_readKind m_readWalk m_readOdds m_readSingle m_hangs m_sorts m_kinds m_tips m_marks m_brasses m_has m_hungBy m_planned m_isTaken m_plays m_weathers m_lefts m_eventRow m_chained m_row m_freeAt m_bestRow m_claimGuest m_claimYes m_claimNo m_waysTo m_images m_isKept hI _ v1 v2 h1 h2
  obtain ⟨c1, c2, c3, c4, c5, c6, c7, c8, c9, c10, m1, m2, m3, m4, m5, m6, m7, r1, r2, r3, r4, r5, r6, r7, r8⟩ := II_e hI
  clear hI
  subst r2
  have e4 := r4.1
  subst e4
  have m2n : 0 ≤ m_halls ∧ m_halls ≤ ((i + 6 : Nat) : Int) + 1 := by omega
  have pq := m1.2.2.2 rfl
  have hpg : 0 ≤ h_pegs ∧ h_pegs ≤ 24 := ⟨m1.1, m1.2.1⟩
  have hgu : 0 ≤ m_guests ∧ m_guests ≤ 16 := ⟨m6.1.1, m6.1.2.1⟩
  have hso : ∀ g, 0 ≤ g → g < 16 → 0 ≤ m_sorts g ∧ m_sorts g ≤ 3 := fun g a b => ⟨(m6.1.2.2.1 g a b).1, (m6.1.2.2.1 g a b).2.1⟩
  have hti : ∀ g, 0 ≤ g → g < 16 → 0 ≤ m_tips g ∧ m_tips g ≤ 99 := fun g a b => ⟨(m6.1.2.2.1 g a b).2.2.1, (m6.1.2.2.1 g a b).2.2.2.1⟩
  have hh : ∀ p, 0 ≤ p → p < 24 → -1 ≤ m_hangs p ∧ m_hangs p < 16 := fun p a b => by
    have := m6.1.2.2.2.2.1 p a b
    omega
  exact st_Hwrong c1.2.1 (fun r => st_mwrong m6.1 m6.2.1 m6.2.2.2.2.1 (fun r2 => (II_mk c1 c2 c3 c4 c5 c6 c7 c8 c9 c10 m1 m2n m3 m4 m5 m6 m7 r1 rfl r3 r4 r5 r6 r7 r8)))
theorem hk_21 (i : Nat) (hi : i + 6 ≤ 3072) : lH21 (II i) (II (i + 6)) := by
  unfold lH21
  intro k_nightPlay k_nightWeather w_kept g_number g_sort g_kind g_tip g_marks g_brass g_peg g_has e_number e_facts c_number c_guest c_yes c_no n_number n_left z_kept zg_number zg_sort zg_kind zg_tip zg_marks zg_brass zg_peg zg_has ze_number ze_facts zc_number zc_guest zc_yes zc_no zn_number zn_left o_kept og_number og_sort og_kind og_tip og_marks og_brass og_peg og_has oe_number oe_facts oc_number oc_guest oc_yes oc_no on_number on_left h_pegs h_ticks h_loss h_kind h_walk h_share h_weight r_length r_place r_failure r_at r_firstFigure r_toldBefore r_text d_pegs d_ticks d_loss d_kind d_walk d_share d_weight p_sum p_expected p_pegFor p_taken u_size u_loss u_bestTips u_bestWaits u_ticks u_tip u_row u_freeAt u_waits u_greatest u_tips u_best q_claims q_fitting q_waysOf m_pegs m_halls m_texted m_faultPlace m_at0 m_word m_wordEnd m_number m_numberAt m_readPegs m_toldSet m_sortSet m_guests m_nightPlay m_nightWeather m_nights m_events m_chainMany m_isRound m_rowMany m_waitSum m_waitMost m_tipSum m_claims m_imageAt m_pegKind m_pegWalk m_oddsOf m_singles m_text m_readKind m_readWalk m_readOdds m_readSingle m_hangs m_sorts m_kinds m_tips m_marks m_brasses m_has m_hungBy m_planned m_isTaken m_plays m_weathers m_lefts m_eventRow m_chained m_row m_freeAt m_bestRow m_claimGuest m_claimYes m_claimNo m_waysTo m_images m_isKept hI _ v1 v2 v3 h1 h2 h3
  obtain ⟨c1, c2, c3, c4, c5, c6, c7, c8, c9, c10, m1, m2, m3, m4, m5, m6, m7, r1, r2, r3, r4, r5, r6, r7, r8⟩ := II_e hI
  clear hI
  subst r2
  have e4 := r4.1
  subst e4
  have m2n : 0 ≤ m_halls ∧ m_halls ≤ ((i + 6 : Nat) : Int) + 1 := by omega
  have pq := m1.2.2.2 rfl
  have hpg : 0 ≤ h_pegs ∧ h_pegs ≤ 24 := ⟨m1.1, m1.2.1⟩
  have hgu : 0 ≤ m_guests ∧ m_guests ≤ 16 := ⟨m6.1.1, m6.1.2.1⟩
  have hso : ∀ g, 0 ≤ g → g < 16 → 0 ≤ m_sorts g ∧ m_sorts g ≤ 3 := fun g a b => ⟨(m6.1.2.2.1 g a b).1, (m6.1.2.2.1 g a b).2.1⟩
  have hti : ∀ g, 0 ≤ g → g < 16 → 0 ≤ m_tips g ∧ m_tips g ≤ 99 := fun g a b => ⟨(m6.1.2.2.1 g a b).2.2.1, (m6.1.2.2.1 g a b).2.2.2.1⟩
  have hh : ∀ p, 0 ≤ p → p < 24 → -1 ≤ m_hangs p ∧ m_hangs p < 16 := fun p a b => by
    have := m6.1.2.2.2.2.1 p a b
    omega
  exact st_Hrush c1.1 c4 c8 c9 c10 (fun r _ _ _ _ _ _ _ _ _ a b d => st_mrush hpg hgu m1.2.2.1 pq.2.2 hti (fun r2 _ _ _ _ _ _ => (II_mk c1 c2 c3 c4 c5 c6 c7 a b d m1 m2n m3 m4 m5 m6 m7 r1 rfl r3 r4 r5 r6 r7 r8)))
theorem hk_22 (i : Nat) (hi : i + 6 ≤ 3072) : lH22 (II i) (II (i + 6)) := by
  unfold lH22
  intro k_nightPlay k_nightWeather w_kept g_number g_sort g_kind g_tip g_marks g_brass g_peg g_has e_number e_facts c_number c_guest c_yes c_no n_number n_left z_kept zg_number zg_sort zg_kind zg_tip zg_marks zg_brass zg_peg zg_has ze_number ze_facts zc_number zc_guest zc_yes zc_no zn_number zn_left o_kept og_number og_sort og_kind og_tip og_marks og_brass og_peg og_has oe_number oe_facts oc_number oc_guest oc_yes oc_no on_number on_left h_pegs h_ticks h_loss h_kind h_walk h_share h_weight r_length r_place r_failure r_at r_firstFigure r_toldBefore r_text d_pegs d_ticks d_loss d_kind d_walk d_share d_weight p_sum p_expected p_pegFor p_taken u_size u_loss u_bestTips u_bestWaits u_ticks u_tip u_row u_freeAt u_waits u_greatest u_tips u_best q_claims q_fitting q_waysOf m_pegs m_halls m_texted m_faultPlace m_at0 m_word m_wordEnd m_number m_numberAt m_readPegs m_toldSet m_sortSet m_guests m_nightPlay m_nightWeather m_nights m_events m_chainMany m_isRound m_rowMany m_waitSum m_waitMost m_tipSum m_claims m_imageAt m_pegKind m_pegWalk m_oddsOf m_singles m_text m_readKind m_readWalk m_readOdds m_readSingle m_hangs m_sorts m_kinds m_tips m_marks m_brasses m_has m_hungBy m_planned m_isTaken m_plays m_weathers m_lefts m_eventRow m_chained m_row m_freeAt m_bestRow m_claimGuest m_claimYes m_claimNo m_waysTo m_images m_isKept hI _ v1 v2 v3 h1 h2 h3
  obtain ⟨c1, c2, c3, c4, c5, c6, c7, c8, c9, c10, m1, m2, m3, m4, m5, m6, m7, r1, r2, r3, r4, r5, r6, r7, r8⟩ := II_e hI
  clear hI
  subst r2
  have e4 := r4.1
  subst e4
  have m2n : 0 ≤ m_halls ∧ m_halls ≤ ((i + 6 : Nat) : Int) + 1 := by omega
  have pq := m1.2.2.2 rfl
  have hpg : 0 ≤ h_pegs ∧ h_pegs ≤ 24 := ⟨m1.1, m1.2.1⟩
  have hgu : 0 ≤ m_guests ∧ m_guests ≤ 16 := ⟨m6.1.1, m6.1.2.1⟩
  have hso : ∀ g, 0 ≤ g → g < 16 → 0 ≤ m_sorts g ∧ m_sorts g ≤ 3 := fun g a b => ⟨(m6.1.2.2.1 g a b).1, (m6.1.2.2.1 g a b).2.1⟩
  have hti : ∀ g, 0 ≤ g → g < 16 → 0 ≤ m_tips g ∧ m_tips g ≤ 99 := fun g a b => ⟨(m6.1.2.2.1 g a b).2.2.1, (m6.1.2.2.1 g a b).2.2.2.1⟩
  have hh : ∀ p, 0 ≤ p → p < 24 → -1 ≤ m_hangs p ∧ m_hangs p < 16 := fun p a b => by
    have := m6.1.2.2.2.2.1 p a b
    omega
  exact st_Hbest c1.1 c4 c8 c9 c10 (fun r _ _ _ _ _ _ _ _ _ _ _ _ a b d => st_mbestRow hpg hgu m1.2.2.1 pq.2.2 hti (fun r2 _ _ _ _ _ _ _ => (II_mk c1 c2 c3 c4 c5 c6 c7 a b d m1 m2n m3 m4 m5 m6 m7 r1 rfl r3 r4 r5 r6 r7 r8)))
theorem hk_23 (i : Nat) (hi : i + 6 ≤ 3072) : lH23 (II i) (II (i + 6)) := by
  unfold lH23
  intro k_nightPlay k_nightWeather w_kept g_number g_sort g_kind g_tip g_marks g_brass g_peg g_has e_number e_facts c_number c_guest c_yes c_no n_number n_left z_kept zg_number zg_sort zg_kind zg_tip zg_marks zg_brass zg_peg zg_has ze_number ze_facts zc_number zc_guest zc_yes zc_no zn_number zn_left o_kept og_number og_sort og_kind og_tip og_marks og_brass og_peg og_has oe_number oe_facts oc_number oc_guest oc_yes oc_no on_number on_left h_pegs h_ticks h_loss h_kind h_walk h_share h_weight r_length r_place r_failure r_at r_firstFigure r_toldBefore r_text d_pegs d_ticks d_loss d_kind d_walk d_share d_weight p_sum p_expected p_pegFor p_taken u_size u_loss u_bestTips u_bestWaits u_ticks u_tip u_row u_freeAt u_waits u_greatest u_tips u_best q_claims q_fitting q_waysOf m_pegs m_halls m_texted m_faultPlace m_at0 m_word m_wordEnd m_number m_numberAt m_readPegs m_toldSet m_sortSet m_guests m_nightPlay m_nightWeather m_nights m_events m_chainMany m_isRound m_rowMany m_waitSum m_waitMost m_tipSum m_claims m_imageAt m_pegKind m_pegWalk m_oddsOf m_singles m_text m_readKind m_readWalk m_readOdds m_readSingle m_hangs m_sorts m_kinds m_tips m_marks m_brasses m_has m_hungBy m_planned m_isTaken m_plays m_weathers m_lefts m_eventRow m_chained m_row m_freeAt m_bestRow m_claimGuest m_claimYes m_claimNo m_waysTo m_images m_isKept hI _ v1 v2 h1 h2
  obtain ⟨c1, c2, c3, c4, c5, c6, c7, c8, c9, c10, m1, m2, m3, m4, m5, m6, m7, r1, r2, r3, r4, r5, r6, r7, r8⟩ := II_e hI
  clear hI
  subst r2
  have e4 := r4.1
  subst e4
  have m2n : 0 ≤ m_halls ∧ m_halls ≤ ((i + 6 : Nat) : Int) + 1 := by omega
  have pq := m1.2.2.2 rfl
  have hpg : 0 ≤ h_pegs ∧ h_pegs ≤ 24 := ⟨m1.1, m1.2.1⟩
  have hgu : 0 ≤ m_guests ∧ m_guests ≤ 16 := ⟨m6.1.1, m6.1.2.1⟩
  have hso : ∀ g, 0 ≤ g → g < 16 → 0 ≤ m_sorts g ∧ m_sorts g ≤ 3 := fun g a b => ⟨(m6.1.2.2.1 g a b).1, (m6.1.2.2.1 g a b).2.1⟩
  have hti : ∀ g, 0 ≤ g → g < 16 → 0 ≤ m_tips g ∧ m_tips g ≤ 99 := fun g a b => ⟨(m6.1.2.2.1 g a b).2.2.1, (m6.1.2.2.1 g a b).2.2.2.1⟩
  have hh : ∀ p, 0 ≤ p → p < 24 → -1 ≤ m_hangs p ∧ m_hangs p < 16 := fun p a b => by
    have := m6.1.2.2.2.2.1 p a b
    omega
  exact sim_wanted hpg c1.1 c4 (fun q a b => (r4.2.1 q a b).2) r4.2.2.2.2.1 r4.2.2.2.2.2 h1 c8 c9 c10 m6 r5 (fun r r2 _ _ _ _ _ _ _ _ _ _ _ _ _ _ _ a b d e => ⟨e, (II_mk c1 c2 c3 c4 c5 c6 c7 a b d m1 m2n m3 m4 m5 m6 m7 r1 rfl r3 r4 r5 r6 r7 r8)⟩)
theorem hk_24 (i : Nat) (hi : i + 6 ≤ 3072) : lH24 (II i) (II (i + 6)) := by
  unfold lH24
  intro k_nightPlay k_nightWeather w_kept g_number g_sort g_kind g_tip g_marks g_brass g_peg g_has e_number e_facts c_number c_guest c_yes c_no n_number n_left z_kept zg_number zg_sort zg_kind zg_tip zg_marks zg_brass zg_peg zg_has ze_number ze_facts zc_number zc_guest zc_yes zc_no zn_number zn_left o_kept og_number og_sort og_kind og_tip og_marks og_brass og_peg og_has oe_number oe_facts oc_number oc_guest oc_yes oc_no on_number on_left h_pegs h_ticks h_loss h_kind h_walk h_share h_weight r_length r_place r_failure r_at r_firstFigure r_toldBefore r_text d_pegs d_ticks d_loss d_kind d_walk d_share d_weight p_sum p_expected p_pegFor p_taken u_size u_loss u_bestTips u_bestWaits u_ticks u_tip u_row u_freeAt u_waits u_greatest u_tips u_best q_claims q_fitting q_waysOf m_pegs m_halls m_texted m_faultPlace m_at0 m_word m_wordEnd m_number m_numberAt m_readPegs m_toldSet m_sortSet m_guests m_nightPlay m_nightWeather m_nights m_events m_chainMany m_isRound m_rowMany m_waitSum m_waitMost m_tipSum m_claims m_imageAt m_pegKind m_pegWalk m_oddsOf m_singles m_text m_readKind m_readWalk m_readOdds m_readSingle m_hangs m_sorts m_kinds m_tips m_marks m_brasses m_has m_hungBy m_planned m_isTaken m_plays m_weathers m_lefts m_eventRow m_chained m_row m_freeAt m_bestRow m_claimGuest m_claimYes m_claimNo m_waysTo m_images m_isKept hI _ v1 v2 v3 h1 h2 h3
  obtain ⟨c1, c2, c3, c4, c5, c6, c7, c8, c9, c10, m1, m2, m3, m4, m5, m6, m7, r1, r2, r3, r4, r5, r6, r7, r8⟩ := II_e hI
  clear hI
  subst r2
  have e4 := r4.1
  subst e4
  have m2n : 0 ≤ m_halls ∧ m_halls ≤ ((i + 6 : Nat) : Int) + 1 := by omega
  have pq := m1.2.2.2 rfl
  have hpg : 0 ≤ h_pegs ∧ h_pegs ≤ 24 := ⟨m1.1, m1.2.1⟩
  have hgu : 0 ≤ m_guests ∧ m_guests ≤ 16 := ⟨m6.1.1, m6.1.2.1⟩
  have hso : ∀ g, 0 ≤ g → g < 16 → 0 ≤ m_sorts g ∧ m_sorts g ≤ 3 := fun g a b => ⟨(m6.1.2.2.1 g a b).1, (m6.1.2.2.1 g a b).2.1⟩
  have hti : ∀ g, 0 ≤ g → g < 16 → 0 ≤ m_tips g ∧ m_tips g ≤ 99 := fun g a b => ⟨(m6.1.2.2.1 g a b).2.2.1, (m6.1.2.2.1 g a b).2.2.2.1⟩
  have hh : ∀ p, 0 ≤ p → p < 24 → -1 ≤ m_hangs p ∧ m_hangs p < 16 := fun p a b => by
    have := m6.1.2.2.2.2.1 p a b
    omega
  exact sim_claim m6 r5 (fun r _ _ _ _ _ _ _ _ e f s => (II_mk ⟨c1.1, c1.2.1, e, c1.2.2.2⟩ c2 c3 c4 c5 c6 c7 c8 c9 c10 m1 m2n m3 m4 m5 f m7 r1 rfl r3 r4 s r6 r7 r8))
theorem hk_25 (i : Nat) (hi : i + 6 ≤ 3072) : lH25 (II i) (II (i + 6)) := by
  unfold lH25
  intro k_nightPlay k_nightWeather w_kept g_number g_sort g_kind g_tip g_marks g_brass g_peg g_has e_number e_facts c_number c_guest c_yes c_no n_number n_left z_kept zg_number zg_sort zg_kind zg_tip zg_marks zg_brass zg_peg zg_has ze_number ze_facts zc_number zc_guest zc_yes zc_no zn_number zn_left o_kept og_number og_sort og_kind og_tip og_marks og_brass og_peg og_has oe_number oe_facts oc_number oc_guest oc_yes oc_no on_number on_left h_pegs h_ticks h_loss h_kind h_walk h_share h_weight r_length r_place r_failure r_at r_firstFigure r_toldBefore r_text d_pegs d_ticks d_loss d_kind d_walk d_share d_weight p_sum p_expected p_pegFor p_taken u_size u_loss u_bestTips u_bestWaits u_ticks u_tip u_row u_freeAt u_waits u_greatest u_tips u_best q_claims q_fitting q_waysOf m_pegs m_halls m_texted m_faultPlace m_at0 m_word m_wordEnd m_number m_numberAt m_readPegs m_toldSet m_sortSet m_guests m_nightPlay m_nightWeather m_nights m_events m_chainMany m_isRound m_rowMany m_waitSum m_waitMost m_tipSum m_claims m_imageAt m_pegKind m_pegWalk m_oddsOf m_singles m_text m_readKind m_readWalk m_readOdds m_readSingle m_hangs m_sorts m_kinds m_tips m_marks m_brasses m_has m_hungBy m_planned m_isTaken m_plays m_weathers m_lefts m_eventRow m_chained m_row m_freeAt m_bestRow m_claimGuest m_claimYes m_claimNo m_waysTo m_images m_isKept hI _ v1 h1
  obtain ⟨c1, c2, c3, c4, c5, c6, c7, c8, c9, c10, m1, m2, m3, m4, m5, m6, m7, r1, r2, r3, r4, r5, r6, r7, r8⟩ := II_e hI
  clear hI
  subst r2
  have e4 := r4.1
  subst e4
  have m2n : 0 ≤ m_halls ∧ m_halls ≤ ((i + 6 : Nat) : Int) + 1 := by omega
  have pq := m1.2.2.2 rfl
  have hpg : 0 ≤ h_pegs ∧ h_pegs ≤ 24 := ⟨m1.1, m1.2.1⟩
  have hgu : 0 ≤ m_guests ∧ m_guests ≤ 16 := ⟨m6.1.1, m6.1.2.1⟩
  have hso : ∀ g, 0 ≤ g → g < 16 → 0 ≤ m_sorts g ∧ m_sorts g ≤ 3 := fun g a b => ⟨(m6.1.2.2.1 g a b).1, (m6.1.2.2.1 g a b).2.1⟩
  have hti : ∀ g, 0 ≤ g → g < 16 → 0 ≤ m_tips g ∧ m_tips g ≤ 99 := fun g a b => ⟨(m6.1.2.2.1 g a b).2.2.1, (m6.1.2.2.1 g a b).2.2.2.1⟩
  have hh : ∀ p, 0 ≤ p → p < 24 → -1 ≤ m_hangs p ∧ m_hangs p < 16 := fun p a b => by
    have := m6.1.2.2.2.2.1 p a b
    omega
  exact st_Hfits c1.1.1 c1.2.2.1 (fun r => st_mfits hpg m6.2.2.1 hh m6.2.2.2.2.2.1 (fun r2 => (II_mk c1 c2 c3 c4 c5 c6 c7 c8 c9 c10 m1 m2n m3 m4 m5 m6 m7 r1 rfl r3 r4 r5 r6 r7 r8)))
theorem hk_26 (i : Nat) (hi : i + 6 ≤ 3072) : lH26 (II i) (II (i + 6)) := by
  unfold lH26
  intro k_nightPlay k_nightWeather w_kept g_number g_sort g_kind g_tip g_marks g_brass g_peg g_has e_number e_facts c_number c_guest c_yes c_no n_number n_left z_kept zg_number zg_sort zg_kind zg_tip zg_marks zg_brass zg_peg zg_has ze_number ze_facts zc_number zc_guest zc_yes zc_no zn_number zn_left o_kept og_number og_sort og_kind og_tip og_marks og_brass og_peg og_has oe_number oe_facts oc_number oc_guest oc_yes oc_no on_number on_left h_pegs h_ticks h_loss h_kind h_walk h_share h_weight r_length r_place r_failure r_at r_firstFigure r_toldBefore r_text d_pegs d_ticks d_loss d_kind d_walk d_share d_weight p_sum p_expected p_pegFor p_taken u_size u_loss u_bestTips u_bestWaits u_ticks u_tip u_row u_freeAt u_waits u_greatest u_tips u_best q_claims q_fitting q_waysOf m_pegs m_halls m_texted m_faultPlace m_at0 m_word m_wordEnd m_number m_numberAt m_readPegs m_toldSet m_sortSet m_guests m_nightPlay m_nightWeather m_nights m_events m_chainMany m_isRound m_rowMany m_waitSum m_waitMost m_tipSum m_claims m_imageAt m_pegKind m_pegWalk m_oddsOf m_singles m_text m_readKind m_readWalk m_readOdds m_readSingle m_hangs m_sorts m_kinds m_tips m_marks m_brasses m_has m_hungBy m_planned m_isTaken m_plays m_weathers m_lefts m_eventRow m_chained m_row m_freeAt m_bestRow m_claimGuest m_claimYes m_claimNo m_waysTo m_images m_isKept hI _ 
  obtain ⟨c1, c2, c3, c4, c5, c6, c7, c8, c9, c10, m1, m2, m3, m4, m5, m6, m7, r1, r2, r3, r4, r5, r6, r7, r8⟩ := II_e hI
  clear hI
  subst r2
  have e4 := r4.1
  subst e4
  have m2n : 0 ≤ m_halls ∧ m_halls ≤ ((i + 6 : Nat) : Int) + 1 := by omega
  have pq := m1.2.2.2 rfl
  have hpg : 0 ≤ h_pegs ∧ h_pegs ≤ 24 := ⟨m1.1, m1.2.1⟩
  have hgu : 0 ≤ m_guests ∧ m_guests ≤ 16 := ⟨m6.1.1, m6.1.2.1⟩
  have hso : ∀ g, 0 ≤ g → g < 16 → 0 ≤ m_sorts g ∧ m_sorts g ≤ 3 := fun g a b => ⟨(m6.1.2.2.1 g a b).1, (m6.1.2.2.1 g a b).2.1⟩
  have hti : ∀ g, 0 ≤ g → g < 16 → 0 ≤ m_tips g ∧ m_tips g ≤ 99 := fun g a b => ⟨(m6.1.2.2.1 g a b).2.2.1, (m6.1.2.2.1 g a b).2.2.2.1⟩
  have hh : ∀ p, 0 ≤ p → p < 24 → -1 ≤ m_hangs p ∧ m_hangs p < 16 := fun p a b => by
    have := m6.1.2.2.2.2.1 p a b
    omega
  exact st_Hways c1.1.1 c1.2.2.1 (fun r _ _ _ => st_mways hpg hgu m6.2.2.1 hh m6.2.2.2.2.2.1 (fun r2 _ => (II_mk c1 c2 c3 c4 c5 c6 c7 c8 c9 c10 m1 m2n m3 m4 m5 m6 m7 r1 rfl r3 r4 r5 r6 r7 r8)))
theorem hk_27 (i : Nat) (hi : i + 6 ≤ 3072) : lH27 (II i) (II (i + 6)) := by
  unfold lH27
  intro k_nightPlay k_nightWeather w_kept g_number g_sort g_kind g_tip g_marks g_brass g_peg g_has e_number e_facts c_number c_guest c_yes c_no n_number n_left z_kept zg_number zg_sort zg_kind zg_tip zg_marks zg_brass zg_peg zg_has ze_number ze_facts zc_number zc_guest zc_yes zc_no zn_number zn_left o_kept og_number og_sort og_kind og_tip og_marks og_brass og_peg og_has oe_number oe_facts oc_number oc_guest oc_yes oc_no on_number on_left h_pegs h_ticks h_loss h_kind h_walk h_share h_weight r_length r_place r_failure r_at r_firstFigure r_toldBefore r_text d_pegs d_ticks d_loss d_kind d_walk d_share d_weight p_sum p_expected p_pegFor p_taken u_size u_loss u_bestTips u_bestWaits u_ticks u_tip u_row u_freeAt u_waits u_greatest u_tips u_best q_claims q_fitting q_waysOf m_pegs m_halls m_texted m_faultPlace m_at0 m_word m_wordEnd m_number m_numberAt m_readPegs m_toldSet m_sortSet m_guests m_nightPlay m_nightWeather m_nights m_events m_chainMany m_isRound m_rowMany m_waitSum m_waitMost m_tipSum m_claims m_imageAt m_pegKind m_pegWalk m_oddsOf m_singles m_text m_readKind m_readWalk m_readOdds m_readSingle m_hangs m_sorts m_kinds m_tips m_marks m_brasses m_has m_hungBy m_planned m_isTaken m_plays m_weathers m_lefts m_eventRow m_chained m_row m_freeAt m_bestRow m_claimGuest m_claimYes m_claimNo m_waysTo m_images m_isKept hI _ v1 h1
  obtain ⟨c1, c2, c3, c4, c5, c6, c7, c8, c9, c10, m1, m2, m3, m4, m5, m6, m7, r1, r2, r3, r4, r5, r6, r7, r8⟩ := II_e hI
  clear hI
  subst r2
  have e4 := r4.1
  subst e4
  have m2n : 0 ≤ m_halls ∧ m_halls ≤ ((i + 6 : Nat) : Int) + 1 := by omega
  have pq := m1.2.2.2 rfl
  have hpg : 0 ≤ h_pegs ∧ h_pegs ≤ 24 := ⟨m1.1, m1.2.1⟩
  have hgu : 0 ≤ m_guests ∧ m_guests ≤ 16 := ⟨m6.1.1, m6.1.2.1⟩
  have hso : ∀ g, 0 ≤ g → g < 16 → 0 ≤ m_sorts g ∧ m_sorts g ≤ 3 := fun g a b => ⟨(m6.1.2.2.1 g a b).1, (m6.1.2.2.1 g a b).2.1⟩
  have hti : ∀ g, 0 ≤ g → g < 16 → 0 ≤ m_tips g ∧ m_tips g ≤ 99 := fun g a b => ⟨(m6.1.2.2.1 g a b).2.2.1, (m6.1.2.2.1 g a b).2.2.2.1⟩
  have hh : ∀ p, 0 ≤ p → p < 24 → -1 ≤ m_hangs p ∧ m_hangs p < 16 := fun p a b => by
    have := m6.1.2.2.2.2.1 p a b
    omega
  exact st_Hsure c1.1.1 c1.2.2.1 (fun r _ _ _ => st_msure hpg hgu m6.2.2.1 hh m6.2.2.2.2.2.1 (fun r2 _ => (II_mk c1 c2 c3 c4 c5 c6 c7 c8 c9 c10 m1 m2n m3 m4 m5 m6 m7 r1 rfl r3 r4 r5 r6 r7 r8)))
theorem hk_28 (i : Nat) (hi : i + 6 ≤ 3072) : lH28 (II i) (II (i + 6)) := by
  unfold lH28
  intro k_nightPlay k_nightWeather w_kept g_number g_sort g_kind g_tip g_marks g_brass g_peg g_has e_number e_facts c_number c_guest c_yes c_no n_number n_left z_kept zg_number zg_sort zg_kind zg_tip zg_marks zg_brass zg_peg zg_has ze_number ze_facts zc_number zc_guest zc_yes zc_no zn_number zn_left o_kept og_number og_sort og_kind og_tip og_marks og_brass og_peg og_has oe_number oe_facts oc_number oc_guest oc_yes oc_no on_number on_left h_pegs h_ticks h_loss h_kind h_walk h_share h_weight r_length r_place r_failure r_at r_firstFigure r_toldBefore r_text d_pegs d_ticks d_loss d_kind d_walk d_share d_weight p_sum p_expected p_pegFor p_taken u_size u_loss u_bestTips u_bestWaits u_ticks u_tip u_row u_freeAt u_waits u_greatest u_tips u_best q_claims q_fitting q_waysOf m_pegs m_halls m_texted m_faultPlace m_at0 m_word m_wordEnd m_number m_numberAt m_readPegs m_toldSet m_sortSet m_guests m_nightPlay m_nightWeather m_nights m_events m_chainMany m_isRound m_rowMany m_waitSum m_waitMost m_tipSum m_claims m_imageAt m_pegKind m_pegWalk m_oddsOf m_singles m_text m_readKind m_readWalk m_readOdds m_readSingle m_hangs m_sorts m_kinds m_tips m_marks m_brasses m_has m_hungBy m_planned m_isTaken m_plays m_weathers m_lefts m_eventRow m_chained m_row m_freeAt m_bestRow m_claimGuest m_claimYes m_claimNo m_waysTo m_images m_isKept hI _ v1 h1
  obtain ⟨c1, c2, c3, c4, c5, c6, c7, c8, c9, c10, m1, m2, m3, m4, m5, m6, m7, r1, r2, r3, r4, r5, r6, r7, r8⟩ := II_e hI
  clear hI
  subst r2
  have e4 := r4.1
  subst e4
  have m2n : 0 ≤ m_halls ∧ m_halls ≤ ((i + 6 : Nat) : Int) + 1 := by omega
  have pq := m1.2.2.2 rfl
  have hpg : 0 ≤ h_pegs ∧ h_pegs ≤ 24 := ⟨m1.1, m1.2.1⟩
  have hgu : 0 ≤ m_guests ∧ m_guests ≤ 16 := ⟨m6.1.1, m6.1.2.1⟩
  have hso : ∀ g, 0 ≤ g → g < 16 → 0 ≤ m_sorts g ∧ m_sorts g ≤ 3 := fun g a b => ⟨(m6.1.2.2.1 g a b).1, (m6.1.2.2.1 g a b).2.1⟩
  have hti : ∀ g, 0 ≤ g → g < 16 → 0 ≤ m_tips g ∧ m_tips g ≤ 99 := fun g a b => ⟨(m6.1.2.2.1 g a b).2.2.1, (m6.1.2.2.1 g a b).2.2.2.1⟩
  have hh : ∀ p, 0 ≤ p → p < 24 → -1 ≤ m_hangs p ∧ m_hangs p < 16 := fun p a b => by
    have := m6.1.2.2.2.2.1 p a b
    omega
  exact sim_grant hpg m6 r5 (fun r _ _ _ _ _ _ _ _ _ _ _ _ _ _ _ _ e f s => (II_mk ⟨c1.1, c1.2.1, e, c1.2.2.2⟩ c2 c3 c4 c5 c6 c7 c8 c9 c10 m1 m2n m3 m4 m5 f m7 r1 rfl r3 r4 s r6 r7 r8))
theorem hk_29 (i : Nat) (hi : i + 6 ≤ 3072) : lH29 (II i) (II (i + 6)) := by
  unfold lH29
  intro k_nightPlay k_nightWeather w_kept g_number g_sort g_kind g_tip g_marks g_brass g_peg g_has e_number e_facts c_number c_guest c_yes c_no n_number n_left z_kept zg_number zg_sort zg_kind zg_tip zg_marks zg_brass zg_peg zg_has ze_number ze_facts zc_number zc_guest zc_yes zc_no zn_number zn_left o_kept og_number og_sort og_kind og_tip og_marks og_brass og_peg og_has oe_number oe_facts oc_number oc_guest oc_yes oc_no on_number on_left h_pegs h_ticks h_loss h_kind h_walk h_share h_weight r_length r_place r_failure r_at r_firstFigure r_toldBefore r_text d_pegs d_ticks d_loss d_kind d_walk d_share d_weight p_sum p_expected p_pegFor p_taken u_size u_loss u_bestTips u_bestWaits u_ticks u_tip u_row u_freeAt u_waits u_greatest u_tips u_best q_claims q_fitting q_waysOf m_pegs m_halls m_texted m_faultPlace m_at0 m_word m_wordEnd m_number m_numberAt m_readPegs m_toldSet m_sortSet m_guests m_nightPlay m_nightWeather m_nights m_events m_chainMany m_isRound m_rowMany m_waitSum m_waitMost m_tipSum m_claims m_imageAt m_pegKind m_pegWalk m_oddsOf m_singles m_text m_readKind m_readWalk m_readOdds m_readSingle m_hangs m_sorts m_kinds m_tips m_marks m_brasses m_has m_hungBy m_planned m_isTaken m_plays m_weathers m_lefts m_eventRow m_chained m_row m_freeAt m_bestRow m_claimGuest m_claimYes m_claimNo m_waysTo m_images m_isKept hI _ v1 v2 h1 h2
  obtain ⟨c1, c2, c3, c4, c5, c6, c7, c8, c9, c10, m1, m2, m3, m4, m5, m6, m7, r1, r2, r3, r4, r5, r6, r7, r8⟩ := II_e hI
  clear hI
  subst r2
  have e4 := r4.1
  subst e4
  have m2n : 0 ≤ m_halls ∧ m_halls ≤ ((i + 6 : Nat) : Int) + 1 := by omega
  have pq := m1.2.2.2 rfl
  have hpg : 0 ≤ h_pegs ∧ h_pegs ≤ 24 := ⟨m1.1, m1.2.1⟩
  have hgu : 0 ≤ m_guests ∧ m_guests ≤ 16 := ⟨m6.1.1, m6.1.2.1⟩
  have hso : ∀ g, 0 ≤ g → g < 16 → 0 ≤ m_sorts g ∧ m_sorts g ≤ 3 := fun g a b => ⟨(m6.1.2.2.1 g a b).1, (m6.1.2.2.1 g a b).2.1⟩
  have hti : ∀ g, 0 ≤ g → g < 16 → 0 ≤ m_tips g ∧ m_tips g ≤ 99 := fun g a b => ⟨(m6.1.2.2.1 g a b).2.2.1, (m6.1.2.2.1 g a b).2.2.2.1⟩
  have hh : ∀ p, 0 ≤ p → p < 24 → -1 ≤ m_hangs p ∧ m_hangs p < 16 := fun p a b => by
    have := m6.1.2.2.2.2.1 p a b
    omega
  exact st_Hapart (fun r => st_mapart hgu (fun r2 => (II_mk c1 c2 c3 c4 c5 c6 c7 c8 c9 c10 m1 m2n m3 m4 m5 m6 m7 r1 rfl r3 r4 r5 r6 r7 r8)))
theorem hk_30 (i : Nat) (hi : i + 6 ≤ 3072) : lH30 (II i) (II (i + 6)) := by
  unfold lH30
  intro k_nightPlay k_nightWeather w_kept g_number g_sort g_kind g_tip g_marks g_brass g_peg g_has e_number e_facts c_number c_guest c_yes c_no n_number n_left z_kept zg_number zg_sort zg_kind zg_tip zg_marks zg_brass zg_peg zg_has ze_number ze_facts zc_number zc_guest zc_yes zc_no zn_number zn_left o_kept og_number og_sort og_kind og_tip og_marks og_brass og_peg og_has oe_number oe_facts oc_number oc_guest oc_yes oc_no on_number on_left h_pegs h_ticks h_loss h_kind h_walk h_share h_weight r_length r_place r_failure r_at r_firstFigure r_toldBefore r_text d_pegs d_ticks d_loss d_kind d_walk d_share d_weight p_sum p_expected p_pegFor p_taken u_size u_loss u_bestTips u_bestWaits u_ticks u_tip u_row u_freeAt u_waits u_greatest u_tips u_best q_claims q_fitting q_waysOf m_pegs m_halls m_texted m_faultPlace m_at0 m_word m_wordEnd m_number m_numberAt m_readPegs m_toldSet m_sortSet m_guests m_nightPlay m_nightWeather m_nights m_events m_chainMany m_isRound m_rowMany m_waitSum m_waitMost m_tipSum m_claims m_imageAt m_pegKind m_pegWalk m_oddsOf m_singles m_text m_readKind m_readWalk m_readOdds m_readSingle m_hangs m_sorts m_kinds m_tips m_marks m_brasses m_has m_hungBy m_planned m_isTaken m_plays m_weathers m_lefts m_eventRow m_chained m_row m_freeAt m_bestRow m_claimGuest m_claimYes m_claimNo m_waysTo m_images m_isKept hI _ v1 h1
  obtain ⟨c1, c2, c3, c4, c5, c6, c7, c8, c9, c10, m1, m2, m3, m4, m5, m6, m7, r1, r2, r3, r4, r5, r6, r7, r8⟩ := II_e hI
  clear hI
  subst r2
  have e4 := r4.1
  subst e4
  have m2n : 0 ≤ m_halls ∧ m_halls ≤ ((i + 6 : Nat) : Int) + 1 := by omega
  have pq := m1.2.2.2 rfl
  have hpg : 0 ≤ h_pegs ∧ h_pegs ≤ 24 := ⟨m1.1, m1.2.1⟩
  have hgu : 0 ≤ m_guests ∧ m_guests ≤ 16 := ⟨m6.1.1, m6.1.2.1⟩
  have hso : ∀ g, 0 ≤ g → g < 16 → 0 ≤ m_sorts g ∧ m_sorts g ≤ 3 := fun g a b => ⟨(m6.1.2.2.1 g a b).1, (m6.1.2.2.1 g a b).2.1⟩
  have hti : ∀ g, 0 ≤ g → g < 16 → 0 ≤ m_tips g ∧ m_tips g ≤ 99 := fun g a b => ⟨(m6.1.2.2.1 g a b).2.2.1, (m6.1.2.2.1 g a b).2.2.2.1⟩
  have hh : ∀ p, 0 ≤ p → p < 24 → -1 ≤ m_hangs p ∧ m_hangs p < 16 := fun p a b => by
    have := m6.1.2.2.2.2.1 p a b
    omega
  exact st_Hasks c1.1.1 c1.2.2.1 (fun r => st_masks hpg m6.2.2.1 hh m6.2.2.2.2.2.1 (fun r2 => (II_mk c1 c2 c3 c4 c5 c6 c7 c8 c9 c10 m1 m2n m3 m4 m5 m6 m7 r1 rfl r3 r4 r5 r6 r7 r8)))
theorem hk_31 (i : Nat) (hi : i + 6 ≤ 3072) : lH31 (II i) (II (i + 6)) := by
  unfold lH31
  intro k_nightPlay k_nightWeather w_kept g_number g_sort g_kind g_tip g_marks g_brass g_peg g_has e_number e_facts c_number c_guest c_yes c_no n_number n_left z_kept zg_number zg_sort zg_kind zg_tip zg_marks zg_brass zg_peg zg_has ze_number ze_facts zc_number zc_guest zc_yes zc_no zn_number zn_left o_kept og_number og_sort og_kind og_tip og_marks og_brass og_peg og_has oe_number oe_facts oc_number oc_guest oc_yes oc_no on_number on_left h_pegs h_ticks h_loss h_kind h_walk h_share h_weight r_length r_place r_failure r_at r_firstFigure r_toldBefore r_text d_pegs d_ticks d_loss d_kind d_walk d_share d_weight p_sum p_expected p_pegFor p_taken u_size u_loss u_bestTips u_bestWaits u_ticks u_tip u_row u_freeAt u_waits u_greatest u_tips u_best q_claims q_fitting q_waysOf m_pegs m_halls m_texted m_faultPlace m_at0 m_word m_wordEnd m_number m_numberAt m_readPegs m_toldSet m_sortSet m_guests m_nightPlay m_nightWeather m_nights m_events m_chainMany m_isRound m_rowMany m_waitSum m_waitMost m_tipSum m_claims m_imageAt m_pegKind m_pegWalk m_oddsOf m_singles m_text m_readKind m_readWalk m_readOdds m_readSingle m_hangs m_sorts m_kinds m_tips m_marks m_brasses m_has m_hungBy m_planned m_isTaken m_plays m_weathers m_lefts m_eventRow m_chained m_row m_freeAt m_bestRow m_claimGuest m_claimYes m_claimNo m_waysTo m_images m_isKept hI _ v1 h1
  obtain ⟨c1, c2, c3, c4, c5, c6, c7, c8, c9, c10, m1, m2, m3, m4, m5, m6, m7, r1, r2, r3, r4, r5, r6, r7, r8⟩ := II_e hI
  clear hI
  subst r2
  have e4 := r4.1
  subst e4
  have m2n : 0 ≤ m_halls ∧ m_halls ≤ ((i + 6 : Nat) : Int) + 1 := by omega
  have pq := m1.2.2.2 rfl
  have hpg : 0 ≤ h_pegs ∧ h_pegs ≤ 24 := ⟨m1.1, m1.2.1⟩
  have hgu : 0 ≤ m_guests ∧ m_guests ≤ 16 := ⟨m6.1.1, m6.1.2.1⟩
  have hso : ∀ g, 0 ≤ g → g < 16 → 0 ≤ m_sorts g ∧ m_sorts g ≤ 3 := fun g a b => ⟨(m6.1.2.2.1 g a b).1, (m6.1.2.2.1 g a b).2.1⟩
  have hti : ∀ g, 0 ≤ g → g < 16 → 0 ≤ m_tips g ∧ m_tips g ≤ 99 := fun g a b => ⟨(m6.1.2.2.1 g a b).2.2.1, (m6.1.2.2.1 g a b).2.2.2.1⟩
  have hh : ∀ p, 0 ≤ p → p < 24 → -1 ≤ m_hangs p ∧ m_hangs p < 16 := fun p a b => by
    have := m6.1.2.2.2.2.1 p a b
    omega
  exact st_Hkeep (fun n => st_mkeep (fun _ => (II_mk c1 c2 c3 c4 c5 c6 c7 c8 c9 c10 m1 m2n m3 m4 m5 m6 m7 r1 rfl r3 r4 r5 r6 r7 r8)) (fun y => absurd y n)) (fun e => by subst e; exact st_mkeep (fun n => absurd ⟨by omega, by omega⟩ n) (fun y z im w => (II_mk c1 c1 c3 c4 c5 c6 c7 c8 c9 c10 m1 m2n m3 m4 m5 m6 (mIm_k y m6 w m7) r1 rfl r3 r4 r5 (RI_n m6 r5 w) (RI_o y ⟨by omega, by omega⟩ (by omega) m7 w r7) (RI_8 y w r8)))) (fun e => by subst e; exact st_mkeep (fun n => absurd ⟨by omega, by omega⟩ n) (fun y z im w => (II_mk c1 c2 c1 c4 c5 c6 c7 c8 c9 c10 m1 m2n m3 m4 m5 m6 (mIm_k y m6 w m7) r1 rfl r3 r4 r5 (RI_o y ⟨by omega, by omega⟩ (by omega) m7 w r6) (RI_n m6 r5 w) (RI_8 y w r8))))
theorem hk_32 (i : Nat) (hi : i + 6 ≤ 3072) : lH32 (II i) (II (i + 6)) := by
  unfold lH32
  intro k_nightPlay k_nightWeather w_kept g_number g_sort g_kind g_tip g_marks g_brass g_peg g_has e_number e_facts c_number c_guest c_yes c_no n_number n_left z_kept zg_number zg_sort zg_kind zg_tip zg_marks zg_brass zg_peg zg_has ze_number ze_facts zc_number zc_guest zc_yes zc_no zn_number zn_left o_kept og_number og_sort og_kind og_tip og_marks og_brass og_peg og_has oe_number oe_facts oc_number oc_guest oc_yes oc_no on_number on_left h_pegs h_ticks h_loss h_kind h_walk h_share h_weight r_length r_place r_failure r_at r_firstFigure r_toldBefore r_text d_pegs d_ticks d_loss d_kind d_walk d_share d_weight p_sum p_expected p_pegFor p_taken u_size u_loss u_bestTips u_bestWaits u_ticks u_tip u_row u_freeAt u_waits u_greatest u_tips u_best q_claims q_fitting q_waysOf m_pegs m_halls m_texted m_faultPlace m_at0 m_word m_wordEnd m_number m_numberAt m_readPegs m_toldSet m_sortSet m_guests m_nightPlay m_nightWeather m_nights m_events m_chainMany m_isRound m_rowMany m_waitSum m_waitMost m_tipSum m_claims m_imageAt m_pegKind m_pegWalk m_oddsOf m_singles m_text m_readKind m_readWalk m_readOdds m_readSingle m_hangs m_sorts m_kinds m_tips m_marks m_brasses m_has m_hungBy m_planned m_isTaken m_plays m_weathers m_lefts m_eventRow m_chained m_row m_freeAt m_bestRow m_claimGuest m_claimYes m_claimNo m_waysTo m_images m_isKept hI _ v1 h1
  obtain ⟨c1, c2, c3, c4, c5, c6, c7, c8, c9, c10, m1, m2, m3, m4, m5, m6, m7, r1, r2, r3, r4, r5, r6, r7, r8⟩ := II_e hI
  clear hI
  subst r2
  have e4 := r4.1
  subst e4
  have m2n : 0 ≤ m_halls ∧ m_halls ≤ ((i + 6 : Nat) : Int) + 1 := by omega
  have pq := m1.2.2.2 rfl
  have hpg : 0 ≤ h_pegs ∧ h_pegs ≤ 24 := ⟨m1.1, m1.2.1⟩
  have hgu : 0 ≤ m_guests ∧ m_guests ≤ 16 := ⟨m6.1.1, m6.1.2.1⟩
  have hso : ∀ g, 0 ≤ g → g < 16 → 0 ≤ m_sorts g ∧ m_sorts g ≤ 3 := fun g a b => ⟨(m6.1.2.2.1 g a b).1, (m6.1.2.2.1 g a b).2.1⟩
  have hti : ∀ g, 0 ≤ g → g < 16 → 0 ≤ m_tips g ∧ m_tips g ≤ 99 := fun g a b => ⟨(m6.1.2.2.1 g a b).2.2.1, (m6.1.2.2.1 g a b).2.2.2.1⟩
  have hh : ∀ p, 0 ≤ p → p < 24 → -1 ≤ m_hangs p ∧ m_hangs p < 16 := fun p a b => by
    have := m6.1.2.2.2.2.1 p a b
    omega
  exact so_HgoBack (fun a => sm_goBack (fun _ => (II_mk c1 c2 c3 c4 c5 c6 c7 c8 c9 c10 m1 m2n m3 m4 m5 m6 m7 r1 rfl r3 r4 r5 r6 r7 r8)) (fun b => absurd b a) (fun b => absurd b a)) (fun e z => by subst e; exact sm_goBack (fun n => absurd ⟨by omega, by omega⟩ n) (fun _ _ ia => (II_mk c1 c2 c3 c4 c5 c6 c7 c8 c9 c10 m1 m2n m3 m4 m5 m6 m7 r1 rfl r3 r4 r5 r6 r7 r8)) (fun _ b c => absurd z (r6.2.mpr ⟨b, c⟩))) (fun e z => by subst e; exact sx_goBack ⟨by omega, by omega⟩ (r6.2.mp z).1 (r6.2.mp z).2 (m7 _ (by omega) (by omega) (r6.2.mp z).1) (r6.1 z) (fun _ _ _ _ _ _ _ _ _ _ _ _ _ _ _ _ _ _ _ _ f s => (II_mk c2 c2 c3 c4 c5 c6 c7 c8 c9 c10 m1 m2n m3 m4 m5 f m7 r1 rfl r3 r4 s r6 r7 r8))) (fun e z => by subst e; exact sm_goBack (fun n => absurd ⟨by omega, by omega⟩ n) (fun _ _ ia => (II_mk c1 c2 c3 c4 c5 c6 c7 c8 c9 c10 m1 m2n m3 m4 m5 m6 m7 r1 rfl r3 r4 r5 r6 r7 r8)) (fun _ b c => absurd z (r7.2.mpr ⟨b, c⟩))) (fun e z => by subst e; exact sx_goBack ⟨by omega, by omega⟩ (r7.2.mp z).1 (r7.2.mp z).2 (m7 _ (by omega) (by omega) (r7.2.mp z).1) (r7.1 z) (fun _ _ _ _ _ _ _ _ _ _ _ _ _ _ _ _ _ _ _ _ f s => (II_mk c3 c2 c3 c4 c5 c6 c7 c8 c9 c10 m1 m2n m3 m4 m5 f m7 r1 rfl r3 r4 s r6 r7 r8)))
theorem st_HallI {Q : Int → Int → Int → (Int → Int) → (Int → Int) → (Int → Int) → (Int → Int) → Prop} (h : Q 0 0 0 zA zA zA zA) : nf_Hall_init Q := by
  unfold nf_Hall_init
  simp only [ci_m1, ci_m10, ci_m1001, ci_m1002, ci_m1003, ci_m1004, ci_0, ci_1, ci_10, ci_100, ci_1000, ci_10000, ci_101, ci_103, ci_104, ci_105, ci_107, ci_108, ci_110, ci_111, ci_114, ci_115, ci_116, ci_118, ci_119, ci_12, ci_122, ci_1431655765, ci_15, ci_16, ci_2, ci_20, ci_23, ci_24, ci_240, ci_252645135, ci_255, ci_256, ci_3, ci_32, ci_4, ci_420, ci_48, ci_5, ci_5040, ci_57, ci_59, ci_6, ci_60, ci_63, ci_64, ci_7, ci_70, ci_8, ci_858993459, ci_9, ci_900, ci_97, ci_99, ci_999, ci_9999, cl_0, cl_1, cl_10, cl_1000000000000, cl_122, cl_2, cl_2000000000000, cl_23, cl_255, cl_27, cl_3, cl_4, cl_48, cl_57, cl_6, cl_8, cl_96, cl_97, cl_99, cl_999, cl_9999, wL]
  exact h
theorem st_ReaderI {Q : Int → Int → Int → Int → Int → Int → (Int → Int) → Int → Int → Int → (Int → Int) → (Int → Int) → (Int → Int) → (Int → Int) → Prop} (h : Q 0 (-1) 0 0 0 0 zA 0 0 0 zA zA zA zA) : nf_Reader_init Q := by
  unfold nf_Reader_init nf_Hall_init
  simp only [ci_m1, ci_m10, ci_m1001, ci_m1002, ci_m1003, ci_m1004, ci_0, ci_1, ci_10, ci_100, ci_1000, ci_10000, ci_101, ci_103, ci_104, ci_105, ci_107, ci_108, ci_110, ci_111, ci_114, ci_115, ci_116, ci_118, ci_119, ci_12, ci_122, ci_1431655765, ci_15, ci_16, ci_2, ci_20, ci_23, ci_24, ci_240, ci_252645135, ci_255, ci_256, ci_3, ci_32, ci_4, ci_420, ci_48, ci_5, ci_5040, ci_57, ci_59, ci_6, ci_60, ci_63, ci_64, ci_7, ci_70, ci_8, ci_858993459, ci_9, ci_900, ci_97, ci_99, ci_999, ci_9999, cl_0, cl_1, cl_10, cl_1000000000000, cl_122, cl_2, cl_2000000000000, cl_23, cl_255, cl_27, cl_3, cl_4, cl_48, cl_57, cl_6, cl_8, cl_96, cl_97, cl_99, cl_999, cl_9999, wL]
  exact h
theorem st_GuestsI {Q : Int → (Int → Int) → (Int → Int) → (Int → Int) → (Int → Int) → (Int → Int) → (Int → Int) → (Int → Int) → Prop} (h : Q 0 zA zA zA zA zA zA zA) : nf_Guests_init Q := by
  unfold nf_Guests_init
  simp only [ci_m1, ci_m10, ci_m1001, ci_m1002, ci_m1003, ci_m1004, ci_0, ci_1, ci_10, ci_100, ci_1000, ci_10000, ci_101, ci_103, ci_104, ci_105, ci_107, ci_108, ci_110, ci_111, ci_114, ci_115, ci_116, ci_118, ci_119, ci_12, ci_122, ci_1431655765, ci_15, ci_16, ci_2, ci_20, ci_23, ci_24, ci_240, ci_252645135, ci_255, ci_256, ci_3, ci_32, ci_4, ci_420, ci_48, ci_5, ci_5040, ci_57, ci_59, ci_6, ci_60, ci_63, ci_64, ci_7, ci_70, ci_8, ci_858993459, ci_9, ci_900, ci_97, ci_99, ci_999, ci_9999, cl_0, cl_1, cl_10, cl_1000000000000, cl_122, cl_2, cl_2000000000000, cl_23, cl_255, cl_27, cl_3, cl_4, cl_48, cl_57, cl_6, cl_8, cl_96, cl_97, cl_99, cl_999, cl_9999, wL]
  exact h
theorem st_EventsI {Q : Int → (Int → Int) → Prop} (h : Q 0 zA) : nf_Events_init Q := by
  unfold nf_Events_init
  simp only [ci_m1, ci_m10, ci_m1001, ci_m1002, ci_m1003, ci_m1004, ci_0, ci_1, ci_10, ci_100, ci_1000, ci_10000, ci_101, ci_103, ci_104, ci_105, ci_107, ci_108, ci_110, ci_111, ci_114, ci_115, ci_116, ci_118, ci_119, ci_12, ci_122, ci_1431655765, ci_15, ci_16, ci_2, ci_20, ci_23, ci_24, ci_240, ci_252645135, ci_255, ci_256, ci_3, ci_32, ci_4, ci_420, ci_48, ci_5, ci_5040, ci_57, ci_59, ci_6, ci_60, ci_63, ci_64, ci_7, ci_70, ci_8, ci_858993459, ci_9, ci_900, ci_97, ci_99, ci_999, ci_9999, cl_0, cl_1, cl_10, cl_1000000000000, cl_122, cl_2, cl_2000000000000, cl_23, cl_255, cl_27, cl_3, cl_4, cl_48, cl_57, cl_6, cl_8, cl_96, cl_97, cl_99, cl_999, cl_9999, wL]
  exact h
theorem st_ClaimsI {Q : Int → (Int → Int) → (Int → Int) → (Int → Int) → Prop} (h : Q 0 zA zA zA) : nf_Claims_init Q := by
  unfold nf_Claims_init
  simp only [ci_m1, ci_m10, ci_m1001, ci_m1002, ci_m1003, ci_m1004, ci_0, ci_1, ci_10, ci_100, ci_1000, ci_10000, ci_101, ci_103, ci_104, ci_105, ci_107, ci_108, ci_110, ci_111, ci_114, ci_115, ci_116, ci_118, ci_119, ci_12, ci_122, ci_1431655765, ci_15, ci_16, ci_2, ci_20, ci_23, ci_24, ci_240, ci_252645135, ci_255, ci_256, ci_3, ci_32, ci_4, ci_420, ci_48, ci_5, ci_5040, ci_57, ci_59, ci_6, ci_60, ci_63, ci_64, ci_7, ci_70, ci_8, ci_858993459, ci_9, ci_900, ci_97, ci_99, ci_999, ci_9999, cl_0, cl_1, cl_10, cl_1000000000000, cl_122, cl_2, cl_2000000000000, cl_23, cl_255, cl_27, cl_3, cl_4, cl_48, cl_57, cl_6, cl_8, cl_96, cl_97, cl_99, cl_999, cl_9999, wL]
  exact h
theorem st_NightsI {Q : Int → (Int → Int) → Prop} (h : Q 0 zA) : nf_Nights_init Q := by
  unfold nf_Nights_init
  simp only [ci_m1, ci_m10, ci_m1001, ci_m1002, ci_m1003, ci_m1004, ci_0, ci_1, ci_10, ci_100, ci_1000, ci_10000, ci_101, ci_103, ci_104, ci_105, ci_107, ci_108, ci_110, ci_111, ci_114, ci_115, ci_116, ci_118, ci_119, ci_12, ci_122, ci_1431655765, ci_15, ci_16, ci_2, ci_20, ci_23, ci_24, ci_240, ci_252645135, ci_255, ci_256, ci_3, ci_32, ci_4, ci_420, ci_48, ci_5, ci_5040, ci_57, ci_59, ci_6, ci_60, ci_63, ci_64, ci_7, ci_70, ci_8, ci_858993459, ci_9, ci_900, ci_97, ci_99, ci_999, ci_9999, cl_0, cl_1, cl_10, cl_1000000000000, cl_122, cl_2, cl_2000000000000, cl_23, cl_255, cl_27, cl_3, cl_4, cl_48, cl_57, cl_6, cl_8, cl_96, cl_97, cl_99, cl_999, cl_9999, wL]
  exact h
theorem st_ImageI {Q : Int → Int → (Int → Int) → (Int → Int) → (Int → Int) → (Int → Int) → (Int → Int) → (Int → Int) → (Int → Int) → Int → (Int → Int) → Int → (Int → Int) → (Int → Int) → (Int → Int) → Int → (Int → Int) → Prop} (h : Q 0 0 zA zA zA zA zA zA zA 0 zA 0 zA zA zA 0 zA) : nf_Image_init Q := by
  unfold nf_Image_init nf_Guests_init nf_Events_init nf_Claims_init nf_Nights_init
  simp only [ci_m1, ci_m10, ci_m1001, ci_m1002, ci_m1003, ci_m1004, ci_0, ci_1, ci_10, ci_100, ci_1000, ci_10000, ci_101, ci_103, ci_104, ci_105, ci_107, ci_108, ci_110, ci_111, ci_114, ci_115, ci_116, ci_118, ci_119, ci_12, ci_122, ci_1431655765, ci_15, ci_16, ci_2, ci_20, ci_23, ci_24, ci_240, ci_252645135, ci_255, ci_256, ci_3, ci_32, ci_4, ci_420, ci_48, ci_5, ci_5040, ci_57, ci_59, ci_6, ci_60, ci_63, ci_64, ci_7, ci_70, ci_8, ci_858993459, ci_9, ci_900, ci_97, ci_99, ci_999, ci_9999, cl_0, cl_1, cl_10, cl_1000000000000, cl_122, cl_2, cl_2000000000000, cl_23, cl_255, cl_27, cl_3, cl_4, cl_48, cl_57, cl_6, cl_8, cl_96, cl_97, cl_99, cl_999, cl_9999, wL]
  exact h
theorem st_PlanI {Q : Int → (Int → Int) → (Int → Int) → (Int → Int) → Prop} (h : Q 0 zA zA zA) : nf_Plan_init Q := by
  unfold nf_Plan_init
  simp only [ci_m1, ci_m10, ci_m1001, ci_m1002, ci_m1003, ci_m1004, ci_0, ci_1, ci_10, ci_100, ci_1000, ci_10000, ci_101, ci_103, ci_104, ci_105, ci_107, ci_108, ci_110, ci_111, ci_114, ci_115, ci_116, ci_118, ci_119, ci_12, ci_122, ci_1431655765, ci_15, ci_16, ci_2, ci_20, ci_23, ci_24, ci_240, ci_252645135, ci_255, ci_256, ci_3, ci_32, ci_4, ci_420, ci_48, ci_5, ci_5040, ci_57, ci_59, ci_6, ci_60, ci_63, ci_64, ci_7, ci_70, ci_8, ci_858993459, ci_9, ci_900, ci_97, ci_99, ci_999, ci_9999, cl_0, cl_1, cl_10, cl_1000000000000, cl_122, cl_2, cl_2000000000000, cl_23, cl_255, cl_27, cl_3, cl_4, cl_48, cl_57, cl_6, cl_8, cl_96, cl_97, cl_99, cl_999, cl_9999, wL]
  exact h
theorem st_RushI {Q : Int → Int → Int → Int → (Int → Int) → (Int → Int) → (Int → Int) → (Int → Int) → (Int → Int) → (Int → Int) → (Int → Int) → (Int → Int) → Prop} (h : Q 0 0 0 0 zA zA zA zA zA zA zA zA) : nf_Rush_init Q := by
  unfold nf_Rush_init
  simp only [ci_m1, ci_m10, ci_m1001, ci_m1002, ci_m1003, ci_m1004, ci_0, ci_1, ci_10, ci_100, ci_1000, ci_10000, ci_101, ci_103, ci_104, ci_105, ci_107, ci_108, ci_110, ci_111, ci_114, ci_115, ci_116, ci_118, ci_119, ci_12, ci_122, ci_1431655765, ci_15, ci_16, ci_2, ci_20, ci_23, ci_24, ci_240, ci_252645135, ci_255, ci_256, ci_3, ci_32, ci_4, ci_420, ci_48, ci_5, ci_5040, ci_57, ci_59, ci_6, ci_60, ci_63, ci_64, ci_7, ci_70, ci_8, ci_858993459, ci_9, ci_900, ci_97, ci_99, ci_999, ci_9999, cl_0, cl_1, cl_10, cl_1000000000000, cl_122, cl_2, cl_2000000000000, cl_23, cl_255, cl_27, cl_3, cl_4, cl_48, cl_57, cl_6, cl_8, cl_96, cl_97, cl_99, cl_999, cl_9999, wL]
  exact h
theorem st_MatchingI {Q : Int → (Int → Int) → (Int → Int) → Prop} (h : Q 0 zA zA) : nf_Matching_init Q := by
  unfold nf_Matching_init
  simp only [ci_m1, ci_m10, ci_m1001, ci_m1002, ci_m1003, ci_m1004, ci_0, ci_1, ci_10, ci_100, ci_1000, ci_10000, ci_101, ci_103, ci_104, ci_105, ci_107, ci_108, ci_110, ci_111, ci_114, ci_115, ci_116, ci_118, ci_119, ci_12, ci_122, ci_1431655765, ci_15, ci_16, ci_2, ci_20, ci_23, ci_24, ci_240, ci_252645135, ci_255, ci_256, ci_3, ci_32, ci_4, ci_420, ci_48, ci_5, ci_5040, ci_57, ci_59, ci_6, ci_60, ci_63, ci_64, ci_7, ci_70, ci_8, ci_858993459, ci_9, ci_900, ci_97, ci_99, ci_999, ci_9999, cl_0, cl_1, cl_10, cl_1000000000000, cl_122, cl_2, cl_2000000000000, cl_23, cl_255, cl_27, cl_3, cl_4, cl_48, cl_57, cl_6, cl_8, cl_96, cl_97, cl_99, cl_999, cl_9999, wL]
  exact h
theorem st_Hinit {Q : Int → Int → Int → Int → (Int → Int) → (Int → Int) → (Int → Int) → (Int → Int) → (Int → Int) → (Int → Int) → (Int → Int) → Int → (Int → Int) → Int → (Int → Int) → (Int → Int) → (Int → Int) → Int → (Int → Int) → Int → Int → (Int → Int) → (Int → Int) → (Int → Int) → (Int → Int) → (Int → Int) → (Int → Int) → (Int → Int) → Int → (Int → Int) → Int → (Int → Int) → (Int → Int) → (Int → Int) → Int → (Int → Int) → Int → Int → (Int → Int) → (Int → Int) → (Int → Int) → (Int → Int) → (Int → Int) → (Int → Int) → (Int → Int) → Int → (Int → Int) → Int → (Int → Int) → (Int → Int) → (Int → Int) → Int → (Int → Int) → Int → Int → Int → (Int → Int) → (Int → Int) → (Int → Int) → (Int → Int) → Int → Int → Int → Int → Int → Int → (Int → Int) → Int → Int → Int → (Int → Int) → (Int → Int) → (Int → Int) → (Int → Int) → Int → (Int → Int) → (Int → Int) → (Int → Int) → Int → Int → Int → Int → (Int → Int) → (Int → Int) → (Int → Int) → (Int → Int) → (Int → Int) → (Int → Int) → (Int → Int) → (Int → Int) → Int → (Int → Int) → (Int → Int) → Prop} (h : ∀ S X, (∀ k, 0 ≤ k → k < 12 → S k = ro0 k) → (∀ k, 0 ≤ k → k < 3 → X k = rs0 k) → Q (-1) 0 0 0 zA zA zA zA zA zA zA 0 zA 0 zA zA zA 0 zA 0 0 zA zA zA zA zA zA zA 0 zA 0 zA zA zA 0 zA 0 0 zA zA zA zA zA zA zA 0 zA 0 zA zA zA 0 zA 0 2 1 zA zA S X 0 (-1) 0 0 0 0 zA 0 0 0 zA zA zA zA 0 zA zA zA 0 0 0 0 zA zA zA zA zA zA zA zA 0 zA zA) : nf_H_init Q := by
  unfold nf_H_init
  simp only [ci_m1, ci_m10, ci_m1001, ci_m1002, ci_m1003, ci_m1004, ci_0, ci_1, ci_10, ci_100, ci_1000, ci_10000, ci_101, ci_103, ci_104, ci_105, ci_107, ci_108, ci_110, ci_111, ci_114, ci_115, ci_116, ci_118, ci_119, ci_12, ci_122, ci_1431655765, ci_15, ci_16, ci_2, ci_20, ci_23, ci_24, ci_240, ci_252645135, ci_255, ci_256, ci_3, ci_32, ci_4, ci_420, ci_48, ci_5, ci_5040, ci_57, ci_59, ci_6, ci_60, ci_63, ci_64, ci_7, ci_70, ci_8, ci_858993459, ci_9, ci_900, ci_97, ci_99, ci_999, ci_9999, cl_0, cl_1, cl_10, cl_1000000000000, cl_122, cl_2, cl_2000000000000, cl_23, cl_255, cl_27, cl_3, cl_4, cl_48, cl_57, cl_6, cl_8, cl_96, cl_97, cl_99, cl_999, cl_9999]
  refine st_HallI (st_ReaderI (st_ImageI (st_ImageI (st_ImageI (st_PlanI (st_RushI (st_MatchingI ?_)))))))
  refine so_clear ?_
  intro S X hS hX
  exact h S X hS hX
theorem st_Minit {Q : Int → Int → Int → Int → Int → Int → Int → Int → Int → Int → Int → Int → Int → Int → Int → Int → Int → Int → Int → Int → Int → Int → Int → Int → Int → (Int → Int) → (Int → Int) → (Int → Int) → (Int → Int) → (Int → Int) → (Int → Int) → (Int → Int) → (Int → Int) → (Int → Int) → (Int → Int) → (Int → Int) → (Int → Int) → (Int → Int) → (Int → Int) → (Int → Int) → (Int → Int) → (Int → Int) → (Int → Int) → (Int → Int) → (Int → Int) → (Int → Int) → (Int → Int) → (Int → Int) → (Int → Int) → (Int → Int) → (Int → Int) → (Int → Int) → (Int → Int) → (Int → Int) → (Int → Int) → (Int → Int) → (Int → Int) → (Int → Int) → Prop} (h : ∀ ro rs pk pw oo sg hg, (∀ q, 0 ≤ q → q < 12 → oo q = ro0 q) → (∀ q, 0 ≤ q → q < 5 → sg q = rs0 q) → (∀ q, 0 ≤ q → q < 24 → hg q = -1) → Q 0 (0 + 1) 0 (-1) 0 0 0 0 0 0 0 0 0 (-1) 0 0 0 0 0 0 0 0 0 0 0 pk pw oo sg zA zA zA ro rs hg zA zA zA zA zA zA zA zA zA zA zA zA zA zA zA zA zA zA zA zA zA zA zA) : nf_M_init Q := by
  unfold nf_M_init
  simp only [ci_m1, ci_m10, ci_m1001, ci_m1002, ci_m1003, ci_m1004, ci_0, ci_1, ci_10, ci_100, ci_1000, ci_10000, ci_101, ci_103, ci_104, ci_105, ci_107, ci_108, ci_110, ci_111, ci_114, ci_115, ci_116, ci_118, ci_119, ci_12, ci_122, ci_1431655765, ci_15, ci_16, ci_2, ci_20, ci_23, ci_24, ci_240, ci_252645135, ci_255, ci_256, ci_3, ci_32, ci_4, ci_420, ci_48, ci_5, ci_5040, ci_57, ci_59, ci_6, ci_60, ci_63, ci_64, ci_7, ci_70, ci_8, ci_858993459, ci_9, ci_900, ci_97, ci_99, ci_999, ci_9999, cl_0, cl_1, cl_10, cl_1000000000000, cl_122, cl_2, cl_2000000000000, cl_23, cl_255, cl_27, cl_3, cl_4, cl_48, cl_57, cl_6, cl_8, cl_96, cl_97, cl_99, cl_999, cl_9999, wL]
  refine sm_bare ?_
  intro ro rs hr1 hr2
  refine sm_keepHall ⟨by omega, by omega⟩ ?_
  intro pk pw oo sg _ hk1 hk2
  refine nlp2_i (fun i hg => 0 ≤ i ∧ i ≤ 24 ∧ ∀ q, 0 ≤ q → q < i → hg q = -1) (fun i _ => (24 - i).toNat) ?_ ⟨by omega, by omega, by omega⟩
  intro i hg hi self hself
  obtain ⟨i1, i2, i3⟩ := hi
  refine cB_i (fun _ => h _ _ _ _ _ _ _ (fun q a b => by rw [hk1 q a b, hr1 q a b]) (fun q a b => by rw [hk2 q a b, hr2 q a b]) (fun q a b => i3 q a (by omega))) (fun _ => wO_i (by simp only [inb]; omega) (wO_i (by simp only [iR]; omega) (hself _ _ ⟨by omega, by omega, fun q a b => ?_⟩ (by omega))))
  by_cases e : q = i
  · rw [e, ups_s]
  · rw [ups_n e]; exact i3 q a (by omega)
theorem zA_b {k a b : Int} (ha : a ≤ 0) (hb : 0 ≤ b) : a ≤ zA k ∧ zA k ≤ b := ⟨ha, hb⟩
theorem cA_0 : cA 0 zA 0 0 0 zA := ⟨⟨⟨by omega, by omega⟩, fun i _ _ => zA_b (by omega) (by omega)⟩, ⟨by omega, by omega⟩, ⟨by omega, by omega⟩, by omega, by omega, fun i _ _ => zA_b (by omega) (by omega)⟩
theorem mF_0 {hg : Int → Int} (h : ∀ q, 0 ≤ q → q < 24 → hg q = -1) : mF 0 0 0 0 zA zA zA zA hg zA zA zA := by
  have z : ∀ k, zA k = 0 := fun _ => rfl
  refine ⟨⟨by omega, by omega, fun g a b => ?_, fun g a b => ?_, fun p a b => ?_, fun p q a b c d e f => ?_, fun g k a b => ?_, fun p g a b c d => ?_, fun g a b => ?_⟩, ⟨by omega, by omega⟩, ⟨by omega, by omega⟩, ⟨by omega, by omega⟩, fun e a b => ?_, fun c a b => ?_, fun k a b => ?_⟩
  · rw [z]; omega
  · omega
  · rw [h p a b]; omega
  · rw [h p a b] at e; omega
  · omega
  · omega
  · omega
  · rw [z]; omega
  · rw [z]; omega
  · rw [z]; omega
set_option maxRecDepth 100000 in
theorem II_init : nf_H_init fun k_nightPlay k_nightWeather w_kept g_number g_sort g_kind g_tip g_marks g_brass g_peg g_has e_number e_facts c_number c_guest c_yes c_no n_number n_left z_kept zg_number zg_sort zg_kind zg_tip zg_marks zg_brass zg_peg zg_has ze_number ze_facts zc_number zc_guest zc_yes zc_no zn_number zn_left o_kept og_number og_sort og_kind og_tip og_marks og_brass og_peg og_has oe_number oe_facts oc_number oc_guest oc_yes oc_no on_number on_left h_pegs h_ticks h_loss h_kind h_walk h_share h_weight r_length r_place r_failure r_at r_firstFigure r_toldBefore r_text d_pegs d_ticks d_loss d_kind d_walk d_share d_weight p_sum p_expected p_pegFor p_taken u_size u_loss u_bestTips u_bestWaits u_ticks u_tip u_row u_freeAt u_waits u_greatest u_tips u_best q_claims q_fitting q_waysOf => nf_M_init fun m_pegs m_halls m_texted m_faultPlace m_at0 m_word m_wordEnd m_number m_numberAt m_readPegs m_toldSet m_sortSet m_guests m_nightPlay m_nightWeather m_nights m_events m_chainMany m_isRound m_rowMany m_waitSum m_waitMost m_tipSum m_claims m_imageAt m_pegKind m_pegWalk m_oddsOf m_singles m_text m_readKind m_readWalk m_readOdds m_readSingle m_hangs m_sorts m_kinds m_tips m_marks m_brasses m_has m_hungBy m_planned m_isTaken m_plays m_weathers m_lefts m_eventRow m_chained m_row m_freeAt m_bestRow m_claimGuest m_claimYes m_claimNo m_waysTo m_images m_isKept => II 0 k_nightPlay k_nightWeather w_kept g_number g_sort g_kind g_tip g_marks g_brass g_peg g_has e_number e_facts c_number c_guest c_yes c_no n_number n_left z_kept zg_number zg_sort zg_kind zg_tip zg_marks zg_brass zg_peg zg_has ze_number ze_facts zc_number zc_guest zc_yes zc_no zn_number zn_left o_kept og_number og_sort og_kind og_tip og_marks og_brass og_peg og_has oe_number oe_facts oc_number oc_guest oc_yes oc_no on_number on_left h_pegs h_ticks h_loss h_kind h_walk h_share h_weight r_length r_place r_failure r_at r_firstFigure r_toldBefore r_text d_pegs d_ticks d_loss d_kind d_walk d_share d_weight p_sum p_expected p_pegFor p_taken u_size u_loss u_bestTips u_bestWaits u_ticks u_tip u_row u_freeAt u_waits u_greatest u_tips u_best q_claims q_fitting q_waysOf m_pegs m_halls m_texted m_faultPlace m_at0 m_word m_wordEnd m_number m_numberAt m_readPegs m_toldSet m_sortSet m_guests m_nightPlay m_nightWeather m_nights m_events m_chainMany m_isRound m_rowMany m_waitSum m_waitMost m_tipSum m_claims m_imageAt m_pegKind m_pegWalk m_oddsOf m_singles m_text m_readKind m_readWalk m_readOdds m_readSingle m_hangs m_sorts m_kinds m_tips m_marks m_brasses m_has m_hungBy m_planned m_isTaken m_plays m_weathers m_lefts m_eventRow m_chained m_row m_freeAt m_bestRow m_claimGuest m_claimYes m_claimNo m_waysTo m_images m_isKept := by
  refine st_Hinit ?_
  intro S X hS hX
  refine st_Minit ?_
  intro ro rs pk pw oo sg hg hk1 hk2 i3
  have hM : mR pk pw oo sg 0 zA zA ro0 rs0 := ⟨by omega, hk1, hk2⟩
  have hR : cR 0 2 1 zA zA S X 0 zA zA ro0 rs0 := ⟨rfl, by omega, hS, hX, rfl, rfl⟩
  have hk := rI_g hM rI_0
  exact II_mk cA_0 cA_0 cA_0 (dI_g hR rI_0) ⟨by omega, by omega⟩ ⟨by omega, by omega⟩ (fun k _ _ => zA_b (by omega) (by omega)) ⟨by omega, by omega, fun k _ _ => ⟨by show (0 : Int) ≤ 0; omega, by show (0 : Int) ≤ 264; omega, by show (0 : Int) ≤ 0; omega, by show (0 : Int) ≤ 99; omega⟩⟩ (fun k h a b c d => zA_b (by omega) (by omega)) (fun k a b => ⟨by show (0 : Int) ≤ 0; omega, by show (0 : Int) ≤ _; omega, by show (0 : Int) ≤ 0; omega, by show (0 : Int) ≤ _; omega, by show (0 : Int) ≤ 0; omega, by show (0 : Int) ≤ _; omega⟩) hk ⟨by omega, by omega⟩ ⟨by omega, by omega⟩ (fun k _ _ => zA_b (by omega) (by omega)) ⟨by omega, by omega⟩ (mF_0 i3) (fun x _ _ hne => absurd rfl hne) tx_0 rfl rfl (cR_m hR hM) (RS_0 i3) RI_0 RI_0 (fun x _ _ hne => absurd rfl hne)
theorem II_m (i : Nat) (k_nightPlay : Int) (k_nightWeather : Int) (w_kept : Int) (g_number : Int) (g_sort : (Int → Int)) (g_kind : (Int → Int)) (g_tip : (Int → Int)) (g_marks : (Int → Int)) (g_brass : (Int → Int)) (g_peg : (Int → Int)) (g_has : (Int → Int)) (e_number : Int) (e_facts : (Int → Int)) (c_number : Int) (c_guest : (Int → Int)) (c_yes : (Int → Int)) (c_no : (Int → Int)) (n_number : Int) (n_left : (Int → Int)) (z_kept : Int) (zg_number : Int) (zg_sort : (Int → Int)) (zg_kind : (Int → Int)) (zg_tip : (Int → Int)) (zg_marks : (Int → Int)) (zg_brass : (Int → Int)) (zg_peg : (Int → Int)) (zg_has : (Int → Int)) (ze_number : Int) (ze_facts : (Int → Int)) (zc_number : Int) (zc_guest : (Int → Int)) (zc_yes : (Int → Int)) (zc_no : (Int → Int)) (zn_number : Int) (zn_left : (Int → Int)) (o_kept : Int) (og_number : Int) (og_sort : (Int → Int)) (og_kind : (Int → Int)) (og_tip : (Int → Int)) (og_marks : (Int → Int)) (og_brass : (Int → Int)) (og_peg : (Int → Int)) (og_has : (Int → Int)) (oe_number : Int) (oe_facts : (Int → Int)) (oc_number : Int) (oc_guest : (Int → Int)) (oc_yes : (Int → Int)) (oc_no : (Int → Int)) (on_number : Int) (on_left : (Int → Int)) (h_pegs : Int) (h_ticks : Int) (h_loss : Int) (h_kind : (Int → Int)) (h_walk : (Int → Int)) (h_share : (Int → Int)) (h_weight : (Int → Int)) (r_length : Int) (r_place : Int) (r_failure : Int) (r_at : Int) (r_firstFigure : Int) (r_toldBefore : Int) (r_text : (Int → Int)) (d_pegs : Int) (d_ticks : Int) (d_loss : Int) (d_kind : (Int → Int)) (d_walk : (Int → Int)) (d_share : (Int → Int)) (d_weight : (Int → Int)) (p_sum : Int) (p_expected : (Int → Int)) (p_pegFor : (Int → Int)) (p_taken : (Int → Int)) (u_size : Int) (u_loss : Int) (u_bestTips : Int) (u_bestWaits : Int) (u_ticks : (Int → Int)) (u_tip : (Int → Int)) (u_row : (Int → Int)) (u_freeAt : (Int → Int)) (u_waits : (Int → Int)) (u_greatest : (Int → Int)) (u_tips : (Int → Int)) (u_best : (Int → Int)) (q_claims : Int) (q_fitting : (Int → Int)) (q_waysOf : (Int → Int)) (m_pegs : Int) (m_halls : Int) (m_texted : Int) (m_faultPlace : Int) (m_at0 : Int) (m_word : Int) (m_wordEnd : Int) (m_number : Int) (m_numberAt : Int) (m_readPegs : Int) (m_toldSet : Int) (m_sortSet : Int) (m_guests : Int) (m_nightPlay : Int) (m_nightWeather : Int) (m_nights : Int) (m_events : Int) (m_chainMany : Int) (m_isRound : Int) (m_rowMany : Int) (m_waitSum : Int) (m_waitMost : Int) (m_tipSum : Int) (m_claims : Int) (m_imageAt : Int) (m_pegKind : (Int → Int)) (m_pegWalk : (Int → Int)) (m_oddsOf : (Int → Int)) (m_singles : (Int → Int)) (m_text : (Int → Int)) (m_readKind : (Int → Int)) (m_readWalk : (Int → Int)) (m_readOdds : (Int → Int)) (m_readSingle : (Int → Int)) (m_hangs : (Int → Int)) (m_sorts : (Int → Int)) (m_kinds : (Int → Int)) (m_tips : (Int → Int)) (m_marks : (Int → Int)) (m_brasses : (Int → Int)) (m_has : (Int → Int)) (m_hungBy : (Int → Int)) (m_planned : (Int → Int)) (m_isTaken : (Int → Int)) (m_plays : (Int → Int)) (m_weathers : (Int → Int)) (m_lefts : (Int → Int)) (m_eventRow : (Int → Int)) (m_chained : (Int → Int)) (m_row : (Int → Int)) (m_freeAt : (Int → Int)) (m_bestRow : (Int → Int)) (m_claimGuest : (Int → Int)) (m_claimYes : (Int → Int)) (m_claimNo : (Int → Int)) (m_waysTo : (Int → Int)) (m_images : (Int → Int)) (m_isKept : (Int → Int)) (h : II i k_nightPlay k_nightWeather w_kept g_number g_sort g_kind g_tip g_marks g_brass g_peg g_has e_number e_facts c_number c_guest c_yes c_no n_number n_left z_kept zg_number zg_sort zg_kind zg_tip zg_marks zg_brass zg_peg zg_has ze_number ze_facts zc_number zc_guest zc_yes zc_no zn_number zn_left o_kept og_number og_sort og_kind og_tip og_marks og_brass og_peg og_has oe_number oe_facts oc_number oc_guest oc_yes oc_no on_number on_left h_pegs h_ticks h_loss h_kind h_walk h_share h_weight r_length r_place r_failure r_at r_firstFigure r_toldBefore r_text d_pegs d_ticks d_loss d_kind d_walk d_share d_weight p_sum p_expected p_pegFor p_taken u_size u_loss u_bestTips u_bestWaits u_ticks u_tip u_row u_freeAt u_waits u_greatest u_tips u_best q_claims q_fitting q_waysOf m_pegs m_halls m_texted m_faultPlace m_at0 m_word m_wordEnd m_number m_numberAt m_readPegs m_toldSet m_sortSet m_guests m_nightPlay m_nightWeather m_nights m_events m_chainMany m_isRound m_rowMany m_waitSum m_waitMost m_tipSum m_claims m_imageAt m_pegKind m_pegWalk m_oddsOf m_singles m_text m_readKind m_readWalk m_readOdds m_readSingle m_hangs m_sorts m_kinds m_tips m_marks m_brasses m_has m_hungBy m_planned m_isTaken m_plays m_weathers m_lefts m_eventRow m_chained m_row m_freeAt m_bestRow m_claimGuest m_claimYes m_claimNo m_waysTo m_images m_isKept) : II (i + 6) k_nightPlay k_nightWeather w_kept g_number g_sort g_kind g_tip g_marks g_brass g_peg g_has e_number e_facts c_number c_guest c_yes c_no n_number n_left z_kept zg_number zg_sort zg_kind zg_tip zg_marks zg_brass zg_peg zg_has ze_number ze_facts zc_number zc_guest zc_yes zc_no zn_number zn_left o_kept og_number og_sort og_kind og_tip og_marks og_brass og_peg og_has oe_number oe_facts oc_number oc_guest oc_yes oc_no on_number on_left h_pegs h_ticks h_loss h_kind h_walk h_share h_weight r_length r_place r_failure r_at r_firstFigure r_toldBefore r_text d_pegs d_ticks d_loss d_kind d_walk d_share d_weight p_sum p_expected p_pegFor p_taken u_size u_loss u_bestTips u_bestWaits u_ticks u_tip u_row u_freeAt u_waits u_greatest u_tips u_best q_claims q_fitting q_waysOf m_pegs m_halls m_texted m_faultPlace m_at0 m_word m_wordEnd m_number m_numberAt m_readPegs m_toldSet m_sortSet m_guests m_nightPlay m_nightWeather m_nights m_events m_chainMany m_isRound m_rowMany m_waitSum m_waitMost m_tipSum m_claims m_imageAt m_pegKind m_pegWalk m_oddsOf m_singles m_text m_readKind m_readWalk m_readOdds m_readSingle m_hangs m_sorts m_kinds m_tips m_marks m_brasses m_has m_hungBy m_planned m_isTaken m_plays m_weathers m_lefts m_eventRow m_chained m_row m_freeAt m_bestRow m_claimGuest m_claimYes m_claimNo m_waysTo m_images m_isKept := by
  obtain ⟨c1, c2, c3, c4, c5, c6, c7, c8, c9, c10, m1, m2, m3, m4, m5, m6, m7, r1, r2, r3, r4, r5, r6, r7, r8⟩ := II_e h
  have m2n : 0 ≤ m_halls ∧ m_halls ≤ ((i + 6 : Nat) : Int) + 1 := by omega
  exact (II_mk c1 c2 c3 c4 c5 c6 c7 c8 c9 c10 m1 m2n m3 m4 m5 m6 m7 r1 r2 r3 r4 r5 r6 r7 r8)
