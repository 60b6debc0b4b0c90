/-! NICE FORMS of the methods that read words -/
def nf_Reader_isHere (r_length : Int) (r_at : Int) (r_text : (Int → Int))  (si : Nat) (Q : Int → Prop) : Prop :=
  nlp1 (fun self2 (l2_1 : Int) =>
      wL (slenN si : Int) fun r3 =>
      cB (r3 ≤ l2_1)
        (wL (slenN si : Int) fun r4 =>
        wO (iR (r_at + r4)) (r_at + r4) fun v5 =>
        nf_Reader_byteAt r_length r_text v5 fun r6 =>
        cB (r6 < (ci 97))
          (Q (ci 1) )
          (cB (r6 ≤ (ci 122))
            (Q (ci 0) )
            (Q (ci 1) )))
        (wO (iR (r_at + l2_1)) (r_at + l2_1) fun v7 =>
        nf_Reader_byteAt r_length r_text v7 fun r8 =>
        wO (inb l2_1 (slenN si)) (schr si l2_1) fun r9 =>
        cB (r8 = r9)
          (wO (iR (l2_1 + (ci 1))) (l2_1 + (ci 1)) fun v10 =>
          self2 v10)
          (Q (ci 0) ))) (ci 0)
def nf_Reader_needWord (r_length : Int) (r_place : Int) (r_failure : Int) (r_at : Int) (r_text : (Int → Int))  (si : Nat) (Q : Int → Int → Int → Prop) : Prop :=
  nf_Reader_skipBlanks r_length r_at r_text  fun z1 =>
  nf_Reader_isHere r_length z1 r_text  si fun r2 =>
  cB (r2 = 0)
    (nf_Reader_fail r_place r_failure (ci 1) z1 fun z3 z4 =>
    Q z3 z4 z1)
    (wL (slenN si : Int) fun r5 =>
    wO (iR (z1 + r5)) (z1 + r5) fun v6 =>
    Q r_place r_failure v6)
def nf_Reader_readRow (r_length : Int) (r_place : Int) (r_failure : Int) (r_at : Int) (r_firstFigure : Int) (r_text : (Int → Int)) (d_pegs : Int) (d_kind : (Int → Int)) (d_walk : (Int → Int))  (Q : Int → Int → Int → Int → Int → (Int → Int) → (Int → Int) → Prop) : Prop :=
  nf_Reader_needWord r_length r_place r_failure r_at r_text  0 fun z1 z2 z3 =>
  nf_Reader_needNumber r_length z1 z2 z3 r_firstFigure r_text (ci 1) (ci 24) fun r8 z4 z5 z6 z7 =>
  wO (iR (d_pegs + r8)) (d_pegs + r8) fun v9 =>
  jn2 (fun (z10 : Int) (z11 : Int) =>
      nf_Reader_needWord r_length z10 z11 z6 r_text  5 fun z13 z14 z15 =>
      nf_Reader_needNumber r_length z13 z14 z15 z7 r_text (ci 0) (ci 2) fun r20 z16 z17 z18 z19 =>
      nf_Reader_needWord r_length z16 z17 z18 r_text  6 fun z21 z22 z23 =>
      nf_Reader_needNumber r_length z21 z22 z23 z19 r_text (ci 0) (ci 99) fun r28 z24 z25 z26 z27 =>
      nf_Reader_needEnd r_length z24 z25 z26 r_text  fun z29 z30 z31 =>
      cB (z30 = 0)
        (nf_Hall_addRow d_pegs d_kind d_walk r8 r20 r28 fun z32 f33 f34 =>
        Q z29 z30 z31 z27 z32 f33 f34)
        (Q z29 z30 z31 z27 d_pegs d_kind d_walk)) fun j12 =>
  cB (v9 ≤ (ci 24))
    (j12 z4 z5)
    (nf_Reader_fail z4 z5 (ci 4) z7 fun z35 z36 =>
    j12 z35 z36)
def nf_Reader_readOdds (r_length : Int) (r_place : Int) (r_failure : Int) (r_at : Int) (r_firstFigure : Int) (r_toldBefore : Int) (r_text : (Int → Int)) (d_share : (Int → Int))  (Q : Int → Int → Int → Int → Int → (Int → Int) → Prop) : Prop :=
  nf_Reader_needWord r_length r_place r_failure r_at r_text  1 fun z1 z2 z3 =>
  nf_Reader_needNumber r_length z1 z2 z3 r_firstFigure r_text (ci 0) (ci 3) fun r8 z4 z5 z6 z7 =>
  wL (ishl (ci 1) r8) fun v9 =>
  nf_Reader_tellOnce z4 z5 r_toldBefore v9 z7 fun z10 z11 z12 =>
  nf_Reader_needNumber r_length z10 z11 z6 z7 r_text (ci 0) (ci 100) fun r17 z13 z14 z15 z16 =>
  nf_Reader_needNumber r_length z13 z14 z15 z16 r_text (ci 0) (ci 100) fun r22 z18 z19 z20 z21 =>
  nf_Reader_needNumber r_length z18 z19 z20 z21 r_text (ci 0) (ci 100) fun r27 z23 z24 z25 z26 =>
  wO (iR (r17 + r22)) (r17 + r22) fun v28 =>
  wO (iR (v28 + r27)) (v28 + r27) fun v29 =>
  jn2 (fun (z30 : Int) (z31 : Int) =>
      nf_Reader_needEnd r_length z30 z31 z25 r_text  fun z33 z34 z35 =>
      nf_Hall_tellShares d_share r8 r17 r22 r27 fun f36 =>
      Q z33 z34 z35 z26 z12 f36) fun j32 =>
  cB (v29 = (ci 100))
    (j32 z23 z24)
    (nf_Reader_fail z23 z24 (ci 5) z26 fun z37 z38 =>
    j32 z37 z38)
def nf_Reader_readWeights (r_length : Int) (r_place : Int) (r_failure : Int) (r_at : Int) (r_firstFigure : Int) (r_text : (Int → Int)) (d_weight : (Int → Int))  (Q : Int → Int → Int → Int → (Int → Int) → Prop) : Prop :=
  nf_Reader_needWord r_length r_place r_failure r_at r_text  2 fun z1 z2 z3 =>
  nf_Reader_needNumber r_length z1 z2 z3 r_firstFigure r_text (ci 0) (ci 9) fun r8 z4 z5 z6 z7 =>
  nf_Reader_needNumber r_length z4 z5 z6 z7 r_text (ci 0) (ci 9) fun r13 z9 z10 z11 z12 =>
  nf_Reader_needNumber r_length z9 z10 z11 z12 r_text (ci 0) (ci 9) fun r18 z14 z15 z16 z17 =>
  nf_Reader_needEnd r_length z14 z15 z16 r_text  fun z19 z20 z21 =>
  nf_Hall_tellWeights d_weight r8 r13 r18 fun f22 =>
  Q z19 z20 z21 z17 f22
def nf_Reader_readClause (r_length : Int) (r_place : Int) (r_failure : Int) (r_at : Int) (r_firstFigure : Int) (r_toldBefore : Int) (r_text : (Int → Int)) (d_pegs : Int) (d_ticks : Int) (d_loss : Int) (d_kind : (Int → Int)) (d_walk : (Int → Int)) (d_share : (Int → Int)) (d_weight : (Int → Int))  (Q : Int → Int → Int → Int → Int → Int → Int → Int → (Int → Int) → (Int → Int) → (Int → Int) → (Int → Int) → Prop) : Prop :=
  nf_Reader_isHere r_length r_at r_text  0 fun r1 =>
  cB (r1 = 0)
    (nf_Reader_isHere r_length r_at r_text  1 fun r2 =>
    cB (r2 = 0)
      (nf_Reader_isHere r_length r_at r_text  2 fun r3 =>
      cB (r3 = 0)
        (nf_Reader_isHere r_length r_at r_text  3 fun r4 =>
        cB (r4 = 0)
          (nf_Reader_isHere r_length r_at r_text  4 fun r5 =>
          cB (r5 = 0)
            (nf_Reader_fail r_place r_failure (ci 1) r_at fun z6 z7 =>
            Q z6 z7 r_at r_firstFigure r_toldBefore d_pegs d_ticks d_loss d_kind d_walk d_share d_weight)
            (nf_Reader_tellOnce r_place r_failure r_toldBefore (ci 64) r_at fun z8 z9 z10 =>
            nf_Reader_needWord r_length z8 z9 r_at r_text  4 fun z11 z12 z13 =>
            nf_Reader_needNumber r_length z11 z12 z13 r_firstFigure r_text (ci 0) (ci 20) fun r18 z14 z15 z16 z17 =>
            nf_Reader_needEnd r_length z14 z15 z16 r_text  fun z19 z20 z21 =>
            Q z19 z20 z21 z17 z10 d_pegs d_ticks r18 d_kind d_walk d_share d_weight))
          (nf_Reader_tellOnce r_place r_failure r_toldBefore (ci 32) r_at fun z22 z23 z24 =>
          nf_Reader_needWord r_length z22 z23 r_at r_text  3 fun z25 z26 z27 =>
          nf_Reader_needNumber r_length z25 z26 z27 r_firstFigure r_text (ci 0) (ci 20) fun r32 z28 z29 z30 z31 =>
          nf_Reader_needEnd r_length z28 z29 z30 r_text  fun z33 z34 z35 =>
          Q z33 z34 z35 z31 z24 d_pegs r32 d_loss d_kind d_walk d_share d_weight))
        (nf_Reader_tellOnce r_place r_failure r_toldBefore (ci 16) r_at fun z36 z37 z38 =>
        nf_Reader_readWeights r_length z36 z37 r_at r_firstFigure r_text d_weight  fun z39 z40 z41 z42 f43 =>
        Q z39 z40 z41 z42 z38 d_pegs d_ticks d_loss d_kind d_walk d_share f43))
      (nf_Reader_readOdds r_length r_place r_failure r_at r_firstFigure r_toldBefore r_text d_share  fun z44 z45 z46 z47 z48 f49 =>
      Q z44 z45 z46 z47 z48 d_pegs d_ticks d_loss d_kind d_walk f49 d_weight))
    (nf_Reader_readRow r_length r_place r_failure r_at r_firstFigure r_text d_pegs d_kind d_walk  fun z50 z51 z52 z53 z54 f55 f56 =>
    Q z50 z51 z52 z53 r_toldBefore z54 d_ticks d_loss f55 f56 d_share d_weight)
def nf_Reader_read (r_length : Int) (r_place : Int) (r_failure : Int) (r_at : Int) (r_firstFigure : Int) (r_toldBefore : Int) (r_text : (Int → Int)) (d_pegs : Int) (d_ticks : Int) (d_loss : Int) (d_kind : (Int → Int)) (d_walk : (Int → Int)) (d_share : (Int → Int)) (d_weight : (Int → Int))  (Q : Int → Int → Int → Int → Int → Int → Int → Int → Int → Int → (Int → Int) → (Int → Int) → (Int → Int) → (Int → Int) → Prop) : Prop :=
  nf_Hall_clear d_pegs d_ticks d_loss d_share d_weight  fun z1 z2 z3 f4 f5 =>
  nf_Reader_skipBlanks r_length (ci 0) r_text  fun z6 =>
  nlp13 (fun self20 (l1_7 : Int) (z8 : Int) (z9 : Int) (z10 : Int) (z11 : Int) (z12 : Int) (z13 : Int) (z14 : Int) (z15 : Int) (z16 : (Int → Int)) (z17 : (Int → Int)) (z18 : (Int → Int)) (z19 : (Int → Int)) =>
      jn0 (
          Q z9 (ci 0) z8 z9 z10 z11 z12 z13 z14 z15 z16 z17 z18 z19) fun j21 =>
      cB ((ci 240) ≤ l1_7)
        (j21 )
        (cB (z9 = 0)
          (cB (r_length ≤ z10)
            (j21 )
            (nf_Reader_readClause r_length z8 z9 z10 z11 z12 r_text z13 z14 z15 z16 z17 z18 z19  fun z22 z23 z24 z25 z26 z27 z28 z29 f30 f31 f32 f33 =>
            nf_Reader_skipBlanks r_length z24 r_text  fun z34 =>
            wO (iR (l1_7 + (ci 1))) (l1_7 + (ci 1)) fun v35 =>
            self20 v35 z22 z23 z34 z25 z26 z27 z28 z29 f30 f31 f32 f33))
          (j21 ))) (ci 0) (ci (-1)) (ci 0) z6 r_firstFigure (ci 0) z1 z2 z3 d_kind d_walk f4 f5
def nf_H_hall (e_number : Int) (z_kept : Int) (o_kept : Int) (r_length : Int) (r_place : Int) (r_failure : Int) (r_at : Int) (r_firstFigure : Int) (r_toldBefore : Int) (r_text : (Int → Int)) (d_pegs : Int) (d_ticks : Int) (d_loss : Int) (d_kind : (Int → Int)) (d_walk : (Int → Int)) (d_share : (Int → Int)) (d_weight : (Int → Int))  (Q : Int → Int → Int → Int → Int → Int → Int → Int → Int → Int → Int → Int → (Int → Int) → (Int → Int) → (Int → Int) → (Int → Int) → Int → Prop) : Prop :=
  cB (e_number ≤ 0)
    (nf_Reader_read r_length r_place r_failure r_at r_firstFigure r_toldBefore r_text d_pegs d_ticks d_loss d_kind d_walk d_share d_weight  fun r14 z1 z2 z3 z4 z5 z6 z7 z8 z9 f10 f11 f12 f13 =>
    cB (r14 = 0)
      (nf_Reader_changeDraft   <|
      Q z7 (ci 0) (ci 0) z1 z2 z3 z4 z5 z6 z7 z8 z9 f10 f11 f12 f13 1)
      (wO (iR ((ci (-10)) - r14)) ((ci (-10)) - r14) fun v15 =>
      Q v15 z_kept o_kept z1 z2 z3 z4 z5 z6 z7 z8 z9 f10 f11 f12 f13 0))
    (Q (ci (-1003)) z_kept o_kept r_length r_place r_failure r_at r_firstFigure r_toldBefore d_pegs d_ticks d_loss d_kind d_walk d_share d_weight 0)
