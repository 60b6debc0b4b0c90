/-! NICE FORMS, printed by program out of the bytecode: what each method needs and answers, in whole numbers -/
def nf_Claims_copyFrom (c_number : Int) (c_guest : (Int → Int)) (c_yes : (Int → Int)) (c_no : (Int → Int)) (yc_number : Int) (yc_guest : (Int → Int)) (yc_yes : (Int → Int)) (yc_no : (Int → Int))  (Q : Int → (Int → Int) → (Int → Int) → (Int → Int) → Prop) : Prop :=
  wL yc_guest fun f1 =>
  wL yc_yes fun f2 =>
  wL yc_no fun f3 =>
  Q yc_number f1 f2 f3
def nf_Claims_knows (c_number : Int) (x1 : Int) (Q : Int → Prop) : Prop :=
  cB (x1 < 0)
    (Q (ci 0) )
    (cB (c_number ≤ x1)
      (Q (ci 0) )
      (cB ((ci 6) ≤ x1)
        (Q (ci 0) )
        (Q (ci 1) )))
def nf_Claims_isOf (c_number : Int) (c_guest : (Int → Int)) (x1 : Int) (Q : Int → Prop) : Prop :=
  nlp1 (fun self2 (l2_1 : Int) =>
      cB (c_number ≤ l2_1)
        (Q (ci 0) )
        (wO (inb l2_1 6) (c_guest l2_1) fun v3 =>
        cB (v3 = x1)
          (Q (ci 1) )
          (wO (iR (l2_1 + (ci 1))) (l2_1 + (ci 1)) fun v4 =>
          self2 v4))) (ci 0)
def nf_Claims_guestOf (c_number : Int) (c_guest : (Int → Int)) (x1 : Int) (Q : Int → Prop) : Prop :=
  nf_Claims_knows c_number x1 fun r1 =>
  cB (r1 = 0)
    (Q (ci (-1)) )
    (wO (inb x1 6) (c_guest x1) fun v2 =>
    Q v2 )
def nf_Claims_add (c_number : Int) (c_guest : (Int → Int)) (c_yes : (Int → Int)) (c_no : (Int → Int)) (x1 : Int) (x2 : Int) (x3 : Int) (Q : Int → Int → (Int → Int) → (Int → Int) → (Int → Int) → Prop) : Prop :=
  cB (c_number < 0)
    (Q (ci (-1004)) c_number c_guest c_yes c_no)
    (cB (c_number < (ci 6))
      (wO (inb c_number 6) (ups c_guest c_number x1) fun f1 =>
      wO (inb c_number 6) (ups c_yes c_number x2) fun f2 =>
      wO (inb c_number 6) (ups c_no c_number x3) fun f3 =>
      wO (iR (c_number + (ci 1))) (c_number + (ci 1)) fun v4 =>
      Q c_number v4 f1 f2 f3)
      (Q (ci (-1004)) c_number c_guest c_yes c_no))
def nf_Claims_remove (c_number : Int) (c_guest : (Int → Int)) (c_yes : (Int → Int)) (c_no : (Int → Int)) (x1 : Int) (Q : Int → (Int → Int) → (Int → Int) → (Int → Int) → Prop) : Prop :=
  nf_Claims_knows c_number x1 fun r1 =>
  cB (r1 = 0)
    (Q c_number c_guest c_yes c_no)
    (nlp4 (fun self6 (l2_2 : Int) (z3 : (Int → Int)) (z4 : (Int → Int)) (z5 : (Int → Int)) =>
        wO (iR (l2_2 + (ci 1))) (l2_2 + (ci 1)) fun v7 =>
        jn0 (
            wO (iR (c_number - (ci 1))) (c_number - (ci 1)) fun v9 =>
            Q v9 z3 z4 z5) fun j8 =>
        cB (c_number ≤ v7)
          (j8 )
          (wO (iR (l2_2 + (ci 1))) (l2_2 + (ci 1)) fun v10 =>
          cB ((ci 6) ≤ v10)
            (j8 )
            (wO (iR (l2_2 + (ci 1))) (l2_2 + (ci 1)) fun v11 =>
            wO (inb v11 6) (z3 v11) fun v12 =>
            wO (inb l2_2 6) (ups z3 l2_2 v12) fun f13 =>
            wO (iR (l2_2 + (ci 1))) (l2_2 + (ci 1)) fun v14 =>
            wO (inb v14 6) (z4 v14) fun v15 =>
            wO (inb l2_2 6) (ups z4 l2_2 v15) fun f16 =>
            wO (iR (l2_2 + (ci 1))) (l2_2 + (ci 1)) fun v17 =>
            wO (inb v17 6) (z5 v17) fun v18 =>
            wO (inb l2_2 6) (ups z5 l2_2 v18) fun f19 =>
            wO (iR (l2_2 + (ci 1))) (l2_2 + (ci 1)) fun v20 =>
            self6 v20 f13 f16 f19))) x1 c_guest c_yes c_no)
def nf_Guests_knows (g_number : Int) (x1 : Int) (Q : Int → Prop) : Prop :=
  cB (x1 < 0)
    (Q (ci 0) )
    (cB (g_number ≤ x1)
      (Q (ci 0) )
      (cB ((ci 16) ≤ x1)
        (Q (ci 0) )
        (Q (ci 1) )))
def nf_Guests_kindOf (g_number : Int) (g_kind : (Int → Int)) (x1 : Int) (Q : Int → Prop) : Prop :=
  nf_Guests_knows g_number x1 fun r1 =>
  cB (r1 = 0)
    (Q (ci (-1)) )
    (wO (inb x1 16) (g_kind x1) fun v2 =>
    Q v2 )
def nf_Guests_marksOf (g_number : Int) (g_marks : (Int → Int)) (x1 : Int) (Q : Int → Prop) : Prop :=
  nf_Guests_knows g_number x1 fun r1 =>
  cB (r1 = 0)
    (Q (ci 0) )
    (wO (inb x1 16) (g_marks x1) fun v2 =>
    Q v2 )
def nf_Guests_hangs (g_number : Int) (g_peg : (Int → Int)) (x1 : Int) (Q : Int → Prop) : Prop :=
  nf_Guests_knows g_number x1 fun r1 =>
  cB (r1 = 0)
    (Q (ci 0) )
    (wO (inb x1 16) (g_peg x1) fun v2 =>
    cB (v2 = (ci (-1)))
      (Q (ci 0) )
      (Q (ci 1) ))
def nf_Claims_thingsFor (g_number : Int) (g_kind : (Int → Int)) (g_marks : (Int → Int)) (g_peg : (Int → Int)) (c_number : Int) (c_guest : (Int → Int)) (c_yes : (Int → Int)) (c_no : (Int → Int)) (x1 : Int) (Q : Int → Prop) : Prop :=
  nf_Claims_knows c_number x1 fun r1 =>
  cB (r1 = 0)
    (Q (ci 0) )
    (wO (inb x1 6) (c_guest x1) fun v2 =>
    nf_Guests_kindOf g_number g_kind v2 fun r3 =>
    nlp2 (fun self6 (l3_4 : Int) (l5_5 : Int) =>
        cB (g_number ≤ l5_5)
          (Q l3_4 )
          (wO (inb x1 6) (c_yes x1) fun v7 =>
          nf_Guests_marksOf g_number g_marks l5_5 fun r8 =>
          wL (ixor r8 (ci (-1))) fun v9 =>
          wL (iand v7 v9) fun v10 =>
          jn1 (fun (t11 : Int) =>
              jn1 (fun (l3_13 : Int) =>
                  wO (iR (l5_5 + (ci 1))) (l5_5 + (ci 1)) fun v15 =>
                  self6 l3_13 v15) fun j14 =>
              cB (t11 = 0)
                (j14 l3_4)
                (nf_Guests_hangs g_number g_peg l5_5 fun r16 =>
                cB (r16 = 0)
                  (j14 l3_4)
                  (nf_Guests_kindOf g_number g_kind l5_5 fun r17 =>
                  cB (r17 = r3)
                    (wL (ishl (ci 1) l5_5) fun v18 =>
                    wL (ior l3_4 v18) fun v19 =>
                    j14 v19)
                    (j14 l3_4)))) fun j12 =>
          jn0 (
              j12 (ci 0)) fun j20 =>
          cB (v10 = 0)
            (wO (inb x1 6) (c_no x1) fun v21 =>
            nf_Guests_marksOf g_number g_marks l5_5 fun r22 =>
            wL (iand v21 r22) fun v23 =>
            cB (v23 = 0)
              (j12 (ci 1))
              (j20 ))
            (j20 ))) (ci 0) (ci 0))
def nf_bitCount  (x1 : Int) (Q : Int → Prop) : Prop :=
  wL (iushr x1 (ci 1)) fun v1 =>
  wL (iand v1 (ci 1431655765)) fun v2 =>
  wL (wsub x1 v2) fun v3 =>
  wL (iand v3 (ci 858993459)) fun v4 =>
  wL (iushr v3 (ci 2)) fun v5 =>
  wL (iand v5 (ci 858993459)) fun v6 =>
  wL (wadd v4 v6) fun v7 =>
  wL (iushr v7 (ci 4)) fun v8 =>
  wL (wadd v7 v8) fun v9 =>
  wL (iand v9 (ci 252645135)) fun v10 =>
  wL (iushr v10 (ci 8)) fun v11 =>
  wL (wadd v10 v11) fun v12 =>
  wL (iushr v12 (ci 16)) fun v13 =>
  wL (wadd v12 v13) fun v14 =>
  wL (iand v14 (ci 63)) fun v15 =>
  Q v15 
def nf_Claims_howManyAgree (g_number : Int) (g_marks : (Int → Int)) (x1 : Int) (x2 : Int) (x3 : Int) (Q : Int → Prop) : Prop :=
  nlp2 (fun self3 (l4_1 : Int) (l5_2 : Int) =>
      cB (g_number ≤ l5_2)
        (Q l4_1 )
        (wL (ishr x1 l5_2) fun v4 =>
        wL (iand v4 (ci 1)) fun v5 =>
        jn1 (fun (l4_6 : Int) =>
            wO (iR (l5_2 + (ci 1))) (l5_2 + (ci 1)) fun v8 =>
            self3 l4_6 v8) fun j7 =>
        cB (v5 = (ci 1))
          (nf_Guests_marksOf g_number g_marks l5_2 fun r9 =>
          wL (ixor r9 x2) fun v10 =>
          wL (iand v10 x3) fun v11 =>
          cB (v11 = 0)
            (wO (iR (l4_1 + (ci 1))) (l4_1 + (ci 1)) fun v12 =>
            j7 v12)
            (j7 l4_1))
          (j7 l4_1))) (ci 0) (ci 0)
def nf_Claims_fewestAsked (g_number : Int) (g_kind : (Int → Int)) (g_marks : (Int → Int)) (g_peg : (Int → Int)) (c_number : Int) (c_guest : (Int → Int)) (c_yes : (Int → Int)) (c_no : (Int → Int)) (x1 : Int) (Q : Int → Prop) : Prop :=
  nf_Claims_thingsFor g_number g_kind g_marks g_peg c_number c_guest c_yes c_no x1 fun r1 =>
  nf_Claims_guestOf c_number c_guest x1 fun r2 =>
  nf_Guests_marksOf g_number g_marks r2 fun r3 =>
  nlp2 (fun self6 (l5_4 : Int) (l6_5 : Int) =>
      cB ((ci 255) < l6_5)
        (Q l5_4 )
        (jn1 (fun (t7 : Int) =>
            jn1 (fun (l5_9 : Int) =>
                wO (iR (l6_5 + (ci 1))) (l6_5 + (ci 1)) fun v11 =>
                self6 l5_9 v11) fun j10 =>
            cB (t7 = 0)
              (j10 l5_4)
              (nf_Claims_howManyAgree g_number g_marks r1 r3 l6_5 fun r12 =>
              cB (r12 = (ci 1))
                (j10 l6_5)
                (j10 l5_4))) fun j8 =>
        jn0 (
            j8 (ci 1)) fun j13 =>
        cB (l5_4 = (ci (-1)))
          (j13 )
          (nf_bitCount  l6_5 fun r14 =>
          nf_bitCount  l5_4 fun r15 =>
          cB (r15 ≤ r14)
            (j8 (ci 0))
            (j13 )))) (ci (-1)) (ci 0)
def nf_Events_copyFrom (e_number : Int) (e_facts : (Int → Int)) (ye_number : Int) (ye_facts : (Int → Int))  (Q : Int → (Int → Int) → Prop) : Prop :=
  wL ye_facts fun f1 =>
  Q ye_number f1
def nf_Events_knows (e_number : Int) (x1 : Int) (Q : Int → Prop) : Prop :=
  cB (x1 < 0)
    (Q (ci 0) )
    (cB (e_number ≤ x1)
      (Q (ci 0) )
      (cB ((ci 60) ≤ x1)
        (Q (ci 0) )
        (Q (ci 1) )))
def nf_Events_isFull (e_number : Int)  (Q : Int → Prop) : Prop :=
  cB (e_number < (ci 60))
    (Q (ci 0) )
    (Q (ci 1) )
def nf_Events_add (e_number : Int) (e_facts : (Int → Int)) (x1 : Int) (x2 : Int) (x3 : Int) (x4 : Int) (x5 : Int) (x6 : Int) (Q : Int → Int → (Int → Int) → Prop) : Prop :=
  cB (e_number < 0)
    (Q (ci (-1004)) e_number e_facts)
    (nf_Events_isFull e_number  fun r1 =>
    cB (r1 = 0)
      (wO (iR (e_number * (ci 7))) (e_number * (ci 7)) fun v2 =>
      wO (inb v2 420) (ups e_facts v2 x1) fun f3 =>
      wO (iR (v2 + (ci 1))) (v2 + (ci 1)) fun v4 =>
      wO (inb v4 420) (ups f3 v4 x2) fun f5 =>
      wO (iR (v2 + (ci 2))) (v2 + (ci 2)) fun v6 =>
      wO (inb v6 420) (ups f5 v6 x3) fun f7 =>
      wO (iR (v2 + (ci 3))) (v2 + (ci 3)) fun v8 =>
      wO (inb v8 420) (ups f7 v8 x4) fun f9 =>
      wO (iR (v2 + (ci 4))) (v2 + (ci 4)) fun v10 =>
      wO (inb v10 420) (ups f9 v10 x5) fun f11 =>
      wO (iR (v2 + (ci 5))) (v2 + (ci 5)) fun v12 =>
      wO (inb v12 420) (ups f11 v12 x6) fun f13 =>
      wO (iR (v2 + (ci 6))) (v2 + (ci 6)) fun v14 =>
      jn1 (fun (t15 : Int) =>
          wO (inb v14 420) (ups f13 v14 t15) fun f17 =>
          wO (iR (e_number + (ci 1))) (e_number + (ci 1)) fun v18 =>
          Q e_number v18 f17) fun j16 =>
      jn0 (
          j16 (ci 0)) fun j19 =>
      cB (x1 = (ci 2))
        (j19 )
        (cB (x4 = x5)
          (j19 )
          (j16 (ci 1))))
      (Q (ci (-1004)) e_number e_facts))
def nf_H_within  (x1 : Int) (x2 : Int) (x3 : Int) (Q : Int → Prop) : Prop :=
  cB (x1 < x2)
    (Q (ci 0) )
    (cB (x3 < x1)
      (Q (ci 0) )
      (Q (ci 1) ))
def nf_Events_factOf (e_number : Int) (e_facts : (Int → Int)) (x1 : Int) (x2 : Int) (Q : Int → Prop) : Prop :=
  nf_Events_knows e_number x1 fun r1 =>
  cB (r1 = 0)
    (Q (ci (-1)) )
    (nf_H_within  x2 (ci 0) (ci 6) fun r2 =>
    cB (r2 = 0)
      (Q (ci (-1)) )
      (wO (iR (x1 * (ci 7))) (x1 * (ci 7)) fun v3 =>
      wO (iR (v3 + x2)) (v3 + x2) fun v4 =>
      wO (inb v4 420) (e_facts v4) fun v5 =>
      Q v5 ))
def nf_Events_find (e_number : Int) (e_facts : (Int → Int)) (x1 : Int) (x2 : Int) (Q : Int → Prop) : Prop :=
  nlp1 (fun self2 (l3_1 : Int) =>
      cB (e_number ≤ l3_1)
        (Q (ci (-1)) )
        (nf_Events_factOf e_number e_facts l3_1 (ci 0) fun r3 =>
        jn0 (
            wO (iR (l3_1 + (ci 1))) (l3_1 + (ci 1)) fun v5 =>
            self2 v5) fun j4 =>
        cB (r3 = x1)
          (nf_Events_factOf e_number e_facts l3_1 (ci 5) fun r6 =>
          cB (r6 = x2)
            (Q l3_1 )
            (j4 ))
          (j4 ))) (ci 0)
def nf_Events_wasWrong (e_number : Int) (e_facts : (Int → Int)) (x1 : Int) (Q : Int → Prop) : Prop :=
  nf_Events_factOf e_number e_facts x1 (ci 6) fun r1 =>
  cB (r1 = (ci 1))
    (Q (ci 1) )
    (Q (ci 0) )
def nf_Events_firstWrong (e_number : Int) (e_facts : (Int → Int)) (x1 : Int) (Q : Int → Prop) : Prop :=
  nf_Events_find e_number e_facts (ci 0) x1 fun r1 =>
  nf_Events_wasWrong e_number e_facts r1 fun r2 =>
  cB (r2 = 0)
    (nf_Events_find e_number e_facts (ci 1) x1 fun r3 =>
    cB (r3 = (ci (-1)))
      (Q (ci (-1)) )
      (nf_Events_wasWrong e_number e_facts r3 fun r4 =>
      cB (r4 = 0)
        (nf_Events_factOf e_number e_facts r3 (ci 2) fun r5 =>
        nf_Events_find e_number e_facts (ci 0) r5 fun r6 =>
        nf_Events_wasWrong e_number e_facts r6 fun r7 =>
        cB (r7 = 0)
          (Q (ci (-1)) )
          (Q r6 ))
        (Q r3 )))
    (Q r1 )
def nf_Guests_copyFrom (g_number : Int) (g_sort : (Int → Int)) (g_kind : (Int → Int)) (g_tip : (Int → Int)) (g_marks : (Int → Int)) (g_brass : (Int → Int)) (g_peg : (Int → Int)) (g_has : (Int → Int)) (yg_number : Int) (yg_sort : (Int → Int)) (yg_kind : (Int → Int)) (yg_tip : (Int → Int)) (yg_marks : (Int → Int)) (yg_brass : (Int → Int)) (yg_peg : (Int → Int)) (yg_has : (Int → Int))  (Q : Int → (Int → Int) → (Int → Int) → (Int → Int) → (Int → Int) → (Int → Int) → (Int → Int) → (Int → Int) → Prop) : Prop :=
  wL yg_sort fun f1 =>
  wL yg_kind fun f2 =>
  wL yg_tip fun f3 =>
  wL yg_marks fun f4 =>
  wL yg_brass fun f5 =>
  wL yg_peg fun f6 =>
  wL yg_has fun f7 =>
  Q yg_number f1 f2 f3 f4 f5 f6 f7
def nf_Guests_add (g_number : Int) (g_sort : (Int → Int)) (g_kind : (Int → Int)) (g_tip : (Int → Int)) (g_marks : (Int → Int)) (g_brass : (Int → Int)) (g_peg : (Int → Int)) (g_has : (Int → Int)) (x1 : Int) (x2 : Int) (x3 : Int) (x4 : Int) (Q : Int → Int → (Int → Int) → (Int → Int) → (Int → Int) → (Int → Int) → (Int → Int) → (Int → Int) → (Int → Int) → Prop) : Prop :=
  cB (g_number < 0)
    (Q (ci (-1004)) g_number g_sort g_kind g_tip g_marks g_brass g_peg g_has)
    (cB (g_number < (ci 16))
      (wO (inb g_number 16) (ups g_sort g_number x1) fun f1 =>
      wO (inb g_number 16) (ups g_kind g_number x2) fun f2 =>
      wO (inb g_number 16) (ups g_tip g_number x3) fun f3 =>
      wO (inb g_number 16) (ups g_marks g_number x4) fun f4 =>
      wO (inb g_number 16) (ups g_brass g_number (ci (-1))) fun f5 =>
      wO (inb g_number 16) (ups g_peg g_number (ci (-1))) fun f6 =>
      wO (inb g_number 16) (ups g_has g_number (ci (-1))) fun f7 =>
      wO (iR (g_number + (ci 1))) (g_number + (ci 1)) fun v8 =>
      Q g_number v8 f1 f2 f3 f4 f5 f6 f7)
      (Q (ci (-1004)) g_number g_sort g_kind g_tip g_marks g_brass g_peg g_has))
def nf_Guests_ownerOn (g_number : Int) (g_peg : (Int → Int)) (x1 : Int) (Q : Int → Prop) : Prop :=
  nlp1 (fun self2 (l2_1 : Int) =>
      cB (g_number ≤ l2_1)
        (Q (ci (-1)) )
        (wO (inb l2_1 16) (g_peg l2_1) fun v3 =>
        cB (v3 = x1)
          (Q l2_1 )
          (wO (iR (l2_1 + (ci 1))) (l2_1 + (ci 1)) fun v4 =>
          self2 v4))) (ci 0)
def nf_Guests_holderOf (g_number : Int) (g_has : (Int → Int)) (x1 : Int) (Q : Int → Prop) : Prop :=
  nlp1 (fun self2 (l2_1 : Int) =>
      cB (g_number ≤ l2_1)
        (Q (ci (-1)) )
        (wO (inb l2_1 16) (g_has l2_1) fun v3 =>
        cB (v3 = x1)
          (Q l2_1 )
          (wO (iR (l2_1 + (ci 1))) (l2_1 + (ci 1)) fun v4 =>
          self2 v4))) (ci 0)
def nf_Guests_brassIsOut (g_number : Int) (g_brass : (Int → Int)) (x1 : Int) (Q : Int → Prop) : Prop :=
  nlp1 (fun self2 (l2_1 : Int) =>
      cB (g_number ≤ l2_1)
        (Q (ci 0) )
        (wO (inb l2_1 16) (g_brass l2_1) fun v3 =>
        cB (v3 = x1)
          (Q (ci 1) )
          (wO (iR (l2_1 + (ci 1))) (l2_1 + (ci 1)) fun v4 =>
          self2 v4))) (ci 0)
def nf_Guests_handOver (g_number : Int) (g_peg : (Int → Int)) (g_has : (Int → Int)) (x1 : Int) (x2 : Int) (Q : (Int → Int) → (Int → Int) → Prop) : Prop :=
  nf_Guests_knows g_number x1 fun r1 =>
  cB (r1 = 0)
    (Q g_peg g_has)
    (nf_Guests_knows g_number x2 fun r2 =>
    cB (r2 = 0)
      (Q g_peg g_has)
      (wO (inb x1 16) (ups g_peg x1 (ci (-1))) fun f3 =>
      wO (inb x2 16) (ups g_has x2 x1) fun f4 =>
      Q f3 f4))
def nf_Guests_isAstray (g_number : Int) (g_has : (Int → Int)) (x1 : Int) (Q : Int → Prop) : Prop :=
  nf_Guests_knows g_number x1 fun r1 =>
  cB (r1 = 0)
    (Q (ci 0) )
    (wO (inb x1 16) (g_has x1) fun v2 =>
    cB (v2 = (ci (-1)))
      (Q (ci 0) )
      (wO (inb x1 16) (g_has x1) fun v3 =>
      cB (v3 = x1)
        (Q (ci 0) )
        (Q (ci 1) )))
def nf_Guests_nextInChain (g_number : Int) (g_has : (Int → Int)) (x1 : Int) (x2 : Int) (Q : Int → Prop) : Prop :=
  nf_Guests_knows g_number x2 fun r1 =>
  cB (r1 = 0)
    (Q (ci (-1)) )
    (wO (inb x2 16) (g_has x2) fun v2 =>
    cB (v2 = x1)
      (Q (ci (-1)) )
      (wO (inb x2 16) (g_has x2) fun v3 =>
      Q v3 ))
def nf_Guests_chainLength (g_number : Int) (g_has : (Int → Int)) (x1 : Int) (Q : Int → Prop) : Prop :=
  nlp2 (fun self3 (l2_1 : Int) (l3_2 : Int) =>
      cB (l2_1 = (ci (-1)))
        (Q l3_2 )
        (cB ((ci 16) ≤ l3_2)
          (Q l3_2 )
          (nf_Guests_nextInChain g_number g_has x1 l2_1 fun r4 =>
          wO (iR (l3_2 + (ci 1))) (l3_2 + (ci 1)) fun v5 =>
          self3 r4 v5))) x1 (ci 0)
def nf_Guests_chainMember (g_number : Int) (g_has : (Int → Int)) (x1 : Int) (x2 : Int) (Q : Int → Prop) : Prop :=
  cB (0 ≤ x2)
    (nlp2 (fun self3 (l3_1 : Int) (l4_2 : Int) =>
        cB (x2 ≤ l4_2)
          (Q l3_1 )
          (cB (l3_1 = (ci (-1)))
            (Q l3_1 )
            (nf_Guests_nextInChain g_number g_has x1 l3_1 fun r4 =>
            wO (iR (l4_2 + (ci 1))) (l4_2 + (ci 1)) fun v5 =>
            self3 r4 v5))) x1 (ci 0))
    (Q (ci (-1)) )
def nf_Guests_comesRound (g_number : Int) (g_has : (Int → Int)) (x1 : Int) (Q : Int → Prop) : Prop :=
  nf_Guests_chainLength g_number g_has x1 fun r1 =>
  wO (iR (r1 - (ci 1))) (r1 - (ci 1)) fun v2 =>
  nf_Guests_chainMember g_number g_has x1 v2 fun r3 =>
  nf_Guests_knows g_number r3 fun r4 =>
  cB (r4 = 0)
    (Q (ci 0) )
    (wO (inb r3 16) (g_has r3) fun v5 =>
    cB (v5 = x1)
      (Q (ci 1) )
      (Q (ci 0) ))
def nf_Guests_isLeastOfRing (g_number : Int) (g_has : (Int → Int)) (x1 : Int) (Q : Int → Prop) : Prop :=
  nf_Guests_isAstray g_number g_has x1 fun r1 =>
  cB (r1 = 0)
    (Q (ci 0) )
    (nf_Guests_comesRound g_number g_has x1 fun r2 =>
    cB (r2 = 0)
      (Q (ci 0) )
      (nlp2 (fun self5 (l2_3 : Int) (l3_4 : Int) =>
          jn0 (
              cB (l2_3 = (ci (-1)))
                (Q (ci 1) )
                (Q (ci 0) )) fun j6 =>
          cB ((ci 16) ≤ l3_4)
            (j6 )
            (cB (l2_3 < x1)
              (j6 )
              (nf_Guests_nextInChain g_number g_has x1 l2_3 fun r7 =>
              wO (iR (l3_4 + (ci 1))) (l3_4 + (ci 1)) fun v8 =>
              self5 r7 v8))) x1 (ci 0)))
def nf_Hall_tellWeights (h_weight : (Int → Int)) (x1 : Int) (x2 : Int) (x3 : Int) (Q : (Int → Int) → Prop) : Prop :=
  wO (inb (ci 0) 3) (ups h_weight (ci 0) x1) fun f1 =>
  wO (inb (ci 1) 3) (ups f1 (ci 1) x2) fun f2 =>
  wO (inb (ci 2) 3) (ups f2 (ci 2) x3) fun f3 =>
  Q f3
def nf_Hall_tellShares (h_share : (Int → Int)) (x1 : Int) (x2 : Int) (x3 : Int) (x4 : Int) (Q : (Int → Int) → Prop) : Prop :=
  nf_H_within  x1 (ci 0) (ci 3) fun r1 =>
  cB (r1 = 0)
    (Q h_share)
    (wO (iR (x1 * (ci 3))) (x1 * (ci 3)) fun v2 =>
    wO (inb v2 12) (ups h_share v2 x2) fun f3 =>
    wO (iR (x1 * (ci 3))) (x1 * (ci 3)) fun v4 =>
    wO (iR (v4 + (ci 1))) (v4 + (ci 1)) fun v5 =>
    wO (inb v5 12) (ups f3 v5 x3) fun f6 =>
    wO (iR (x1 * (ci 3))) (x1 * (ci 3)) fun v7 =>
    wO (iR (v7 + (ci 2))) (v7 + (ci 2)) fun v8 =>
    wO (inb v8 12) (ups f6 v8 x4) fun f9 =>
    Q f9)
def nf_Hall_clear (h_pegs : Int) (h_ticks : Int) (h_loss : Int) (h_share : (Int → Int)) (h_weight : (Int → Int))  (Q : Int → Int → Int → (Int → Int) → (Int → Int) → Prop) : Prop :=
  nf_Hall_tellWeights h_weight (ci 1) (ci 2) (ci 5) fun f1 =>
  nlp2 (fun self4 (l1_2 : Int) (z3 : (Int → Int)) =>
      cB ((ci 4) ≤ l1_2)
        (Q (ci 0) (ci 2) (ci 1) z3 f1)
        (nf_Hall_tellShares z3 l1_2 (ci 10) (ci 20) (ci 70) fun f5 =>
        wO (iR (l1_2 + (ci 1))) (l1_2 + (ci 1)) fun v6 =>
        self4 v6 f5)) (ci 0) h_share
def nf_Hall_addRow (h_pegs : Int) (h_kind : (Int → Int)) (h_walk : (Int → Int)) (x1 : Int) (x2 : Int) (x3 : Int) (Q : Int → (Int → Int) → (Int → Int) → Prop) : Prop :=
  nlp4 (fun self5 (l4_1 : Int) (z2 : Int) (z3 : (Int → Int)) (z4 : (Int → Int)) =>
      cB (x1 ≤ l4_1)
        (Q z2 z3 z4)
        (cB ((ci 24) ≤ z2)
          (Q z2 z3 z4)
          (wO (inb z2 24) (ups z3 z2 x2) fun f6 =>
          wO (iR (x3 + l4_1)) (x3 + l4_1) fun v7 =>
          wO (inb z2 24) (ups z4 z2 v7) fun f8 =>
          wO (iR (z2 + (ci 1))) (z2 + (ci 1)) fun v9 =>
          wO (iR (l4_1 + (ci 1))) (l4_1 + (ci 1)) fun v10 =>
          self5 v10 v9 f6 f8))) (ci 0) h_pegs h_kind h_walk
def nf_Hall_hasPeg (h_pegs : Int) (x1 : Int) (Q : Int → Prop) : Prop :=
  cB (x1 < 0)
    (Q (ci 0) )
    (cB (h_pegs ≤ x1)
      (Q (ci 0) )
      (cB ((ci 24) ≤ x1)
        (Q (ci 0) )
        (Q (ci 1) )))
def nf_Hall_isOfKind (h_pegs : Int) (h_kind : (Int → Int)) (x1 : Int) (x2 : Int) (Q : Int → Prop) : Prop :=
  nf_Hall_hasPeg h_pegs x1 fun r1 =>
  cB (r1 = 0)
    (Q (ci 0) )
    (wO (inb x1 24) (h_kind x1) fun v2 =>
    cB (v2 = x2)
      (Q (ci 1) )
      (Q (ci 0) ))
def nf_Hall_walkOf (h_pegs : Int) (h_walk : (Int → Int)) (x1 : Int) (Q : Int → Prop) : Prop :=
  nf_Hall_hasPeg h_pegs x1 fun r1 =>
  cB (r1 = 0)
    (Q (ci 0) )
    (wO (inb x1 24) (h_walk x1) fun v2 =>
    Q v2 )
def nf_Hall_shareOf (h_share : (Int → Int)) (x1 : Int) (x2 : Int) (Q : Int → Prop) : Prop :=
  nf_H_within  x1 (ci 0) (ci 3) fun r1 =>
  cB (r1 = 0)
    (Q (ci 0) )
    (nf_H_within  x2 (ci 0) (ci 2) fun r2 =>
    cB (r2 = 0)
      (Q (ci 0) )
      (wO (iR (x1 * (ci 3))) (x1 * (ci 3)) fun v3 =>
      wO (iR (v3 + x2)) (v3 + x2) fun v4 =>
      wO (inb v4 12) (h_share v4) fun v5 =>
      Q v5 ))
def nf_Hall_weightOf (h_weight : (Int → Int)) (x1 : Int) (Q : Int → Prop) : Prop :=
  nf_H_within  x1 (ci 0) (ci 2) fun r1 =>
  cB (r1 = 0)
    (Q (ci 0) )
    (wO (inb x1 3) (h_weight x1) fun v2 =>
    Q v2 )
def nf_Nights_copyFrom (n_number : Int) (n_left : (Int → Int)) (yn_number : Int) (yn_left : (Int → Int))  (Q : Int → (Int → Int) → Prop) : Prop :=
  wL yn_left fun f1 =>
  Q yn_number f1
def nf_Image_copyFrom (g_number : Int) (g_sort : (Int → Int)) (g_kind : (Int → Int)) (g_tip : (Int → Int)) (g_marks : (Int → Int)) (g_brass : (Int → Int)) (g_peg : (Int → Int)) (g_has : (Int → Int)) (e_number : Int) (e_facts : (Int → Int)) (c_number : Int) (c_guest : (Int → Int)) (c_yes : (Int → Int)) (c_no : (Int → Int)) (n_number : Int) (n_left : (Int → Int)) (yg_number : Int) (yg_sort : (Int → Int)) (yg_kind : (Int → Int)) (yg_tip : (Int → Int)) (yg_marks : (Int → Int)) (yg_brass : (Int → Int)) (yg_peg : (Int → Int)) (yg_has : (Int → Int)) (ye_number : Int) (ye_facts : (Int → Int)) (yc_number : Int) (yc_guest : (Int → Int)) (yc_yes : (Int → Int)) (yc_no : (Int → Int)) (yn_number : Int) (yn_left : (Int → Int))  (Q : Int → (Int → Int) → (Int → Int) → (Int → Int) → (Int → Int) → (Int → Int) → (Int → Int) → (Int → Int) → Int → (Int → Int) → Int → (Int → Int) → (Int → Int) → (Int → Int) → Int → (Int → Int) → Prop) : Prop :=
  nf_Guests_copyFrom g_number g_sort g_kind g_tip g_marks g_brass g_peg g_has yg_number yg_sort yg_kind yg_tip yg_marks yg_brass yg_peg yg_has  fun z1 f2 f3 f4 f5 f6 f7 f8 =>
  nf_Events_copyFrom e_number e_facts ye_number ye_facts  fun z9 f10 =>
  nf_Claims_copyFrom c_number c_guest c_yes c_no yc_number yc_guest yc_yes yc_no  fun z11 f12 f13 f14 =>
  nf_Nights_copyFrom n_number n_left yn_number yn_left  fun z15 f16 =>
  Q z1 f2 f3 f4 f5 f6 f7 f8 z9 f10 z11 f12 f13 f14 z15 f16
def nf_Matching_load (g_number : Int) (g_kind : (Int → Int)) (g_marks : (Int → Int)) (g_peg : (Int → Int)) (c_number : Int) (c_guest : (Int → Int)) (c_yes : (Int → Int)) (c_no : (Int → Int)) (q_claims : Int) (q_fitting : (Int → Int))  (Q : Int → (Int → Int) → Prop) : Prop :=
  wL (imin c_number (ci 6)) fun v1 =>
  nlp2 (fun self4 (l3_2 : Int) (z3 : (Int → Int)) =>
      cB (v1 ≤ l3_2)
        (Q v1 z3)
        (nf_Claims_thingsFor g_number g_kind g_marks g_peg c_number c_guest c_yes c_no l3_2 fun r5 =>
        wO (inb l3_2 6) (ups z3 l3_2 r5) fun f6 =>
        wO (iR (l3_2 + (ci 1))) (l3_2 + (ci 1)) fun v7 =>
        self4 v7 f6)) (ci 0) q_fitting
def nf_Matching_addWays (q_claims : Int) (q_fitting : (Int → Int)) (q_waysOf : (Int → Int)) (x1 : Int) (x2 : Int) (Q : (Int → Int) → Prop) : Prop :=
  nlp2 (fun self3 (l3_1 : Int) (z2 : (Int → Int)) =>
      cB (q_claims ≤ l3_1)
        (Q z2)
        (wL (ishr x1 l3_1) fun v4 =>
        wL (iand v4 (ci 1)) fun v5 =>
        jn1 (fun (t6 : Int) =>
            jn1 (fun (z8 : (Int → Int)) =>
                wO (iR (l3_1 + (ci 1))) (l3_1 + (ci 1)) fun v10 =>
                self3 v10 z8) fun j9 =>
            cB (t6 = 0)
              (j9 z2)
              (wO (inb x1 64) (z2 x1) fun v11 =>
              wL (ishl (ci 1) l3_1) fun v12 =>
              wL (ixor x1 v12) fun v13 =>
              wO (inb v13 64) (z2 v13) fun v14 =>
              wO (lR (v11 + v14)) (v11 + v14) fun v15 =>
              wO (inb x1 64) (ups z2 x1 v15) fun f16 =>
              j9 f16)) fun j7 =>
        jn0 (
            j7 (ci 0)) fun j17 =>
        cB (v5 = (ci 1))
          (wO (inb l3_1 6) (q_fitting l3_1) fun v18 =>
          wL (ishr v18 x2) fun v19 =>
          wL (iand v19 (ci 1)) fun v20 =>
          cB (v20 = (ci 1))
            (j7 (ci 1))
            (j17 ))
          (j17 ))) (ci 0) q_waysOf
def nf_Matching_number (q_claims : Int) (q_fitting : (Int → Int)) (q_waysOf : (Int → Int))  (Q : Int → (Int → Int) → Prop) : Prop :=
  wL (ishl (ci 1) q_claims) fun v1 =>
  wO (iR (v1 - (ci 1))) (v1 - (ci 1)) fun v2 =>
  nlp2 (fun self5 (l2_3 : Int) (l3_4 : Int) =>
      cB (q_claims ≤ l3_4)
        (nlp2 (fun self8 (l3_6 : Int) (z7 : (Int → Int)) =>
            cB (v2 < l3_6)
              (wO (inb (ci 0) 64) (ups z7 (ci 0) (cl 1)) fun f9 =>
              nlp2 (fun self12 (l3_10 : Int) (z11 : (Int → Int)) =>
                  cB ((ci 16) ≤ l3_10)
                    (wO (inb v2 64) (z11 v2) fun v13 =>
                    Q v13 z11)
                    (wL (ishr l2_3 l3_10) fun v14 =>
                    wL (iand v14 (ci 1)) fun v15 =>
                    jn1 (fun (z16 : (Int → Int)) =>
                        wO (iR (l3_10 + (ci 1))) (l3_10 + (ci 1)) fun v18 =>
                        self12 v18 z16) fun j17 =>
                    cB (v15 = 0)
                      (j17 z11)
                      (nlp2 (fun self21 (l4_19 : Int) (z20 : (Int → Int)) =>
                          cB (l4_19 ≤ 0)
                            (j17 z20)
                            (nf_Matching_addWays q_claims q_fitting z20 l4_19 l3_10 fun f22 =>
                            wO (iR (l4_19 + (ci (-1)))) (l4_19 + (ci (-1))) fun v23 =>
                            self21 v23 f22)) v2 z11))) (ci 0) f9)
              (wO (inb l3_6 64) (ups z7 l3_6 (cl 0)) fun f24 =>
              wO (iR (l3_6 + (ci 1))) (l3_6 + (ci 1)) fun v25 =>
              self8 v25 f24)) (ci 0) q_waysOf)
        (wO (inb l3_4 6) (q_fitting l3_4) fun v26 =>
        wL (ior l2_3 v26) fun v27 =>
        wO (iR (l3_4 + (ci 1))) (l3_4 + (ci 1)) fun v28 =>
        self5 v27 v28)) (ci 0) (ci 0)
def nf_Matching_onlyThingOf (q_claims : Int) (q_fitting : (Int → Int)) (q_waysOf : (Int → Int)) (x1 : Int) (Q : Int → (Int → Int) → (Int → Int) → Prop) : Prop :=
  wO (iR (q_claims - (ci 1))) (q_claims - (ci 1)) fun v1 =>
  nf_H_within  x1 (ci 0) v1 fun r2 =>
  cB (r2 = 0)
    (Q (ci (-1)) q_fitting q_waysOf)
    (nf_Matching_number q_claims q_fitting q_waysOf  fun r4 f3 =>
    wL (lcm3 r4 (cl 0)) fun v5 =>
    cB (v5 = 0)
      (Q (ci (-1)) q_fitting f3)
      (wO (inb x1 6) (q_fitting x1) fun v6 =>
      nlp4 (fun self11 (l3_7 : Int) (l4_8 : Int) (z9 : (Int → Int)) (z10 : (Int → Int)) =>
          cB ((ci 16) ≤ l4_8)
            (Q l3_7 z9 z10)
            (wL (ishr v6 l4_8) fun v12 =>
            wL (iand v12 (ci 1)) fun v13 =>
            jn3 (fun (l3_14 : Int) (z15 : (Int → Int)) (z16 : (Int → Int)) =>
                wO (iR (l4_8 + (ci 1))) (l4_8 + (ci 1)) fun v18 =>
                self11 l3_14 v18 z15 z16) fun j17 =>
            cB (v13 = 0)
              (j17 l3_7 z9 z10)
              (wL (ishl (ci 1) l4_8) fun v19 =>
              wO (inb x1 6) (ups z9 x1 v19) fun f20 =>
              nf_Matching_number q_claims f20 z10  fun r22 f21 =>
              wL (lcm3 r22 (cl 0)) fun v23 =>
              cB (v23 = 0)
                (j17 l3_7 f20 f21)
                (cB (l3_7 = (ci (-1)))
                  (j17 l4_8 f20 f21)
                  (Q (ci (-1)) f20 f21))))) (ci (-1)) (ci 0) q_fitting f3))
def nf_Nights_add (n_number : Int) (n_left : (Int → Int)) (x1 : Int) (x2 : Int) (x3 : Int) (x4 : Int) (x5 : Int) (Q : Int → Int → (Int → Int) → Prop) : Prop :=
  nf_H_within  x1 (ci 0) (ci 3) fun r1 =>
  cB (r1 = 0)
    (Q (ci (-1002)) n_number n_left)
    (nf_H_within  x2 (ci 0) (ci 1) fun r2 =>
    cB (r2 = 0)
      (Q (ci (-1002)) n_number n_left)
      (wO (iR (x1 * (ci 2))) (x1 * (ci 2)) fun v3 =>
      wO (iR (v3 + x2)) (v3 + x2) fun v4 =>
      wO (iR (v4 * (ci 3))) (v4 * (ci 3)) fun v5 =>
      wO (inb v5 24) (n_left v5) fun v6 =>
      wO (iR (v6 + x3)) (v6 + x3) fun v7 =>
      wO (inb v5 24) (ups n_left v5 v7) fun f8 =>
      wO (iR (v5 + (ci 1))) (v5 + (ci 1)) fun v9 =>
      wO (inb v9 24) (f8 v9) fun v10 =>
      wO (iR (v10 + x4)) (v10 + x4) fun v11 =>
      wO (inb v9 24) (ups f8 v9 v11) fun f12 =>
      wO (iR (v5 + (ci 2))) (v5 + (ci 2)) fun v13 =>
      wO (inb v13 24) (f12 v13) fun v14 =>
      wO (iR (v14 + x5)) (v14 + x5) fun v15 =>
      wO (inb v13 24) (ups f12 v13 v15) fun f16 =>
      wO (iR (n_number + (ci 1))) (n_number + (ci 1)) fun v17 =>
      Q v17 v17 f16))
def nf_Nights_oddsOf (n_left : (Int → Int)) (x1 : Int) (x2 : Int) (x3 : Int) (Q : Int → Prop) : Prop :=
  nf_H_within  x1 (ci 0) (ci 3) fun r1 =>
  cB (r1 = 0)
    (Q (ci 0) )
    (nf_H_within  x2 (ci 0) (ci 1) fun r2 =>
    cB (r2 = 0)
      (Q (ci 0) )
      (wO (iR (x1 * (ci 2))) (x1 * (ci 2)) fun v3 =>
      wO (iR (v3 + x2)) (v3 + x2) fun v4 =>
      wO (iR (v4 * (ci 3))) (v4 * (ci 3)) fun v5 =>
      wO (inb v5 24) (n_left v5) fun v6 =>
      wO (iR (v5 + (ci 1))) (v5 + (ci 1)) fun v7 =>
      wO (inb v7 24) (n_left v7) fun v8 =>
      wO (iR (v6 + v8)) (v6 + v8) fun v9 =>
      wO (iR (v5 + (ci 2))) (v5 + (ci 2)) fun v10 =>
      wO (inb v10 24) (n_left v10) fun v11 =>
      wO (iR (v9 + v11)) (v9 + v11) fun v12 =>
      wO (iR (v12 + (ci 3))) (v12 + (ci 3)) fun v13 =>
      cB (0 < v13)
        (wO (inb v5 24) (n_left v5) fun v14 =>
        wO (iR (v14 + (ci 1))) (v14 + (ci 1)) fun v15 =>
        wO (iR ((ci 1000) * v15)) ((ci 1000) * v15) fun v16 =>
        wO (dOK v16 v13) (Int.tdiv v16 v13) fun v17 =>
        wO (iR (v5 + (ci 1))) (v5 + (ci 1)) fun v18 =>
        wO (inb v18 24) (n_left v18) fun v19 =>
        wO (iR (v19 + (ci 1))) (v19 + (ci 1)) fun v20 =>
        wO (iR ((ci 1000) * v20)) ((ci 1000) * v20) fun v21 =>
        wO (dOK v21 v13) (Int.tdiv v21 v13) fun v22 =>
        cB (x3 = 0)
          (Q v17 )
          (cB (x3 = (ci 1))
            (Q v22 )
            (wO (iR ((ci 1000) - v17)) ((ci 1000) - v17) fun v23 =>
            wO (iR (v23 - v22)) (v23 - v22) fun v24 =>
            Q v24 )))
        (Q (ci 0) )))
def nf_Plan_pegOf (p_pegFor : (Int → Int)) (x1 : Int) (Q : Int → Prop) : Prop :=
  nf_H_within  x1 (ci 0) (ci 15) fun r1 =>
  cB (r1 = 0)
    (Q (ci (-1)) )
    (wO (inb x1 16) (p_pegFor x1) fun v2 =>
    Q v2 )
def nf_Plan_leastWalkLeft (h_pegs : Int) (h_kind : (Int → Int)) (h_walk : (Int → Int)) (p_taken : (Int → Int)) (x1 : Int) (Q : Int → Prop) : Prop :=
  nlp2 (fun self3 (l3_1 : Int) (l4_2 : Int) =>
      cB (h_pegs ≤ l4_2)
        (Q l3_1 )
        (wO (inb l4_2 24) (p_taken l4_2) fun v4 =>
        jn1 (fun (t5 : Int) =>
            jn1 (fun (l3_7 : Int) =>
                wO (iR (l4_2 + (ci 1))) (l4_2 + (ci 1)) fun v9 =>
                self3 l3_7 v9) fun j8 =>
            cB (t5 = 0)
              (j8 l3_1)
              (jn0 (
                  j8 l4_2) fun j10 =>
              cB (l3_1 = (ci (-1)))
                (j10 )
                (wO (inb l4_2 24) (h_walk l4_2) fun v11 =>
                wO (inb l3_1 24) (h_walk l3_1) fun v12 =>
                cB (v12 ≤ v11)
                  (j8 l3_1)
                  (j10 )))) fun j6 =>
        jn0 (
            j6 (ci 0)) fun j13 =>
        cB (v4 = 0)
          (nf_Hall_isOfKind h_pegs h_kind l4_2 x1 fun r14 =>
          cB (r14 = 0)
            (j13 )
            (j6 (ci 1)))
          (j13 ))) (ci (-1)) (ci 0)
def nf_Plan_greatestLeft (g_number : Int) (p_expected : (Int → Int)) (p_pegFor : (Int → Int))  (Q : Int → Prop) : Prop :=
  nlp2 (fun self3 (l2_1 : Int) (l3_2 : Int) =>
      cB (g_number ≤ l3_2)
        (Q l2_1 )
        (wO (inb l3_2 16) (p_pegFor l3_2) fun v4 =>
        jn1 (fun (l2_5 : Int) =>
            wO (iR (l3_2 + (ci 1))) (l3_2 + (ci 1)) fun v7 =>
            self3 l2_5 v7) fun j6 =>
        cB (v4 = (ci (-1)))
          (jn0 (
              j6 l3_2) fun j8 =>
          cB (l2_1 = (ci (-1)))
            (j8 )
            (wO (inb l3_2 16) (p_expected l3_2) fun v9 =>
            wO (inb l2_1 16) (p_expected l2_1) fun v10 =>
            cB (v9 ≤ v10)
              (j6 l2_1)
              (j8 )))
          (j6 l2_1))) (ci (-1)) (ci 0)
def nf_Plan_make (g_number : Int) (g_kind : (Int → Int)) (h_pegs : Int) (h_kind : (Int → Int)) (h_walk : (Int → Int)) (p_sum : Int) (p_expected : (Int → Int)) (p_pegFor : (Int → Int)) (p_taken : (Int → Int)) (x1 : Int) (Q : Int → Int → (Int → Int) → (Int → Int) → Prop) : Prop :=
  nlp2 (fun self3 (l4_1 : Int) (z2 : (Int → Int)) =>
      cB ((ci 24) ≤ l4_1)
        (nlp2 (fun self6 (l4_4 : Int) (z5 : (Int → Int)) =>
            cB ((ci 16) ≤ l4_4)
              (nlp4 (fun self11 (l4_7 : Int) (z8 : Int) (z9 : (Int → Int)) (z10 : (Int → Int)) =>
                  cB (g_number ≤ l4_7)
                    (Q (ci 1) z8 z9 z10)
                    (jn1 (fun (t12 : Int) =>
                        nf_Guests_kindOf g_number g_kind t12 fun r14 =>
                        nf_Plan_leastWalkLeft h_pegs h_kind h_walk z10 r14 fun r15 =>
                        nf_Guests_knows g_number t12 fun r16 =>
                        cB (r16 = 0)
                          (Q (ci 0) z8 z9 z10)
                          (nf_Hall_hasPeg h_pegs r15 fun r17 =>
                          cB (r17 = 0)
                            (Q (ci 0) z8 z9 z10)
                            (wO (inb t12 16) (ups z9 t12 r15) fun f18 =>
                            wO (bZ (ci 1) ∧ inb r15 24) (ups z10 r15 (ci 1)) fun f19 =>
                            wO (inb t12 16) (p_expected t12) fun v20 =>
                            nf_Hall_walkOf h_pegs h_walk r15 fun r21 =>
                            wO (iR (v20 * r21)) (v20 * r21) fun v22 =>
                            wO (iR (z8 + v22)) (z8 + v22) fun v23 =>
                            wO (iR (l4_7 + (ci 1))) (l4_7 + (ci 1)) fun v24 =>
                            self11 v24 v23 f18 f19))) fun j13 =>
                    cB (x1 = 0)
                      (nf_Plan_greatestLeft g_number p_expected z9  fun r25 =>
                      j13 r25)
                      (j13 l4_7))) (ci 0) (ci 0) z5 z2)
              (wO (inb l4_4 16) (ups z5 l4_4 (ci (-1))) fun f26 =>
              wO (iR (l4_4 + (ci 1))) (l4_4 + (ci 1)) fun v27 =>
              self6 v27 f26)) (ci 0) p_pegFor)
        (wO (bZ (ci 0) ∧ inb l4_1 24) (ups z2 l4_1 (ci 0)) fun f28 =>
        wO (iR (l4_1 + (ci 1))) (l4_1 + (ci 1)) fun v29 =>
        self3 v29 f28)) (ci 0) p_taken
def nf_Reader_append (r_length : Int) (r_text : (Int → Int)) (x1 : Int) (x2 : Int) (Q : Int → Int → (Int → Int) → Prop) : Prop :=
  wO (iR (x1 - (ci 1))) (x1 - (ci 1)) fun v1 =>
  nlp3 (fun self5 (l4_2 : Int) (z3 : Int) (z4 : (Int → Int)) =>
      cB (l4_2 < 0)
        (Q z3 z3 z4)
        (cB ((ci 240) ≤ z3)
          (Q z3 z3 z4)
          (wO (iR ((ci 8) * l4_2)) ((ci 8) * l4_2) fun v6 =>
          wL (lushr x2 v6) fun v7 =>
          wL (l2i v7) fun v8 =>
          wL (i2b v8) fun v9 =>
          wO (inb z3 240) (ups z4 z3 v9) fun f10 =>
          wO (iR (z3 + (ci 1))) (z3 + (ci 1)) fun v11 =>
          wO (iR (l4_2 + (ci (-1)))) (l4_2 + (ci (-1))) fun v12 =>
          self5 v12 v11 f10))) v1 r_length r_text
def nf_Reader_byteAt (r_length : Int) (r_text : (Int → Int)) (x1 : Int) (Q : Int → Prop) : Prop :=
  cB (x1 < 0)
    (Q (ci (-1)) )
    (cB (r_length ≤ x1)
      (Q (ci (-1)) )
      (cB ((ci 240) ≤ x1)
        (Q (ci (-1)) )
        (wO (inb x1 240) (r_text x1) fun v1 =>
        wL (iand v1 (ci 255)) fun v2 =>
        Q v2 )))
def nf_Reader_skipBlanks (r_length : Int) (r_at : Int) (r_text : (Int → Int))  (Q : Int → Prop) : Prop :=
  cB (r_length ≤ r_at)
    (Q r_at)
    (nf_Reader_byteAt r_length r_text r_at fun r1 =>
    cB (r1 = (ci 32))
      (wO (iR (r_at + (ci 1))) (r_at + (ci 1)) fun v2 =>
      nlp1 (fun self4 (z3 : Int) =>
          cB (r_length ≤ z3)
            (Q z3)
            (nf_Reader_byteAt r_length r_text z3 fun r5 =>
            cB (r5 = (ci 32))
              (wO (iR (z3 + (ci 1))) (z3 + (ci 1)) fun v6 =>
              self4 v6)
              (Q z3))) v2)
      (Q r_at))
def nf_Reader_fail (r_place : Int) (r_failure : Int) (x1 : Int) (x2 : Int) (Q : Int → Int → Prop) : Prop :=
  cB (r_failure = 0)
    (Q x2 x1)
    (Q r_place r_failure)
def nf_Reader_isFigure (r_length : Int) (r_text : (Int → Int)) (x1 : Int) (Q : Int → Prop) : Prop :=
  nf_Reader_byteAt r_length r_text x1 fun r1 =>
  nf_H_within  r1 (ci 48) (ci 57) fun r2 =>
  wO (bZ r2) r2 fun r9 => Q r9 
def nf_Reader_needNumber (r_length : Int) (r_place : Int) (r_failure : Int) (r_at : Int) (r_firstFigure : Int) (r_text : (Int → Int)) (x1 : Int) (x2 : Int) (Q : Int → Int → Int → Int → Int → Prop) : Prop :=
  nf_Reader_skipBlanks r_length r_at r_text  fun z1 =>
  nlp2 (fun self4 (l3_2 : Int) (z3 : Int) =>
      jn0 (
          cB (z3 = z1)
            (nf_Reader_fail r_place r_failure (ci 1) z1 fun z11 z12 =>
            Q l3_2 z11 z12 z3 z1)
            (wO (iR (z3 - z1)) (z3 - z1) fun v6 =>
            jn0 (
                nf_Reader_fail r_place r_failure (ci 2) z1 fun z8 z9 =>
                Q l3_2 z8 z9 z3 z1) fun j7 =>
            cB ((ci 3) < v6)
              (j7 )
              (nf_H_within  l3_2 x1 x2 fun r10 =>
              cB (r10 = 0)
                (j7 )
                (Q l3_2 r_place r_failure z3 z1)))) fun j5 =>
      cB (r_length ≤ z3)
        (j5 )
        (nf_Reader_isFigure r_length r_text z3 fun r13 =>
        cB (r13 = 0)
          (j5 )
          (wO (iR (z3 - z1)) (z3 - z1) fun v14 =>
          jn1 (fun (l3_15 : Int) =>
              wO (iR (z3 + (ci 1))) (z3 + (ci 1)) fun v17 =>
              self4 l3_15 v17) fun j16 =>
          cB ((ci 3) ≤ v14)
            (j16 l3_2)
            (wO (iR (l3_2 * (ci 10))) (l3_2 * (ci 10)) fun v18 =>
            nf_Reader_byteAt r_length r_text z3 fun r19 =>
            wO (iR (v18 + r19)) (v18 + r19) fun v20 =>
            wO (iR (v20 - (ci 48))) (v20 - (ci 48)) fun v21 =>
            j16 v21)))) (ci 0) z1
def nf_Reader_needEnd (r_length : Int) (r_place : Int) (r_failure : Int) (r_at : Int) (r_text : (Int → Int))  (Q : Int → Int → Int → Prop) : Prop :=
  nf_Reader_skipBlanks r_length r_at r_text  fun z1 =>
  nf_Reader_byteAt r_length r_text z1 fun r2 =>
  cB (r2 = (ci 59))
    (wO (iR (z1 + (ci 1))) (z1 + (ci 1)) fun v5 =>
    Q r_place r_failure v5)
    (nf_Reader_fail r_place r_failure (ci 1) z1 fun z3 z4 =>
    Q z3 z4 z1)
def nf_Reader_tellOnce (r_place : Int) (r_failure : Int) (r_toldBefore : Int) (x1 : Int) (x2 : Int) (Q : Int → Int → Int → Prop) : Prop :=
  wL (iand r_toldBefore x1) fun v1 =>
  jn2 (fun (z2 : Int) (z3 : Int) =>
      wL (ior r_toldBefore x1) fun v5 =>
      Q z2 z3 v5) fun j4 =>
  cB (v1 = 0)
    (j4 r_place r_failure)
    (nf_Reader_fail r_place r_failure (ci 3) x2 fun z6 z7 =>
    j4 z6 z7)
def nf_Reader_changeDraft   (Q : Prop) : Prop :=
  Q
def nf_Rush_load (g_number : Int) (g_tip : (Int → Int)) (g_peg : (Int → Int)) (h_pegs : Int) (h_ticks : Int) (h_loss : Int) (h_walk : (Int → Int)) (u_size : Int) (u_loss : Int) (u_ticks : (Int → Int)) (u_tip : (Int → Int)) (u_row : (Int → Int)) (x1 : Int) (Q : Int → Int → (Int → Int) → (Int → Int) → (Int → Int) → Prop) : Prop :=
  nlp5 (fun self6 (l4_1 : Int) (z2 : Int) (z3 : (Int → Int)) (z4 : (Int → Int)) (z5 : (Int → Int)) =>
      cB (g_number ≤ l4_1)
        (Q z2 h_loss z3 z4 z5)
        (wL (ishr x1 l4_1) fun v7 =>
        wL (iand v7 (ci 1)) fun v8 =>
        jn4 (fun (z9 : Int) (z10 : (Int → Int)) (z11 : (Int → Int)) (z12 : (Int → Int)) =>
            wO (iR (l4_1 + (ci 1))) (l4_1 + (ci 1)) fun v14 =>
            self6 v14 z9 z10 z11 z12) fun j13 =>
        cB (v8 = (ci 1))
          (wO (inb l4_1 16) (g_peg l4_1) fun v15 =>
          nf_Hall_walkOf h_pegs h_walk v15 fun r16 =>
          wO (iR ((ci 2) * r16)) ((ci 2) * r16) fun v17 =>
          wO (iR (v17 + h_ticks)) (v17 + h_ticks) fun v18 =>
          wO (inb l4_1 16) (ups z3 l4_1 v18) fun f19 =>
          wO (inb l4_1 16) (g_tip l4_1) fun v20 =>
          wO (inb l4_1 16) (ups z4 l4_1 v20) fun f21 =>
          wO (inb z2 16) (ups z5 z2 l4_1) fun f22 =>
          wO (iR (z2 + (ci 1))) (z2 + (ci 1)) fun v23 =>
          j13 v23 f19 f21 f22)
          (j13 z2 z3 z4 z5))) (ci 0) (ci 0) u_ticks u_tip u_row
def nf_Rush_sumOfWaits (u_size : Int) (u_waits : (Int → Int))  (Q : Int → Prop) : Prop :=
  wO (inb u_size 17) (u_waits u_size) fun v1 =>
  Q v1 
def nf_Rush_greatestWait (u_size : Int) (u_greatest : (Int → Int))  (Q : Int → Prop) : Prop :=
  wO (inb u_size 17) (u_greatest u_size) fun v1 =>
  Q v1 
def nf_Rush_sumOfTips (u_size : Int) (u_tips : (Int → Int))  (Q : Int → Prop) : Prop :=
  wO (inb u_size 17) (u_tips u_size) fun v1 =>
  Q v1 
def nf_Rush_bestMember (u_size : Int) (u_best : (Int → Int)) (x1 : Int) (Q : Int → Prop) : Prop :=
  cB (x1 < 0)
    (Q (ci (-1)) )
    (cB (u_size ≤ x1)
      (Q (ci (-1)) )
      (cB ((ci 7) ≤ x1)
        (Q (ci (-1)) )
        (wO (inb x1 7) (u_best x1) fun v1 =>
        Q v1 )))
def nf_Rush_serve (u_loss : Int) (u_ticks : (Int → Int)) (u_tip : (Int → Int)) (u_row : (Int → Int)) (u_freeAt : (Int → Int)) (u_waits : (Int → Int)) (u_greatest : (Int → Int)) (u_tips : (Int → Int)) (x1 : Int) (x2 : Int) (Q : (Int → Int) → (Int → Int) → (Int → Int) → (Int → Int) → Prop) : Prop :=
  wO (iR (x1 * (ci 4))) (x1 * (ci 4)) fun v1 =>
  nlp3 (fun self5 (l4_2 : Int) (l5_3 : Int) (z4 : (Int → Int)) =>
      cB (x2 ≤ l5_3)
        (wO (inb x1 16) (u_row x1) fun v6 =>
        nf_H_within  v6 (ci 0) (ci 15) fun r7 =>
        cB (r7 = 0)
          (Q z4 u_waits u_greatest u_tips)
          (wO (iR (v1 + l4_2)) (v1 + l4_2) fun v8 =>
          wO (inb v8 68) (z4 v8) fun v9 =>
          wO (inb v6 16) (u_ticks v6) fun v10 =>
          wO (iR (v9 + v10)) (v9 + v10) fun v11 =>
          wO (iR (v1 + (ci 4))) (v1 + (ci 4)) fun v12 =>
          wO (iR (v12 + l4_2)) (v12 + l4_2) fun v13 =>
          wO (inb v13 68) (ups z4 v13 v11) fun f14 =>
          wO (iR (x1 + (ci 1))) (x1 + (ci 1)) fun v15 =>
          wO (inb x1 17) (u_waits x1) fun v16 =>
          wO (iR (v16 + v11)) (v16 + v11) fun v17 =>
          wO (inb v15 17) (ups u_waits v15 v17) fun f18 =>
          wO (iR (x1 + (ci 1))) (x1 + (ci 1)) fun v19 =>
          wO (inb x1 17) (u_greatest x1) fun v20 =>
          wL (imax v20 v11) fun v21 =>
          wO (inb v19 17) (ups u_greatest v19 v21) fun f22 =>
          wO (iR (x1 + (ci 1))) (x1 + (ci 1)) fun v23 =>
          wO (inb x1 17) (u_tips x1) fun v24 =>
          wO (inb v6 16) (u_tip v6) fun v25 =>
          wO (iR (u_loss * v11)) (u_loss * v11) fun v26 =>
          wO (dOK v26 (ci 10)) (Int.tdiv v26 (ci 10)) fun v27 =>
          wO (iR (v25 - v27)) (v25 - v27) fun v28 =>
          wL (imax (ci 0) v28) fun v29 =>
          wO (iR (v24 + v29)) (v24 + v29) fun v30 =>
          wO (inb v23 17) (ups u_tips v23 v30) fun f31 =>
          Q f14 f18 f22 f31))
        (wO (iR (v1 + l5_3)) (v1 + l5_3) fun v32 =>
        wO (inb v32 68) (z4 v32) fun v33 =>
        wO (iR (v1 + l4_2)) (v1 + l4_2) fun v34 =>
        wO (inb v34 68) (z4 v34) fun v35 =>
        jn1 (fun (l4_36 : Int) =>
            wO (iR (v1 + (ci 4))) (v1 + (ci 4)) fun v38 =>
            wO (iR (v38 + l5_3)) (v38 + l5_3) fun v39 =>
            wO (iR (v1 + l5_3)) (v1 + l5_3) fun v40 =>
            wO (inb v40 68) (z4 v40) fun v41 =>
            wO (inb v39 68) (ups z4 v39 v41) fun f42 =>
            wO (iR (l5_3 + (ci 1))) (l5_3 + (ci 1)) fun v43 =>
            self5 l4_36 v43 f42) fun j37 =>
        cB (v35 ≤ v33)
          (j37 l4_2)
          (j37 l5_3))) (ci 0) (ci 0) u_freeAt
def nf_Rush_serveFrom (u_size : Int) (u_loss : Int) (u_ticks : (Int → Int)) (u_tip : (Int → Int)) (u_row : (Int → Int)) (u_freeAt : (Int → Int)) (u_waits : (Int → Int)) (u_greatest : (Int → Int)) (u_tips : (Int → Int)) (x1 : Int) (x2 : Int) (Q : (Int → Int) → (Int → Int) → (Int → Int) → (Int → Int) → Prop) : Prop :=
  cB (x1 < 0)
    (Q u_freeAt u_waits u_greatest u_tips)
    (cB (x2 < (ci 1))
      (Q u_freeAt u_waits u_greatest u_tips)
      (cB (x2 ≤ (ci 4))
        (nlp5 (fun self6 (l3_1 : Int) (z2 : (Int → Int)) (z3 : (Int → Int)) (z4 : (Int → Int)) (z5 : (Int → Int)) =>
            cB (u_size ≤ l3_1)
              (Q z2 z3 z4 z5)
              (nf_Rush_serve u_loss u_ticks u_tip u_row z2 z3 z4 z5 l3_1 x2 fun f7 f8 f9 f10 =>
              wO (iR (l3_1 + (ci 1))) (l3_1 + (ci 1)) fun v11 =>
              self6 v11 f7 f8 f9 f10)) x1 u_freeAt u_waits u_greatest u_tips)
        (Q u_freeAt u_waits u_greatest u_tips)))
def nf_Rush_keepAsBest (u_size : Int) (u_bestTips : Int) (u_bestWaits : Int) (u_row : (Int → Int)) (u_waits : (Int → Int)) (u_tips : (Int → Int)) (u_best : (Int → Int))  (Q : Int → Int → (Int → Int) → Prop) : Prop :=
  nf_Rush_sumOfTips u_size u_tips  fun r1 =>
  nf_Rush_sumOfWaits u_size u_waits  fun r2 =>
  nlp2 (fun self5 (l1_3 : Int) (z4 : (Int → Int)) =>
      cB (u_size ≤ l1_3)
        (Q r1 r2 z4)
        (cB ((ci 7) ≤ l1_3)
          (Q r1 r2 z4)
          (wO (inb l1_3 16) (u_row l1_3) fun v6 =>
          wO (inb l1_3 7) (ups z4 l1_3 v6) fun f7 =>
          wO (iR (l1_3 + (ci 1))) (l1_3 + (ci 1)) fun v8 =>
          self5 v8 f7))) (ci 0) u_best
def nf_Rush_swap (u_row : (Int → Int)) (x1 : Int) (x2 : Int) (Q : (Int → Int) → Prop) : Prop :=
  nf_H_within  x1 (ci 0) (ci 15) fun r1 =>
  cB (r1 = 0)
    (Q u_row)
    (nf_H_within  x2 (ci 0) (ci 15) fun r2 =>
    cB (r2 = 0)
      (Q u_row)
      (wO (inb x1 16) (u_row x1) fun v3 =>
      wO (inb x2 16) (u_row x2) fun v4 =>
      wO (inb x1 16) (ups u_row x1 v4) fun f5 =>
      wO (inb x2 16) (ups f5 x2 v3) fun f6 =>
      Q f6))
def nf_Rush_toNextRow (u_size : Int) (u_row : (Int → Int))  (Q : Int → (Int → Int) → Prop) : Prop :=
  wO (iR (u_size - (ci 2))) (u_size - (ci 2)) fun v1 =>
  nlp1 (fun self3 (l1_2 : Int) =>
      jn0 (
          cB (0 ≤ l1_2)
            (wO (iR (u_size - (ci 1))) (u_size - (ci 1)) fun v5 =>
            nlp1 (fun self7 (l2_6 : Int) =>
                jn0 (
                    nf_Rush_swap u_row l1_2 l2_6 fun f9 =>
                    wO (iR (l1_2 + (ci 1))) (l1_2 + (ci 1)) fun v10 =>
                    wO (iR (u_size - (ci 1))) (u_size - (ci 1)) fun v11 =>
                    nlp3 (fun self15 (l3_12 : Int) (l4_13 : Int) (z14 : (Int → Int)) =>
                        cB (l4_13 ≤ l3_12)
                          (Q l1_2 z14)
                          (nf_Rush_swap z14 l3_12 l4_13 fun f16 =>
                          wO (iR (l3_12 + (ci 1))) (l3_12 + (ci 1)) fun v17 =>
                          wO (iR (l4_13 + (ci (-1)))) (l4_13 + (ci (-1))) fun v18 =>
                          self15 v17 v18 f16)) v10 v11 f9) fun j8 =>
                cB (l2_6 ≤ l1_2)
                  (j8 )
                  (wO (inb l2_6 16) (u_row l2_6) fun v19 =>
                  wO (inb l1_2 16) (u_row l1_2) fun v20 =>
                  cB (v20 ≤ v19)
                    (j8 )
                    (wO (iR (l2_6 + (ci (-1)))) (l2_6 + (ci (-1))) fun v21 =>
                    self7 v21))) v5)
            (Q (ci (-1)) u_row)) fun j4 =>
      cB (l1_2 < 0)
        (j4 )
        (wO (inb l1_2 16) (u_row l1_2) fun v22 =>
        wO (iR (l1_2 + (ci 1))) (l1_2 + (ci 1)) fun v23 =>
        wO (inb v23 16) (u_row v23) fun v24 =>
        cB (v22 ≤ v24)
          (j4 )
          (wO (iR (l1_2 + (ci (-1)))) (l1_2 + (ci (-1))) fun v25 =>
          self3 v25))) v1
def nf_Rush_findBest (u_size : Int) (u_loss : Int) (u_bestTips : Int) (u_bestWaits : Int) (u_ticks : (Int → Int)) (u_tip : (Int → Int)) (u_row : (Int → Int)) (u_freeAt : (Int → Int)) (u_waits : (Int → Int)) (u_greatest : (Int → Int)) (u_tips : (Int → Int)) (u_best : (Int → Int)) (x1 : Int) (Q : Int → Int → (Int → Int) → (Int → Int) → (Int → Int) → (Int → Int) → (Int → Int) → (Int → Int) → Prop) : Prop :=
  nf_Rush_serveFrom u_size u_loss u_ticks u_tip u_row u_freeAt u_waits u_greatest u_tips (ci 0) x1 fun f1 f2 f3 f4 =>
  nf_Rush_keepAsBest u_size u_bestTips u_bestWaits u_row f2 f4 u_best  fun z5 z6 f7 =>
  nlp9 (fun self17 (l2_8 : Int) (z9 : Int) (z10 : Int) (z11 : (Int → Int)) (z12 : (Int → Int)) (z13 : (Int → Int)) (z14 : (Int → Int)) (z15 : (Int → Int)) (z16 : (Int → Int)) =>
      cB ((ci 5040) ≤ l2_8)
        (Q z9 z10 z11 z12 z13 z14 z15 z16)
        (nf_Rush_toNextRow u_size z11  fun r19 f18 =>
        cB (r19 = (ci (-1)))
          (Q z9 z10 f18 z12 z13 z14 z15 z16)
          (nf_Rush_serveFrom u_size u_loss u_ticks u_tip f18 z12 z13 z14 z15 r19 x1 fun f20 f21 f22 f23 =>
          nf_Rush_sumOfTips u_size f23  fun r24 =>
          jn1 (fun (t25 : Int) =>
              nf_Rush_sumOfTips u_size f23  fun r27 =>
              jn3 (fun (z28 : Int) (z29 : Int) (z30 : (Int → Int)) =>
                  wO (iR (l2_8 + (ci 1))) (l2_8 + (ci 1)) fun v32 =>
                  self17 v32 z28 z29 f18 f20 f21 f22 f23 z30) fun j31 =>
              jn0 (
                  nf_Rush_keepAsBest u_size z9 z10 f18 f21 f23 z16  fun z34 z35 f36 =>
                  j31 z34 z35 f36) fun j33 =>
              cB (z9 < r27)
                (j33 )
                (cB (t25 = 0)
                  (j31 z9 z10 z16)
                  (nf_Rush_sumOfWaits u_size f21  fun r37 =>
                  cB (z10 ≤ r37)
                    (j31 z9 z10 z16)
                    (j33 )))) fun j26 =>
          cB (r24 = z9)
            (j26 (ci 1))
            (j26 (ci 0))))) (ci 1) z5 z6 u_row f1 f2 f3 f4 f7
def nf_H_feed (r_length : Int) (r_text : (Int → Int)) (x1 : Int) (x2 : Int) (Q : Int → Int → (Int → Int) → Prop) : Prop :=
  nf_H_within  x1 (ci 1) (ci 8) fun r1 =>
  cB (r1 = 0)
    (Q (ci (-1002)) r_length r_text)
    (wO (iR (r_length + x1)) (r_length + x1) fun v2 =>
    cB (v2 ≤ (ci 240))
      (nf_Reader_append r_length r_text x1 x2 fun r5 z3 f4 =>
      Q r5 z3 f4)
      (Q (ci (-1004)) r_length r_text))
def nf_H_fault (r_place : Int)  (Q : Int → Prop) : Prop :=
  Q r_place 
def nf_H_peg (g_number : Int) (g_peg : (Int → Int)) (h_pegs : Int) (h_kind : (Int → Int)) (h_walk : (Int → Int)) (x1 : Int) (x2 : Int) (Q : Int → Prop) : Prop :=
  nf_Hall_hasPeg h_pegs x1 fun r1 =>
  cB (r1 = 0)
    (Q (ci (-1001)) )
    ((cB (x2 = 0)
      (wO (inb x1 24) (h_kind x1) fun v2 =>
      Q v2 )
    (cB (x2 = 1)
      (wO (inb x1 24) (h_walk x1) fun v3 =>
      Q v3 )
    (cB (x2 = 2)
      (nf_Guests_ownerOn g_number g_peg x1 fun r4 =>
      Q r4 )
      (Q (ci (-1002)) )))))
def nf_H_odds (h_share : (Int → Int)) (x1 : Int) (x2 : Int) (Q : Int → Prop) : Prop :=
  nf_H_within  x1 (ci 0) (ci 3) fun r1 =>
  cB (r1 = 0)
    (Q (ci (-1002)) )
    (nf_H_within  x2 (ci 0) (ci 2) fun r2 =>
    cB (r2 = 0)
      (Q (ci (-1002)) )
      (nf_Hall_shareOf h_share x1 x2 fun r3 =>
      Q r3 ))
def nf_H_count (g_number : Int) (e_number : Int) (c_number : Int) (n_number : Int) (h_pegs : Int) (h_ticks : Int) (h_loss : Int) (h_weight : (Int → Int)) (r_length : Int) (x1 : Int) (Q : Int → Prop) : Prop :=
  (cB (x1 = 0)
    (Q h_pegs )
  (cB (x1 = 1)
    (Q g_number )
  (cB (x1 = 2)
    (Q e_number )
  (cB (x1 = 3)
    (Q c_number )
  (cB (x1 = 4)
    (Q n_number )
  (cB (x1 = 5)
    (Q r_length )
  (cB (x1 = 6)
    (Q h_ticks )
  (cB (x1 = 7)
    (Q h_loss )
  (cB (x1 = 8)
    (nf_Hall_weightOf h_weight (ci 0) fun r1 =>
    Q r1 )
  (cB (x1 = 9)
    (nf_Hall_weightOf h_weight (ci 1) fun r2 =>
    Q r2 )
  (cB (x1 = 10)
    (nf_Hall_weightOf h_weight (ci 2) fun r3 =>
    Q r3 )
    (Q (ci (-1002)) ))))))))))))
def nf_H_guest (g_number : Int) (g_sort : (Int → Int)) (g_kind : (Int → Int)) (g_tip : (Int → Int)) (g_marks : (Int → Int)) (g_brass : (Int → Int)) (g_peg : (Int → Int)) (g_has : (Int → Int)) (x1 : Int) (x2 : Int) (x3 : Int) (x4 : Int) (Q : Int → Int → (Int → Int) → (Int → Int) → (Int → Int) → (Int → Int) → (Int → Int) → (Int → Int) → (Int → Int) → Prop) : Prop :=
  nf_H_within  x1 (ci 0) (ci 3) fun r1 =>
  cB (r1 = 0)
    (Q (ci (-1002)) g_number g_sort g_kind g_tip g_marks g_brass g_peg g_has)
    (nf_H_within  x2 (ci 0) (ci 2) fun r2 =>
    cB (r2 = 0)
      (Q (ci (-1002)) g_number g_sort g_kind g_tip g_marks g_brass g_peg g_has)
      (nf_H_within  x3 (ci 0) (ci 99) fun r3 =>
      cB (r3 = 0)
        (Q (ci (-1002)) g_number g_sort g_kind g_tip g_marks g_brass g_peg g_has)
        (nf_H_within  x4 (ci 0) (ci 255) fun r4 =>
        cB (r4 = 0)
          (Q (ci (-1002)) g_number g_sort g_kind g_tip g_marks g_brass g_peg g_has)
          (cB (g_number < (ci 16))
            (nf_Guests_add g_number g_sort g_kind g_tip g_marks g_brass g_peg g_has x1 x2 x3 x4 fun r13 z5 f6 f7 f8 f9 f10 f11 f12 =>
            Q r13 z5 f6 f7 f8 f9 f10 f11 f12)
            (Q (ci (-1004)) g_number g_sort g_kind g_tip g_marks g_brass g_peg g_has)))))
def nf_H_oddsInPlace (k_nightPlay : Int) (k_nightWeather : Int) (n_left : (Int → Int)) (h_share : (Int → Int)) (x1 : Int) (x2 : Int) (Q : Int → Prop) : Prop :=
  cB (k_nightPlay = (ci (-1)))
    (nf_Hall_shareOf h_share x1 x2 fun r2 =>
    Q r2 )
    (nf_Nights_oddsOf n_left k_nightPlay k_nightWeather x2 fun r1 =>
    Q r1 )
def nf_H_expectedOf (k_nightPlay : Int) (k_nightWeather : Int) (g_number : Int) (g_sort : (Int → Int)) (n_left : (Int → Int)) (h_share : (Int → Int)) (h_weight : (Int → Int)) (x1 : Int) (Q : Int → Prop) : Prop :=
  nf_Guests_knows g_number x1 fun r1 =>
  cB (r1 = 0)
    (Q (ci 0) )
    (nlp2 (fun self4 (l2_2 : Int) (l3_3 : Int) =>
        cB ((ci 3) ≤ l3_3)
          (Q l2_2 )
          (wO (inb x1 16) (g_sort x1) fun v5 =>
          nf_H_oddsInPlace k_nightPlay k_nightWeather n_left h_share v5 l3_3 fun r6 =>
          nf_Hall_weightOf h_weight l3_3 fun r7 =>
          wO (iR (r6 * r7)) (r6 * r7) fun v8 =>
          wO (iR (l2_2 + v8)) (l2_2 + v8) fun v9 =>
          wO (iR (l3_3 + (ci 1))) (l3_3 + (ci 1)) fun v10 =>
          self4 v9 v10)) (ci 0) (ci 0))
def nf_H_told (k_nightPlay : Int) (k_nightWeather : Int) (g_number : Int) (g_sort : (Int → Int)) (g_kind : (Int → Int)) (g_tip : (Int → Int)) (g_marks : (Int → Int)) (g_brass : (Int → Int)) (g_peg : (Int → Int)) (g_has : (Int → Int)) (n_left : (Int → Int)) (h_share : (Int → Int)) (h_weight : (Int → Int)) (x1 : Int) (x2 : Int) (Q : Int → Prop) : Prop :=
  nf_Guests_knows g_number x1 fun r1 =>
  cB (r1 = 0)
    (Q (ci (-1001)) )
    ((cB (x2 = 0)
      (wO (inb x1 16) (g_sort x1) fun v2 =>
      Q v2 )
    (cB (x2 = 1)
      (wO (inb x1 16) (g_kind x1) fun v3 =>
      Q v3 )
    (cB (x2 = 2)
      (wO (inb x1 16) (g_tip x1) fun v4 =>
      Q v4 )
    (cB (x2 = 3)
      (wO (inb x1 16) (g_marks x1) fun v5 =>
      Q v5 )
    (cB (x2 = 4)
      (wO (inb x1 16) (g_brass x1) fun v6 =>
      Q v6 )
    (cB (x2 = 5)
      (wO (inb x1 16) (g_peg x1) fun v7 =>
      Q v7 )
    (cB (x2 = 6)
      (nf_Guests_holderOf g_number g_has x1 fun r8 =>
      Q r8 )
    (cB (x2 = 7)
      (wO (inb x1 16) (g_has x1) fun v9 =>
      Q v9 )
    (cB (x2 = 8)
      (nf_H_expectedOf k_nightPlay k_nightWeather g_number g_sort n_left h_share h_weight x1 fun r10 =>
      Q r10 )
      (Q (ci (-1002)) )))))))))))
def nf_H_plan (k_nightPlay : Int) (k_nightWeather : Int) (g_number : Int) (g_sort : (Int → Int)) (g_kind : (Int → Int)) (n_left : (Int → Int)) (h_pegs : Int) (h_kind : (Int → Int)) (h_walk : (Int → Int)) (h_share : (Int → Int)) (h_weight : (Int → Int)) (p_sum : Int) (p_expected : (Int → Int)) (p_pegFor : (Int → Int)) (p_taken : (Int → Int)) (x1 : Int) (x2 : Int) (Q : Int → Int → (Int → Int) → (Int → Int) → (Int → Int) → Prop) : Prop :=
  jn0 (
      nlp2 (fun self4 (l3_2 : Int) (z3 : (Int → Int)) =>
          cB (g_number ≤ l3_2)
            (nf_Plan_make g_number g_kind h_pegs h_kind h_walk p_sum z3 p_pegFor p_taken x1 fun r8 z5 f6 f7 =>
            cB (r8 = 0)
              (Q (ci (-1)) z5 z3 f6 f7)
              (cB (x2 = (ci (-1)))
                (Q z5 z5 z3 f6 f7)
                (nf_Plan_pegOf f6 x2 fun r9 =>
                Q r9 z5 z3 f6 f7)))
            (nf_H_expectedOf k_nightPlay k_nightWeather g_number g_sort n_left h_share h_weight l3_2 fun r10 =>
            wO (inb l3_2 16) (ups z3 l3_2 r10) fun f11 =>
            wO (iR (l3_2 + (ci 1))) (l3_2 + (ci 1)) fun v12 =>
            self4 v12 f11)) (ci 0) p_expected) fun j1 =>
  cB (x2 = (ci (-1)))
    (j1 )
    (nf_Guests_knows g_number x2 fun r13 =>
    cB (r13 = 0)
      (Q (ci (-1001)) p_sum p_expected p_pegFor p_taken)
      (j1 ))
def nf_H_night (n_number : Int) (n_left : (Int → Int)) (x1 : Int) (x2 : Int) (x3 : Int) (x4 : Int) (x5 : Int) (Q : Int → Int → (Int → Int) → Prop) : Prop :=
  nf_H_within  x1 (ci 0) (ci 3) fun r1 =>
  cB (r1 = 0)
    (Q (ci (-1002)) n_number n_left)
    (nf_H_within  x2 (ci 0) (ci 1) fun r2 =>
    cB (r2 = 0)
      (Q (ci (-1002)) n_number n_left)
      (nf_H_within  x3 (ci 0) (ci 999) fun r3 =>
      cB (r3 = 0)
        (Q (ci (-1002)) n_number n_left)
        (nf_H_within  x4 (ci 0) (ci 999) fun r4 =>
        cB (r4 = 0)
          (Q (ci (-1002)) n_number n_left)
          (nf_H_within  x5 (ci 0) (ci 999) fun r5 =>
          cB (r5 = 0)
            (Q (ci (-1002)) n_number n_left)
            (cB (n_number < (ci 60))
              (nf_Nights_add n_number n_left x1 x2 x3 x4 x5 fun r8 z6 f7 =>
              Q r8 z6 f7)
              (Q (ci (-1004)) n_number n_left))))))
def nf_H_learnt (n_left : (Int → Int)) (x1 : Int) (x2 : Int) (x3 : Int) (Q : Int → Prop) : Prop :=
  nf_H_within  x1 (ci 0) (ci 3) fun r1 =>
  cB (r1 = 0)
    (Q (ci (-1002)) )
    (nf_H_within  x2 (ci 0) (ci 1) fun r2 =>
    cB (r2 = 0)
      (Q (ci (-1002)) )
      (nf_H_within  x3 (ci 0) (ci 2) fun r3 =>
      cB (r3 = 0)
        (Q (ci (-1002)) )
        (nf_Nights_oddsOf n_left x1 x2 x3 fun r4 =>
        Q r4 )))
def nf_H_tonight (k_nightPlay : Int) (k_nightWeather : Int) (x1 : Int) (x2 : Int) (Q : Int → Int → Int → Prop) : Prop :=
  nf_H_within  x1 (ci (-1)) (ci 3) fun r1 =>
  cB (r1 = 0)
    (Q (ci (-1002)) k_nightPlay k_nightWeather)
    (nf_H_within  x2 (ci 0) (ci 1) fun r2 =>
    cB (r2 = 0)
      (Q (ci (-1002)) k_nightPlay k_nightWeather)
      (Q (ci 1) x1 x2))
def nf_H_isHand  (x1 : Int) (Q : Int → Prop) : Prop :=
  nf_H_within  x1 (ci 0) (ci 3) fun r1 =>
  wO (bZ r1) r1 fun r9 => Q r9 
def nf_H_mayHang (g_number : Int) (g_kind : (Int → Int)) (g_peg : (Int → Int)) (e_number : Int) (e_facts : (Int → Int)) (c_number : Int) (c_guest : (Int → Int)) (h_pegs : Int) (h_kind : (Int → Int)) (x1 : Int) (x2 : Int) (Q : Int → Prop) : Prop :=
  nf_Events_find e_number e_facts (ci 0) x1 fun r1 =>
  cB (r1 = (ci (-1)))
    (nf_Claims_isOf c_number c_guest x1 fun r2 =>
    cB (r2 = 0)
      (nf_Guests_kindOf g_number g_kind x1 fun r3 =>
      nf_Hall_isOfKind h_pegs h_kind x2 r3 fun r4 =>
      cB (r4 = 0)
        (Q (ci 0) )
        (nf_Guests_ownerOn g_number g_peg x2 fun r5 =>
        cB (r5 = (ci (-1)))
          (Q (ci 1) )
          (Q (ci 0) )))
      (Q (ci 0) ))
    (Q (ci 0) )
def nf_H_hang (g_number : Int) (g_kind : (Int → Int)) (g_brass : (Int → Int)) (g_peg : (Int → Int)) (e_number : Int) (e_facts : (Int → Int)) (c_number : Int) (c_guest : (Int → Int)) (h_pegs : Int) (h_kind : (Int → Int)) (x1 : Int) (x2 : Int) (x3 : Int) (x4 : Int) (Q : Int → (Int → Int) → (Int → Int) → Int → (Int → Int) → Prop) : Prop :=
  nf_H_isHand  x1 fun r1 =>
  cB (r1 = 0)
    (Q (ci (-1001)) g_brass g_peg e_number e_facts)
    (nf_Guests_knows g_number x2 fun r2 =>
    cB (r2 = 0)
      (Q (ci (-1001)) g_brass g_peg e_number e_facts)
      (nf_Hall_hasPeg h_pegs x3 fun r3 =>
      cB (r3 = 0)
        (Q (ci (-1001)) g_brass g_peg e_number e_facts)
        (nf_H_within  x4 (ci 0) (ci 23) fun r4 =>
        cB (r4 = 0)
          (Q (ci (-1002)) g_brass g_peg e_number e_facts)
          (nf_H_mayHang g_number g_kind g_peg e_number e_facts c_number c_guest h_pegs h_kind x2 x3 fun r5 =>
          cB (r5 = 0)
            (Q (ci (-1003)) g_brass g_peg e_number e_facts)
            (nf_Guests_brassIsOut g_number g_brass x4 fun r6 =>
            cB (r6 = 0)
              (nf_Events_isFull e_number  fun r7 =>
              cB (r7 = 0)
                (wO (inb x2 16) (ups g_peg x2 x3) fun f8 =>
                wO (inb x2 16) (ups g_brass x2 x4) fun f9 =>
                nf_Events_add e_number e_facts (ci 0) x1 x2 x3 x4 x2 fun r12 z10 f11 =>
                Q r12 f9 f8 z10 f11)
                (Q (ci (-1004)) g_brass g_peg e_number e_facts))
              (Q (ci (-1003)) g_brass g_peg e_number e_facts))))))
def nf_H_give (g_number : Int) (g_brass : (Int → Int)) (g_peg : (Int → Int)) (g_has : (Int → Int)) (e_number : Int) (e_facts : (Int → Int)) (h_pegs : Int) (x1 : Int) (x2 : Int) (x3 : Int) (Q : Int → (Int → Int) → (Int → Int) → (Int → Int) → Int → (Int → Int) → Prop) : Prop :=
  nf_H_isHand  x1 fun r1 =>
  cB (r1 = 0)
    (Q (ci (-1001)) g_brass g_peg g_has e_number e_facts)
    (nf_Guests_knows g_number x2 fun r2 =>
    cB (r2 = 0)
      (Q (ci (-1001)) g_brass g_peg g_has e_number e_facts)
      (nf_Hall_hasPeg h_pegs x3 fun r3 =>
      cB (r3 = 0)
        (Q (ci (-1001)) g_brass g_peg g_has e_number e_facts)
        (nf_Guests_ownerOn g_number g_peg x3 fun r4 =>
        wO (inb x2 16) (g_brass x2) fun v5 =>
        cB (v5 = (ci (-1)))
          (Q (ci (-1003)) g_brass g_peg g_has e_number e_facts)
          (wO (inb x2 16) (g_has x2) fun v6 =>
          cB (v6 = (ci (-1)))
            (cB (r4 = (ci (-1)))
              (Q (ci (-1003)) g_brass g_peg g_has e_number e_facts)
              (nf_Events_isFull e_number  fun r7 =>
              cB (r7 = 0)
                (wO (inb x2 16) (g_brass x2) fun v8 =>
                wO (inb x2 16) (ups g_brass x2 (ci (-1))) fun f9 =>
                nf_Guests_handOver g_number g_peg g_has r4 x2 fun f10 f11 =>
                nf_Events_add e_number e_facts (ci 1) x1 x2 x3 v8 r4 fun r14 z12 f13 =>
                Q r14 f9 f10 f11 z12 f13)
                (Q (ci (-1004)) g_brass g_peg g_has e_number e_facts)))
            (Q (ci (-1003)) g_brass g_peg g_has e_number e_facts)))))
def nf_H_lose (g_number : Int) (g_brass : (Int → Int)) (e_number : Int) (e_facts : (Int → Int)) (x1 : Int) (Q : Int → (Int → Int) → Int → (Int → Int) → Prop) : Prop :=
  nf_Guests_knows g_number x1 fun r1 =>
  cB (r1 = 0)
    (Q (ci (-1001)) g_brass e_number e_facts)
    (wO (inb x1 16) (g_brass x1) fun v2 =>
    cB (v2 = (ci (-1)))
      (Q (ci (-1003)) g_brass e_number e_facts)
      (nf_Events_isFull e_number  fun r3 =>
      cB (r3 = 0)
        (wO (inb x1 16) (ups g_brass x1 (ci (-1))) fun f4 =>
        nf_Events_add e_number e_facts (ci 2) (ci (-1)) x1 (ci (-1)) v2 (ci (-1)) fun r7 z5 f6 =>
        Q r7 f4 z5 f6)
        (Q (ci (-1004)) g_brass e_number e_facts)))
def nf_H_event (e_number : Int) (e_facts : (Int → Int)) (x1 : Int) (x2 : Int) (Q : Int → Prop) : Prop :=
  nf_Events_knows e_number x1 fun r1 =>
  cB (r1 = 0)
    (Q (ci (-1001)) )
    (nf_H_within  x2 (ci 0) (ci 6) fun r2 =>
    cB (r2 = 0)
      (Q (ci (-1002)) )
      (nf_Events_factOf e_number e_facts x1 x2 fun r3 =>
      Q r3 ))
def nf_H_astray (g_number : Int) (g_has : (Int → Int))  (Q : Int → Prop) : Prop :=
  nlp2 (fun self3 (l1_1 : Int) (l2_2 : Int) =>
      cB (g_number ≤ l2_2)
        (Q l1_1 )
        (nf_Guests_isAstray g_number g_has l2_2 fun r4 =>
        jn1 (fun (l1_5 : Int) =>
            wO (iR (l2_2 + (ci 1))) (l2_2 + (ci 1)) fun v7 =>
            self3 l1_5 v7) fun j6 =>
        cB (r4 = 0)
          (j6 l1_1)
          (wL (ishl (ci 1) l2_2) fun v8 =>
          wL (ior l1_1 v8) fun v9 =>
          j6 v9))) (ci 0) (ci 0)
def nf_H_chain (g_number : Int) (g_has : (Int → Int)) (x1 : Int) (x2 : Int) (Q : Int → Prop) : Prop :=
  nf_Guests_knows g_number x1 fun r1 =>
  cB (r1 = 0)
    (Q (ci (-1001)) )
    (nf_Guests_isAstray g_number g_has x1 fun r2 =>
    cB (r2 = 0)
      (Q (ci (-1003)) )
      (cB (x2 = (ci (-1)))
        (nf_Guests_chainLength g_number g_has x1 fun r4 =>
        Q r4 )
        (nf_Guests_chainMember g_number g_has x1 x2 fun r3 =>
        Q r3 )))
def nf_H_ring (g_number : Int) (g_has : (Int → Int)) (x1 : Int) (Q : Int → Prop) : Prop :=
  nf_Guests_knows g_number x1 fun r1 =>
  cB (r1 = 0)
    (Q (ci (-1001)) )
    (nf_Guests_isAstray g_number g_has x1 fun r2 =>
    cB (r2 = 0)
      (Q (ci (-1003)) )
      (nf_Guests_comesRound g_number g_has x1 fun r3 =>
      cB (r3 = 0)
        (Q (ci 0) )
        (Q (ci 1) )))
def nf_H_exchanges (g_number : Int) (g_has : (Int → Int))  (Q : Int → Prop) : Prop :=
  nlp2 (fun self3 (l1_1 : Int) (l2_2 : Int) =>
      cB (g_number ≤ l2_2)
        (Q l1_1 )
        (nf_Guests_isAstray g_number g_has l2_2 fun r4 =>
        jn1 (fun (l1_5 : Int) =>
            nf_Guests_isLeastOfRing g_number g_has l2_2 fun r7 =>
            jn1 (fun (l1_8 : Int) =>
                wO (iR (l2_2 + (ci 1))) (l2_2 + (ci 1)) fun v10 =>
                self3 l1_8 v10) fun j9 =>
            cB (r7 = 0)
              (j9 l1_5)
              (wO (iR (l1_5 + (ci (-1)))) (l1_5 + (ci (-1))) fun v11 =>
              j9 v11)) fun j6 =>
        cB (r4 = 0)
          (j6 l1_1)
          (wO (iR (l1_1 + (ci 1))) (l1_1 + (ci 1)) fun v12 =>
          j6 v12))) (ci 0) (ci 0)
def nf_H_wrong (g_number : Int) (e_number : Int) (e_facts : (Int → Int)) (x1 : Int) (x2 : Int) (Q : Int → Prop) : Prop :=
  nf_Guests_knows g_number x1 fun r1 =>
  cB (r1 = 0)
    (Q (ci (-1001)) )
    (nf_H_within  x2 (ci 0) (ci 1) fun r2 =>
    cB (r2 = 0)
      (Q (ci (-1002)) )
      (nf_Events_firstWrong e_number e_facts x1 fun r3 =>
      cB (x2 = 0)
        (nf_Events_factOf e_number e_facts r3 (ci 1) fun r4 =>
        Q r4 )
        (Q r3 )))
def nf_H_allHang (g_number : Int) (g_peg : (Int → Int)) (x1 : Int) (Q : Int → Prop) : Prop :=
  nlp2 (fun self3 (l2_1 : Int) (l3_2 : Int) =>
      cB (g_number ≤ l3_2)
        (wL (ixor l2_1 (ci (-1))) fun v4 =>
        wL (iand x1 v4) fun v5 =>
        cB (v5 = 0)
          (Q (ci 1) )
          (Q (ci 0) ))
        (nf_Guests_hangs g_number g_peg l3_2 fun r6 =>
        jn1 (fun (l2_7 : Int) =>
            wO (iR (l3_2 + (ci 1))) (l3_2 + (ci 1)) fun v9 =>
            self3 l2_7 v9) fun j8 =>
        cB (r6 = 0)
          (j8 l2_1)
          (wL (ishl (ci 1) l3_2) fun v10 =>
          wL (ior l2_1 v10) fun v11 =>
          j8 v11))) (ci 0) (ci 0)
def nf_H_rush (g_number : Int) (g_tip : (Int → Int)) (g_peg : (Int → Int)) (h_pegs : Int) (h_ticks : Int) (h_loss : Int) (h_walk : (Int → Int)) (u_size : Int) (u_loss : Int) (u_ticks : (Int → Int)) (u_tip : (Int → Int)) (u_row : (Int → Int)) (u_freeAt : (Int → Int)) (u_waits : (Int → Int)) (u_greatest : (Int → Int)) (u_tips : (Int → Int)) (x1 : Int) (x2 : Int) (x3 : Int) (Q : Int → Int → Int → (Int → Int) → (Int → Int) → (Int → Int) → (Int → Int) → (Int → Int) → (Int → Int) → (Int → Int) → Prop) : Prop :=
  nf_H_allHang g_number g_peg x1 fun r1 =>
  cB (r1 = 0)
    (Q (ci (-1001)) u_size u_loss u_ticks u_tip u_row u_freeAt u_waits u_greatest u_tips)
    (nf_H_within  x2 (ci 1) (ci 4) fun r2 =>
    cB (r2 = 0)
      (Q (ci (-1002)) u_size u_loss u_ticks u_tip u_row u_freeAt u_waits u_greatest u_tips)
      (nf_H_within  x3 (ci 0) (ci 2) fun r3 =>
      cB (r3 = 0)
        (Q (ci (-1002)) u_size u_loss u_ticks u_tip u_row u_freeAt u_waits u_greatest u_tips)
        (nf_Rush_load g_number g_tip g_peg h_pegs h_ticks h_loss h_walk u_size u_loss u_ticks u_tip u_row x1 fun z4 z5 f6 f7 f8 =>
        nf_Rush_serveFrom z4 z5 f6 f7 f8 u_freeAt u_waits u_greatest u_tips (ci 0) x2 fun f9 f10 f11 f12 =>
        (cB (x3 = 0)
          (nf_Rush_sumOfWaits z4 f10  fun r13 =>
          Q r13 z4 z5 f6 f7 f8 f9 f10 f11 f12)
        (cB (x3 = 1)
          (nf_Rush_greatestWait z4 f11  fun r14 =>
          Q r14 z4 z5 f6 f7 f8 f9 f10 f11 f12)
          (nf_Rush_sumOfTips z4 f12  fun r15 =>
          Q r15 z4 z5 f6 f7 f8 f9 f10 f11 f12))))))
def nf_H_bestRow (g_number : Int) (g_tip : (Int → Int)) (g_peg : (Int → Int)) (h_pegs : Int) (h_ticks : Int) (h_loss : Int) (h_walk : (Int → Int)) (u_size : Int) (u_loss : Int) (u_bestTips : Int) (u_bestWaits : Int) (u_ticks : (Int → Int)) (u_tip : (Int → Int)) (u_row : (Int → Int)) (u_freeAt : (Int → Int)) (u_waits : (Int → Int)) (u_greatest : (Int → Int)) (u_tips : (Int → Int)) (u_best : (Int → Int)) (x1 : Int) (x2 : Int) (x3 : Int) (Q : Int → Int → Int → Int → Int → (Int → Int) → (Int → Int) → (Int → Int) → (Int → Int) → (Int → Int) → (Int → Int) → (Int → Int) → (Int → Int) → Prop) : Prop :=
  nf_H_allHang g_number g_peg x1 fun r1 =>
  cB (r1 = 0)
    (Q (ci (-1001)) u_size u_loss u_bestTips u_bestWaits u_ticks u_tip u_row u_freeAt u_waits u_greatest u_tips u_best)
    (nf_H_within  x2 (ci 1) (ci 4) fun r2 =>
    cB (r2 = 0)
      (Q (ci (-1002)) u_size u_loss u_bestTips u_bestWaits u_ticks u_tip u_row u_freeAt u_waits u_greatest u_tips u_best)
      (nf_bitCount  x1 fun r3 =>
      cB (r3 ≤ (ci 7))
        (nf_Rush_load g_number g_tip g_peg h_pegs h_ticks h_loss h_walk u_size u_loss u_ticks u_tip u_row x1 fun z4 z5 f6 f7 f8 =>
        nf_Rush_findBest z4 z5 u_bestTips u_bestWaits f6 f7 f8 u_freeAt u_waits u_greatest u_tips u_best x2 fun z9 z10 f11 f12 f13 f14 f15 f16 =>
        cB (x3 = (ci (-1)))
          (Q z9 z4 z5 z9 z10 f6 f7 f11 f12 f13 f14 f15 f16)
          (nf_Rush_bestMember z4 f16 x3 fun r17 =>
          Q r17 z4 z5 z9 z10 f6 f7 f11 f12 f13 f14 f15 f16))
        (Q (ci (-1003)) u_size u_loss u_bestTips u_bestWaits u_ticks u_tip u_row u_freeAt u_waits u_greatest u_tips u_best)))
def nf_H_wanted (g_number : Int) (g_tip : (Int → Int)) (g_peg : (Int → Int)) (h_pegs : Int) (h_ticks : Int) (h_loss : Int) (h_walk : (Int → Int)) (u_size : Int) (u_loss : Int) (u_ticks : (Int → Int)) (u_tip : (Int → Int)) (u_row : (Int → Int)) (u_freeAt : (Int → Int)) (u_waits : (Int → Int)) (u_greatest : (Int → Int)) (u_tips : (Int → Int)) (x1 : Int) (x2 : Int) (Q : Int → Int → Int → (Int → Int) → (Int → Int) → (Int → Int) → (Int → Int) → (Int → Int) → (Int → Int) → (Int → Int) → Prop) : Prop :=
  nf_H_allHang g_number g_peg x1 fun r1 =>
  cB (r1 = 0)
    (Q (ci (-1001)) u_size u_loss u_ticks u_tip u_row u_freeAt u_waits u_greatest u_tips)
    (nf_H_within  x2 (ci 0) (ci 9999) fun r2 =>
    cB (r2 = 0)
      (Q (ci (-1002)) u_size u_loss u_ticks u_tip u_row u_freeAt u_waits u_greatest u_tips)
      (nf_Rush_load g_number g_tip g_peg h_pegs h_ticks h_loss h_walk u_size u_loss u_ticks u_tip u_row x1 fun z3 z4 f5 f6 f7 =>
      nlp5 (fun self13 (l3_8 : Int) (z9 : (Int → Int)) (z10 : (Int → Int)) (z11 : (Int → Int)) (z12 : (Int → Int)) =>
          cB ((ci 4) < l3_8)
            (Q (ci (-1)) z3 z4 f5 f6 f7 z9 z10 z11 z12)
            (nf_Rush_serveFrom z3 z4 f5 f6 f7 z9 z10 z11 z12 (ci 0) l3_8 fun f14 f15 f16 f17 =>
            nf_Rush_greatestWait z3 f16  fun r18 =>
            cB (x2 < r18)
              (wO (iR (l3_8 + (ci 1))) (l3_8 + (ci 1)) fun v19 =>
              self13 v19 f14 f15 f16 f17)
              (Q l3_8 z3 z4 f5 f6 f7 f14 f15 f16 f17))) (ci 1) u_freeAt u_waits u_greatest u_tips))
def nf_H_claim (g_number : Int) (g_brass : (Int → Int)) (g_has : (Int → Int)) (c_number : Int) (c_guest : (Int → Int)) (c_yes : (Int → Int)) (c_no : (Int → Int)) (x1 : Int) (x2 : Int) (x3 : Int) (Q : Int → Int → (Int → Int) → (Int → Int) → (Int → Int) → Prop) : Prop :=
  nf_Guests_knows g_number x1 fun r1 =>
  cB (r1 = 0)
    (Q (ci (-1001)) c_number c_guest c_yes c_no)
    (nf_H_within  x2 (ci 0) (ci 255) fun r2 =>
    cB (r2 = 0)
      (Q (ci (-1002)) c_number c_guest c_yes c_no)
      (nf_H_within  x3 (ci 0) (ci 255) fun r3 =>
      cB (r3 = 0)
        (Q (ci (-1002)) c_number c_guest c_yes c_no)
        (wL (iand x2 x3) fun v4 =>
        cB (v4 = 0)
          (wO (inb x1 16) (g_brass x1) fun v5 =>
          cB (v5 = (ci (-1)))
            (wO (inb x1 16) (g_has x1) fun v6 =>
            cB (v6 = (ci (-1)))
              (nf_Claims_isOf c_number c_guest x1 fun r7 =>
              cB (r7 = 0)
                (cB (c_number < (ci 6))
                  (nf_Claims_add c_number c_guest c_yes c_no x1 x2 x3 fun r12 z8 f9 f10 f11 =>
                  Q r12 z8 f9 f10 f11)
                  (Q (ci (-1004)) c_number c_guest c_yes c_no))
                (Q (ci (-1003)) c_number c_guest c_yes c_no))
              (Q (ci (-1003)) c_number c_guest c_yes c_no))
            (Q (ci (-1003)) c_number c_guest c_yes c_no))
          (Q (ci (-1002)) c_number c_guest c_yes c_no))))
def nf_H_fits (g_number : Int) (g_kind : (Int → Int)) (g_marks : (Int → Int)) (g_peg : (Int → Int)) (c_number : Int) (c_guest : (Int → Int)) (c_yes : (Int → Int)) (c_no : (Int → Int)) (x1 : Int) (Q : Int → Prop) : Prop :=
  nf_Claims_knows c_number x1 fun r1 =>
  cB (r1 = 0)
    (Q (ci (-1001)) )
    (nf_Claims_thingsFor g_number g_kind g_marks g_peg c_number c_guest c_yes c_no x1 fun r2 =>
    Q r2 )
def nf_H_ways (g_number : Int) (g_kind : (Int → Int)) (g_marks : (Int → Int)) (g_peg : (Int → Int)) (c_number : Int) (c_guest : (Int → Int)) (c_yes : (Int → Int)) (c_no : (Int → Int)) (q_claims : Int) (q_fitting : (Int → Int)) (q_waysOf : (Int → Int))  (Q : Int → Int → (Int → Int) → (Int → Int) → Prop) : Prop :=
  nf_Matching_load g_number g_kind g_marks g_peg c_number c_guest c_yes c_no q_claims q_fitting  fun z1 f2 =>
  nf_Matching_number z1 f2 q_waysOf  fun r4 f3 =>
  Q r4 z1 f2 f3
def nf_H_sure (g_number : Int) (g_kind : (Int → Int)) (g_marks : (Int → Int)) (g_peg : (Int → Int)) (c_number : Int) (c_guest : (Int → Int)) (c_yes : (Int → Int)) (c_no : (Int → Int)) (q_claims : Int) (q_fitting : (Int → Int)) (q_waysOf : (Int → Int)) (x1 : Int) (Q : Int → Int → (Int → Int) → (Int → Int) → Prop) : Prop :=
  nf_Claims_knows c_number x1 fun r1 =>
  cB (r1 = 0)
    (Q (ci (-1001)) q_claims q_fitting q_waysOf)
    (nf_Matching_load g_number g_kind g_marks g_peg c_number c_guest c_yes c_no q_claims q_fitting  fun z2 f3 =>
    nf_Matching_onlyThingOf z2 f3 q_waysOf x1 fun r6 f4 f5 =>
    Q r6 z2 f4 f5)
def nf_H_grant (g_number : Int) (g_kind : (Int → Int)) (g_marks : (Int → Int)) (g_peg : (Int → Int)) (g_has : (Int → Int)) (c_number : Int) (c_guest : (Int → Int)) (c_yes : (Int → Int)) (c_no : (Int → Int)) (q_claims : Int) (q_fitting : (Int → Int)) (q_waysOf : (Int → Int)) (x1 : Int) (Q : Int → (Int → Int) → (Int → Int) → Int → (Int → Int) → (Int → Int) → (Int → Int) → Int → (Int → Int) → (Int → Int) → Prop) : Prop :=
  nf_Claims_knows c_number x1 fun r1 =>
  cB (r1 = 0)
    (Q (ci (-1001)) g_peg g_has c_number c_guest c_yes c_no q_claims q_fitting q_waysOf)
    (nf_Matching_load g_number g_kind g_marks g_peg c_number c_guest c_yes c_no q_claims q_fitting  fun z2 f3 =>
    nf_Matching_onlyThingOf z2 f3 q_waysOf x1 fun r6 f4 f5 =>
    cB (r6 = (ci (-1)))
      (Q (ci (-1003)) g_peg g_has c_number c_guest c_yes c_no z2 f4 f5)
      (nf_Claims_guestOf c_number c_guest x1 fun r7 =>
      nf_Guests_handOver g_number g_peg g_has r6 r7 fun f8 f9 =>
      nf_Claims_remove c_number c_guest c_yes c_no x1 fun z10 f11 f12 f13 =>
      Q r6 f8 f9 z10 f11 f12 f13 z2 f4 f5))
def nf_H_apart (g_number : Int) (g_marks : (Int → Int)) (x1 : Int) (x2 : Int) (Q : Int → Prop) : Prop :=
  nf_Guests_knows g_number x1 fun r1 =>
  cB (r1 = 0)
    (Q (ci (-1001)) )
    (nf_Guests_knows g_number x2 fun r2 =>
    cB (r2 = 0)
      (Q (ci (-1001)) )
      (wO (inb x1 16) (g_marks x1) fun v3 =>
      wO (inb x2 16) (g_marks x2) fun v4 =>
      wL (ixor v3 v4) fun v5 =>
      Q v5 ))
def nf_H_asks (g_number : Int) (g_kind : (Int → Int)) (g_marks : (Int → Int)) (g_peg : (Int → Int)) (c_number : Int) (c_guest : (Int → Int)) (c_yes : (Int → Int)) (c_no : (Int → Int)) (x1 : Int) (Q : Int → Prop) : Prop :=
  nf_Claims_knows c_number x1 fun r1 =>
  cB (r1 = 0)
    (Q (ci (-1001)) )
    (nf_Claims_fewestAsked g_number g_kind g_marks g_peg c_number c_guest c_yes c_no x1 fun r2 =>
    Q r2 )
def nf_H_imageOf  (x1 : Int) (Q : Int → Prop) : Prop :=
  nf_H_within  x1 (ci 0) (ci 1) fun r1 =>
  cB (r1 = 0)
    (Q 0)
    (cB (x1 = 0)
      (Q 1)
      (Q 2))
def nf_H_keep (g_number : Int) (g_sort : (Int → Int)) (g_kind : (Int → Int)) (g_tip : (Int → Int)) (g_marks : (Int → Int)) (g_brass : (Int → Int)) (g_peg : (Int → Int)) (g_has : (Int → Int)) (e_number : Int) (e_facts : (Int → Int)) (c_number : Int) (c_guest : (Int → Int)) (c_yes : (Int → Int)) (c_no : (Int → Int)) (n_number : Int) (n_left : (Int → Int)) (z_kept : Int) (zg_number : Int) (zg_sort : (Int → Int)) (zg_kind : (Int → Int)) (zg_tip : (Int → Int)) (zg_marks : (Int → Int)) (zg_brass : (Int → Int)) (zg_peg : (Int → Int)) (zg_has : (Int → Int)) (ze_number : Int) (ze_facts : (Int → Int)) (zc_number : Int) (zc_guest : (Int → Int)) (zc_yes : (Int → Int)) (zc_no : (Int → Int)) (zn_number : Int) (zn_left : (Int → Int)) (o_kept : Int) (og_number : Int) (og_sort : (Int → Int)) (og_kind : (Int → Int)) (og_tip : (Int → Int)) (og_marks : (Int → Int)) (og_brass : (Int → Int)) (og_peg : (Int → Int)) (og_has : (Int → Int)) (oe_number : Int) (oe_facts : (Int → Int)) (oc_number : Int) (oc_guest : (Int → Int)) (oc_yes : (Int → Int)) (oc_no : (Int → Int)) (on_number : Int) (on_left : (Int → Int)) (x1 : Int) (Q : Int → Int → Int → (Int → Int) → (Int → Int) → (Int → Int) → (Int → Int) → (Int → Int) → (Int → Int) → (Int → Int) → Int → (Int → Int) → Int → (Int → Int) → (Int → Int) → (Int → Int) → Int → (Int → Int) → Int → Int → (Int → Int) → (Int → Int) → (Int → Int) → (Int → Int) → (Int → Int) → (Int → Int) → (Int → Int) → Int → (Int → Int) → Int → (Int → Int) → (Int → Int) → (Int → Int) → Int → (Int → Int) → Prop) : Prop :=
  nf_H_imageOf  x1 fun rq =>
  cB (rq = 0)
    (Q (ci (-1001)) z_kept zg_number zg_sort zg_kind zg_tip zg_marks zg_brass zg_peg zg_has ze_number ze_facts zc_number zc_guest zc_yes zc_no zn_number zn_left o_kept og_number og_sort og_kind og_tip og_marks og_brass og_peg og_has oe_number oe_facts oc_number oc_guest oc_yes oc_no on_number on_left)
    (cB (rq = 1)
      (nf_Image_copyFrom zg_number zg_sort zg_kind zg_tip zg_marks zg_brass zg_peg zg_has ze_number ze_facts zc_number zc_guest zc_yes zc_no zn_number zn_left g_number g_sort g_kind g_tip g_marks g_brass g_peg g_has e_number e_facts c_number c_guest c_yes c_no n_number n_left  fun z1 f2 f3 f4 f5 f6 f7 f8 z9 f10 z11 f12 f13 f14 z15 f16 =>
      Q (ci 1) (ci 1) z1 f2 f3 f4 f5 f6 f7 f8 z9 f10 z11 f12 f13 f14 z15 f16 o_kept og_number og_sort og_kind og_tip og_marks og_brass og_peg og_has oe_number oe_facts oc_number oc_guest oc_yes oc_no on_number on_left)
      (nf_Image_copyFrom og_number og_sort og_kind og_tip og_marks og_brass og_peg og_has oe_number oe_facts oc_number oc_guest oc_yes oc_no on_number on_left g_number g_sort g_kind g_tip g_marks g_brass g_peg g_has e_number e_facts c_number c_guest c_yes c_no n_number n_left  fun z17 f18 f19 f20 f21 f22 f23 f24 z25 f26 z27 f28 f29 f30 z31 f32 =>
      Q (ci 1) z_kept zg_number zg_sort zg_kind zg_tip zg_marks zg_brass zg_peg zg_has ze_number ze_facts zc_number zc_guest zc_yes zc_no zn_number zn_left (ci 1) z17 f18 f19 f20 f21 f22 f23 f24 z25 f26 z27 f28 f29 f30 z31 f32))
def nf_H_goBack (g_number : Int) (g_sort : (Int → Int)) (g_kind : (Int → Int)) (g_tip : (Int → Int)) (g_marks : (Int → Int)) (g_brass : (Int → Int)) (g_peg : (Int → Int)) (g_has : (Int → Int)) (e_number : Int) (e_facts : (Int → Int)) (c_number : Int) (c_guest : (Int → Int)) (c_yes : (Int → Int)) (c_no : (Int → Int)) (n_number : Int) (n_left : (Int → Int)) (z_kept : Int) (zg_number : Int) (zg_sort : (Int → Int)) (zg_kind : (Int → Int)) (zg_tip : (Int → Int)) (zg_marks : (Int → Int)) (zg_brass : (Int → Int)) (zg_peg : (Int → Int)) (zg_has : (Int → Int)) (ze_number : Int) (ze_facts : (Int → Int)) (zc_number : Int) (zc_guest : (Int → Int)) (zc_yes : (Int → Int)) (zc_no : (Int → Int)) (zn_number : Int) (zn_left : (Int → Int)) (o_kept : Int) (og_number : Int) (og_sort : (Int → Int)) (og_kind : (Int → Int)) (og_tip : (Int → Int)) (og_marks : (Int → Int)) (og_brass : (Int → Int)) (og_peg : (Int → Int)) (og_has : (Int → Int)) (oe_number : Int) (oe_facts : (Int → Int)) (oc_number : Int) (oc_guest : (Int → Int)) (oc_yes : (Int → Int)) (oc_no : (Int → Int)) (on_number : Int) (on_left : (Int → Int)) (x1 : Int) (Q : Int → Int → (Int → Int) → (Int → Int) → (Int → Int) → (Int → Int) → (Int → Int) → (Int → Int) → (Int → Int) → Int → (Int → Int) → Int → (Int → Int) → (Int → Int) → (Int → Int) → Int → (Int → Int) → Prop) : Prop :=
  nf_H_imageOf  x1 fun rq =>
  cB (rq = 0)
    (Q (ci (-1001)) g_number g_sort g_kind g_tip g_marks g_brass g_peg g_has e_number e_facts c_number c_guest c_yes c_no n_number n_left)
    (cB (rq = 1)
      (cB (z_kept = 0)
        (Q (ci (-1003)) g_number g_sort g_kind g_tip g_marks g_brass g_peg g_has e_number e_facts c_number c_guest c_yes c_no n_number n_left)
        (nf_Image_copyFrom g_number g_sort g_kind g_tip g_marks g_brass g_peg g_has e_number e_facts c_number c_guest c_yes c_no n_number n_left zg_number zg_sort zg_kind zg_tip zg_marks zg_brass zg_peg zg_has ze_number ze_facts zc_number zc_guest zc_yes zc_no zn_number zn_left  fun z1 f2 f3 f4 f5 f6 f7 f8 z9 f10 z11 f12 f13 f14 z15 f16 =>
        Q (ci 1) z1 f2 f3 f4 f5 f6 f7 f8 z9 f10 z11 f12 f13 f14 z15 f16))
      (cB (o_kept = 0)
        (Q (ci (-1003)) g_number g_sort g_kind g_tip g_marks g_brass g_peg g_has e_number e_facts c_number c_guest c_yes c_no n_number n_left)
        (nf_Image_copyFrom g_number g_sort g_kind g_tip g_marks g_brass g_peg g_has e_number e_facts c_number c_guest c_yes c_no n_number n_left og_number og_sort og_kind og_tip og_marks og_brass og_peg og_has oe_number oe_facts oc_number oc_guest oc_yes oc_no on_number on_left  fun z17 f18 f19 f20 f21 f22 f23 f24 z25 f26 z27 f28 f29 f30 z31 f32 =>
        Q (ci 1) z17 f18 f19 f20 f21 f22 f23 f24 z25 f26 z27 f28 f29 f30 z31 f32)))
def nf_M_in  (x1 : Int) (x2 : Int) (x3 : Int) (Q : Int → Prop) : Prop :=
  wL (lcm3 x1 x2) fun v1 =>
  cB (v1 < 0)
    (Q (ci 0) )
    (wL (lcm3 x1 x3) fun v2 =>
    cB (0 < v2)
      (Q (ci 0) )
      (Q (ci 1) ))
def nf_M_bits  (x1 : Int) (Q : Int → Prop) : Prop :=
  nlp2 (fun self3 (l1_1 : Int) (l2_2 : Int) =>
      cB ((ci 16) ≤ l2_2)
        (Q l1_1 )
        (wL (ishr x1 l2_2) fun v4 =>
        wL (iand v4 (ci 1)) fun v5 =>
        wO (iR (l1_1 + v5)) (l1_1 + v5) fun v6 =>
        wO (iR (l2_2 + (ci 1))) (l2_2 + (ci 1)) fun v7 =>
        self3 v6 v7)) (ci 0) (ci 0)
def nf_M_feed (m_texted : Int) (m_text : (Int → Int)) (x1 : Int) (x2 : Int) (Q : Int → Int → (Int → Int) → Prop) : Prop :=
  wL x1 fun v1 =>
  nf_M_in  v1 (cl 1) (cl 8) fun r2 =>
  cB (r2 = 0)
    (Q (ci (-1002)) m_texted m_text)
    (wO (iR (m_texted + x1)) (m_texted + x1) fun v3 =>
    cB (v3 ≤ (ci 240))
      (wO (iR (x1 - (ci 1))) (x1 - (ci 1)) fun v4 =>
      nlp3 (fun self8 (l4_5 : Int) (z6 : Int) (z7 : (Int → Int)) =>
          cB (l4_5 < 0)
            (Q z6 z6 z7)
            (wO (iR ((ci 8) * l4_5)) ((ci 8) * l4_5) fun v9 =>
            wL (lshr x2 v9) fun v10 =>
            wL (land v10 (cl 255)) fun v11 =>
            wL (l2i v11) fun v12 =>
            wO (inb z6 240) (ups z7 z6 v12) fun f13 =>
            wO (iR (z6 + (ci 1))) (z6 + (ci 1)) fun v14 =>
            wO (iR (l4_5 + (ci (-1)))) (l4_5 + (ci (-1))) fun v15 =>
            self8 v15 v14 f13)) v4 m_texted m_text)
      (Q (ci (-1004)) m_texted m_text))
def nf_M_here (m_texted : Int) (m_at0 : Int) (m_text : (Int → Int))  (Q : Int → Int → Prop) : Prop :=
  jn0 (
      cB (m_texted ≤ m_at0)
        (Q (ci (-1)) m_at0)
        (wO (inb m_at0 240) (m_text m_at0) fun v2 =>
        Q v2 m_at0)) fun j1 =>
  cB (m_texted ≤ m_at0)
    (j1 )
    (wO (inb m_at0 240) (m_text m_at0) fun v3 =>
    cB (v3 = (ci 32))
      (wO (iR (m_at0 + (ci 1))) (m_at0 + (ci 1)) fun v4 =>
      nlp1 (fun self6 (z5 : Int) =>
          jn0 (
              cB (m_texted ≤ z5)
                (Q (ci (-1)) z5)
                (wO (inb z5 240) (m_text z5) fun v8 =>
                Q v8 z5)) fun j7 =>
          cB (m_texted ≤ z5)
            (j7 )
            (wO (inb z5 240) (m_text z5) fun v9 =>
            cB (v9 = (ci 32))
              (wO (iR (z5 + (ci 1))) (z5 + (ci 1)) fun v10 =>
              self6 v10)
              (j7 ))) v4)
      (j1 ))
def nf_M_fails (m_faultPlace : Int) (x1 : Int) (x2 : Int) (Q : Int → Int → Prop) : Prop :=
  Q x1 x2
def nf_M_readWord (m_texted : Int) (m_at0 : Int) (m_word : Int) (m_wordEnd : Int) (m_text : (Int → Int))  (Q : Int → Int → Int → Prop) : Prop :=
  nf_M_here m_texted m_at0 m_text  fun r2 z1 =>
  nlp2 (fun self5 (z3 : Int) (z4 : Int) =>
      cB (m_texted ≤ z4)
        (Q z1 z3 z4)
        (wO (inb z4 240) (m_text z4) fun v6 =>
        wL v6 fun v7 =>
        nf_M_in  v7 (cl 97) (cl 122) fun r8 =>
        cB (r8 = 0)
          (Q z1 z3 z4)
          (wL (lcm3 z3 (cl 1000000000000)) fun v9 =>
          jn1 (fun (t10 : Int) =>
              wO (iR (z4 + (ci 1))) (z4 + (ci 1)) fun v12 =>
              self5 t10 v12) fun j11 =>
          cB (v9 ≤ 0)
            (wO (lR ((cl 27) * z3)) ((cl 27) * z3) fun v13 =>
            wO (inb z4 240) (m_text z4) fun v14 =>
            wL v14 fun v15 =>
            wO (lR (v13 + v15)) (v13 + v15) fun v16 =>
            wO (lR (v16 - (cl 96))) (v16 - (cl 96)) fun v17 =>
            j11 v17)
            (j11 (cl 2000000000000))))) (cl 0) z1
def nf_M_code  (x1 : Int) (x2 : Int) (x3 : Int) (Q : Int → Prop) : Prop :=
  wL x1 fun v1 =>
  wO (lR (v1 - (cl 96))) (v1 - (cl 96)) fun v2 =>
  wO (lR ((cl 27) * v2)) ((cl 27) * v2) fun v3 =>
  wL x2 fun v4 =>
  wO (lR (v3 + v4)) (v3 + v4) fun v5 =>
  wO (lR (v5 - (cl 96))) (v5 - (cl 96)) fun v6 =>
  wO (lR ((cl 27) * v6)) ((cl 27) * v6) fun v7 =>
  wL x3 fun v8 =>
  wO (lR (v7 + v8)) (v7 + v8) fun v9 =>
  wO (lR (v9 - (cl 96))) (v9 - (cl 96)) fun v10 =>
  Q v10 
def nf_M_longer  (x1 : Int) (x2 : Int) (Q : Int → Prop) : Prop :=
  wO (lR ((cl 27) * x1)) ((cl 27) * x1) fun v1 =>
  wL x2 fun v2 =>
  wO (lR (v1 + v2)) (v1 + v2) fun v3 =>
  wO (lR (v3 - (cl 96))) (v3 - (cl 96)) fun v4 =>
  Q v4 
def nf_M_clauseOf (m_word : Int)  (Q : Int → Prop) : Prop :=
  nf_M_code  (ci 119) (ci 101) (ci 105) fun r1 =>
  nf_M_longer  r1 (ci 103) fun r2 =>
  nf_M_longer  r2 (ci 104) fun r3 =>
  nf_M_longer  r3 (ci 116) fun r4 =>
  nf_M_longer  r4 (ci 115) fun r5 =>
  nf_M_code  (ci 114) (ci 111) (ci 119) fun r6 =>
  wL (lcm3 m_word r6) fun v7 =>
  cB (v7 = 0)
    (Q (ci 0) )
    (nf_M_code  (ci 111) (ci 100) (ci 100) fun r8 =>
    nf_M_longer  r8 (ci 115) fun r9 =>
    wL (lcm3 m_word r9) fun v10 =>
    cB (v10 = 0)
      (Q (ci 1) )
      (wL (lcm3 m_word r5) fun v11 =>
      cB (v11 = 0)
        (Q (ci 2) )
        (nf_M_code  (ci 103) (ci 105) (ci 118) fun r12 =>
        nf_M_longer  r12 (ci 101) fun r13 =>
        wL (lcm3 m_word r13) fun v14 =>
        cB (v14 = 0)
          (Q (ci 3) )
          (nf_M_code  (ci 108) (ci 101) (ci 115) fun r15 =>
          nf_M_longer  r15 (ci 115) fun r16 =>
          wL (lcm3 m_word r16) fun v17 =>
          cB (v17 = 0)
            (Q (ci 4) )
            (Q (ci (-1)) )))))
def nf_M_needs (m_texted : Int) (m_faultPlace : Int) (m_at0 : Int) (m_word : Int) (m_wordEnd : Int) (m_text : (Int → Int)) (x1 : Int) (Q : Int → Int → Int → Int → Int → Prop) : Prop :=
  nf_M_readWord m_texted m_at0 m_word m_wordEnd m_text  fun z1 z2 z3 =>
  wL (lcm3 z2 x1) fun v4 =>
  cB (v4 = 0)
    (Q (ci 0) m_faultPlace z3 z2 z3)
    (nf_M_fails m_faultPlace (ci 1) z1 fun r6 z5 =>
    Q r6 z5 z1 z2 z3)
def nf_M_takeNumber (m_texted : Int) (m_faultPlace : Int) (m_at0 : Int) (m_number : Int) (m_numberAt : Int) (m_text : (Int → Int)) (x1 : Int) (x2 : Int) (Q : Int → Int → Int → Int → Int → Prop) : Prop :=
  nf_M_here m_texted m_at0 m_text  fun r2 z1 =>
  wL r2 fun v3 =>
  nf_M_in  v3 (cl 48) (cl 57) fun r4 =>
  cB (r4 = 0)
    (nf_M_fails m_faultPlace (ci 1) z1 fun r28 z27 =>
    Q r28 z27 z1 m_number m_numberAt)
    (nlp2 (fun self7 (z5 : Int) (z6 : Int) =>
        jn0 (
            wO (iR (z5 - z1)) (z5 - z1) fun v9 =>
            jn0 (
                nf_M_fails m_faultPlace (ci 2) z1 fun r12 z11 =>
                Q r12 z11 z5 z6 z1) fun j10 =>
            cB ((ci 3) < v9)
              (j10 )
              (wL z6 fun v13 =>
              wL x1 fun v14 =>
              wL x2 fun v15 =>
              nf_M_in  v13 v14 v15 fun r16 =>
              cB (r16 = 0)
                (j10 )
                (Q (ci 0) m_faultPlace z5 z6 z1))) fun j8 =>
        cB (m_texted ≤ z5)
          (j8 )
          (wO (inb z5 240) (m_text z5) fun v17 =>
          wL v17 fun v18 =>
          nf_M_in  v18 (cl 48) (cl 57) fun r19 =>
          cB (r19 = 0)
            (j8 )
            (jn1 (fun (t20 : Int) =>
                wO (iR (z5 + (ci 1))) (z5 + (ci 1)) fun v22 =>
                self7 v22 t20) fun j21 =>
            cB (z6 ≤ (ci 10000))
              (wO (iR ((ci 10) * z6)) ((ci 10) * z6) fun v23 =>
              wO (inb z5 240) (m_text z5) fun v24 =>
              wO (iR (v23 + v24)) (v23 + v24) fun v25 =>
              wO (iR (v25 - (ci 48))) (v25 - (ci 48)) fun v26 =>
              j21 v26)
              (j21 z6)))) z1 (ci 0))
def nf_M_bare (m_readPegs : Int) (m_toldSet : Int) (m_sortSet : Int) (m_readOdds : (Int → Int)) (m_readSingle : (Int → Int))  (Q : Int → Int → Int → (Int → Int) → (Int → Int) → Prop) : Prop :=
  nlp2 (fun self3 (l1_1 : Int) (z2 : (Int → Int)) =>
      cB ((ci 4) ≤ l1_1)
        (wO (inb (ci 0) 5) (ups m_readSingle (ci 0) (ci 1)) fun f4 =>
        wO (inb (ci 1) 5) (ups f4 (ci 1) (ci 2)) fun f5 =>
        wO (inb (ci 2) 5) (ups f5 (ci 2) (ci 5)) fun f6 =>
        wO (inb (ci 3) 5) (ups f6 (ci 3) (ci 2)) fun f7 =>
        wO (inb (ci 4) 5) (ups f7 (ci 4) (ci 1)) fun f8 =>
        Q (ci 0) (ci 0) (ci 0) z2 f8)
        (wO (iR ((ci 3) * l1_1)) ((ci 3) * l1_1) fun v9 =>
        wO (inb v9 12) (ups z2 v9 (ci 10)) fun f10 =>
        wO (iR ((ci 3) * l1_1)) ((ci 3) * l1_1) fun v11 =>
        wO (iR (v11 + (ci 1))) (v11 + (ci 1)) fun v12 =>
        wO (inb v12 12) (ups f10 v12 (ci 20)) fun f13 =>
        wO (iR ((ci 3) * l1_1)) ((ci 3) * l1_1) fun v14 =>
        wO (iR (v14 + (ci 2))) (v14 + (ci 2)) fun v15 =>
        wO (inb v15 12) (ups f13 v15 (ci 70)) fun f16 =>
        wO (iR (l1_1 + (ci 1))) (l1_1 + (ci 1)) fun v17 =>
        self3 v17 f16)) (ci 0) m_readOdds
def nf_M_takeRow (m_texted : Int) (m_faultPlace : Int) (m_at0 : Int) (m_word : Int) (m_wordEnd : Int) (m_number : Int) (m_numberAt : Int) (m_readPegs : Int) (m_text : (Int → Int)) (m_readKind : (Int → Int)) (m_readWalk : (Int → Int))  (Q : Int → Int → Int → Int → Int → Int → Int → Int → (Int → Int) → (Int → Int) → Prop) : Prop :=
  nf_M_takeNumber m_texted m_faultPlace m_at0 m_number m_numberAt m_text (ci 1) (ci 24) fun r5 z1 z2 z3 z4 =>
  jn2 (fun (l1_6 : Int) (z7 : Int) =>
      jn5 (fun (z9 : Int) (z10 : Int) (z11 : Int) (z12 : Int) (t13 : Int) =>
          jn5 (fun (z15 : Int) (z16 : Int) (z17 : Int) (z18 : Int) (t19 : Int) =>
              jn5 (fun (z21 : Int) (z22 : Int) (z23 : Int) (z24 : Int) (t25 : Int) =>
                  jn5 (fun (z27 : Int) (z28 : Int) (z29 : Int) (z30 : Int) (t31 : Int) =>
                      nlp4 (fun self37 (l4_33 : Int) (z34 : Int) (z35 : (Int → Int)) (z36 : (Int → Int)) =>
                          cB (z3 ≤ l4_33)
                            (Q t31 z27 z28 z23 z24 z29 z30 z34 z35 z36)
                            (cB (t31 = 0)
                              (wO (inb z34 24) (ups z35 z34 z17) fun f38 =>
                              wO (iR (z29 + l4_33)) (z29 + l4_33) fun v39 =>
                              wO (inb z34 24) (ups z36 z34 v39) fun f40 =>
                              wO (iR (z34 + (ci 1))) (z34 + (ci 1)) fun v41 =>
                              wO (iR (l4_33 + (ci 1))) (l4_33 + (ci 1)) fun v42 =>
                              self37 v42 v41 f38 f40)
                              (Q t31 z27 z28 z23 z24 z29 z30 z34 z35 z36))) (ci 0) m_readPegs m_readKind m_readWalk) fun j32 =>
                  cB (t25 ≤ 0)
                    (nf_M_takeNumber m_texted z21 z22 z17 z18 m_text (ci 0) (ci 99) fun r47 z43 z44 z45 z46 =>
                    j32 z43 z44 z45 z46 r47)
                    (j32 z21 z22 z17 z18 t25)) fun j26 =>
              cB (t19 ≤ 0)
                (nf_M_code  (ci 119) (ci 97) (ci 108) fun r48 =>
                nf_M_longer  r48 (ci 107) fun r49 =>
                nf_M_needs m_texted z15 z16 z11 z12 m_text r49 fun r54 z50 z51 z52 z53 =>
                j26 z50 z51 z52 z53 r54)
                (j26 z15 z16 z11 z12 t19)) fun j20 =>
          cB (t13 ≤ 0)
            (nf_M_takeNumber m_texted z9 z10 z3 z4 m_text (ci 0) (ci 2) fun r59 z55 z56 z57 z58 =>
            j20 z55 z56 z57 z58 r59)
            (j20 z9 z10 z3 z4 t13)) fun j14 =>
      cB (l1_6 ≤ 0)
        (nf_M_code  (ci 107) (ci 105) (ci 110) fun r60 =>
        nf_M_longer  r60 (ci 100) fun r61 =>
        nf_M_needs m_texted z7 z2 m_word m_wordEnd m_text r61 fun r66 z62 z63 z64 z65 =>
        j14 z62 z63 z64 z65 r66)
        (j14 z7 z2 m_word m_wordEnd l1_6)) fun j8 =>
  cB (r5 = 0)
    (wO (iR (m_readPegs + z3)) (m_readPegs + z3) fun v67 =>
    cB (v67 ≤ (ci 24))
      (j8 r5 z1)
      (nf_M_fails z1 (ci 4) z4 fun r69 z68 =>
      j8 r69 z68))
    (j8 r5 z1)
def nf_M_takeOdds (m_texted : Int) (m_faultPlace : Int) (m_at0 : Int) (m_number : Int) (m_numberAt : Int) (m_sortSet : Int) (m_text : (Int → Int)) (m_readOdds : (Int → Int))  (Q : Int → Int → Int → Int → Int → Int → (Int → Int) → Prop) : Prop :=
  nf_M_takeNumber m_texted m_faultPlace m_at0 m_number m_numberAt m_text (ci 0) (ci 3) fun r5 z1 z2 z3 z4 =>
  jn2 (fun (l1_6 : Int) (z7 : Int) =>
      nlp8 (fun self17 (l1_9 : Int) (l3_10 : Int) (l4_11 : Int) (z12 : Int) (z13 : Int) (z14 : Int) (z15 : Int) (z16 : (Int → Int)) =>
          jn0 (
              cB (l1_9 ≤ 0)
                (wL (ishl (ci 1) z3) fun v19 =>
                wL (ior m_sortSet v19) fun v20 =>
                cB (l3_10 = (ci 100))
                  (Q (ci 0) z12 z13 z14 z15 v20 z16)
                  (nf_M_fails z12 (ci 5) z15 fun r22 z21 =>
                  Q r22 z21 z13 z14 z15 v20 z16))
                (Q l1_9 z12 z13 z14 z15 m_sortSet z16)) fun j18 =>
          cB ((ci 3) ≤ l4_11)
            (j18 )
            (cB (l1_9 = 0)
              (nf_M_takeNumber m_texted z12 z13 z14 z15 m_text (ci 0) (ci 100) fun r27 z23 z24 z25 z26 =>
              wO (iR ((ci 3) * z3)) ((ci 3) * z3) fun v28 =>
              wO (iR (v28 + l4_11)) (v28 + l4_11) fun v29 =>
              wO (inb v29 12) (ups z16 v29 z25) fun f30 =>
              wO (iR (l3_10 + z25)) (l3_10 + z25) fun v31 =>
              wO (iR (l4_11 + (ci 1))) (l4_11 + (ci 1)) fun v32 =>
              self17 r27 v31 v32 z23 z24 z25 z26 f30)
              (j18 ))) l1_6 (ci 0) (ci 0) z7 z2 z3 z4 m_readOdds) fun j8 =>
  cB (r5 = 0)
    (wL (ishr m_sortSet z3) fun v33 =>
    wL (iand v33 (ci 1)) fun v34 =>
    cB (v34 = (ci 1))
      (nf_M_fails z1 (ci 3) z4 fun r36 z35 =>
      j8 r36 z35)
      (j8 r5 z1))
    (j8 r5 z1)
def nf_M_takeSingles (m_texted : Int) (m_faultPlace : Int) (m_at0 : Int) (m_number : Int) (m_numberAt : Int) (m_text : (Int → Int)) (m_readSingle : (Int → Int)) (x1 : Int) (Q : Int → Int → Int → Int → Int → (Int → Int) → Prop) : Prop :=
  jn1 (fun (t1 : Int) =>
      jn1 (fun (t3 : Int) =>
          nlp7 (fun self12 (l2_5 : Int) (l5_6 : Int) (z7 : Int) (z8 : Int) (z9 : Int) (z10 : Int) (z11 : (Int → Int)) =>
              cB (t3 < l5_6)
                (Q l2_5 z7 z8 z9 z10 z11)
                (cB (l2_5 = 0)
                  (jn1 (fun (t13 : Int) =>
                      nf_M_takeNumber m_texted z7 z8 z9 z10 m_text (ci 0) t13 fun r19 z15 z16 z17 z18 =>
                      wO (inb l5_6 5) (ups z11 l5_6 z17) fun f20 =>
                      wO (iR (l5_6 + (ci 1))) (l5_6 + (ci 1)) fun v21 =>
                      self12 r19 v21 z15 z16 z17 z18 f20) fun j14 =>
                  cB (x1 = (ci 2))
                    (j14 (ci 9))
                    (j14 (ci 20)))
                  (Q l2_5 z7 z8 z9 z10 z11))) (ci 0) t1 m_faultPlace m_at0 m_number m_numberAt m_readSingle) fun j4 =>
      cB (x1 = (ci 2))
        (j4 (ci 2))
        (j4 x1)) fun j2 =>
  cB (x1 = (ci 2))
    (j2 (ci 0))
    (j2 x1)
def nf_M_takeClause (m_texted : Int) (m_faultPlace : Int) (m_at0 : Int) (m_word : Int) (m_wordEnd : Int) (m_number : Int) (m_numberAt : Int) (m_readPegs : Int) (m_toldSet : Int) (m_sortSet : Int) (m_text : (Int → Int)) (m_readKind : (Int → Int)) (m_readWalk : (Int → Int)) (m_readOdds : (Int → Int)) (m_readSingle : (Int → Int))  (Q : Int → Int → Int → Int → Int → Int → Int → Int → Int → Int → (Int → Int) → (Int → Int) → (Int → Int) → (Int → Int) → Prop) : Prop :=
  nf_M_readWord m_texted m_at0 m_word m_wordEnd m_text  fun z1 z2 z3 =>
  nf_M_clauseOf z2  fun r4 =>
  jn1 (fun (t5 : Int) =>
      jn0 (
          jn1 (fun (t8 : Int) =>
              nf_M_fails m_faultPlace t8 z1 fun r11 z10 =>
              Q r11 z10 z1 z2 z3 m_number m_numberAt m_readPegs m_toldSet m_sortSet m_readKind m_readWalk m_readOdds m_readSingle) fun j9 =>
          cB (0 ≤ r4)
            (j9 (ci 3))
            (j9 (ci 1))) fun j7 =>
      cB (r4 < 0)
        (j7 )
        (cB (t5 = 0)
          (wL (ishl (ci 1) r4) fun v12 =>
          wL (ior m_toldSet v12) fun v13 =>
          jn13 (fun (z14 : Int) (z15 : Int) (z16 : Int) (z17 : Int) (z18 : Int) (z19 : Int) (z20 : Int) (z21 : Int) (z22 : (Int → Int)) (z23 : (Int → Int)) (z24 : (Int → Int)) (z25 : (Int → Int)) (t26 : Int) =>
              cB (t26 ≤ 0)
                (nf_M_here m_texted z15 m_text  fun r29 z28 =>
                cB (r29 = (ci 59))
                  (wO (iR (z28 + (ci 1))) (z28 + (ci 1)) fun v30 =>
                  Q (ci 0) z14 v30 z16 z17 z18 z19 z20 v13 z21 z22 z23 z24 z25)
                  (nf_M_fails z14 (ci 1) z28 fun r32 z31 =>
                  Q r32 z31 z28 z16 z17 z18 z19 z20 v13 z21 z22 z23 z24 z25))
                (Q t26 z14 z15 z16 z17 z18 z19 z20 v13 z21 z22 z23 z24 z25)) fun j27 =>
          cB (r4 = 0)
            (nf_M_takeRow m_texted m_faultPlace z3 z2 z3 m_number m_numberAt m_readPegs m_text m_readKind m_readWalk  fun r55 z46 z47 z48 z49 z50 z51 z52 f53 f54 =>
            j27 z46 z47 z48 z49 z50 z51 z52 m_sortSet f53 f54 m_readOdds m_readSingle r55)
            (cB (r4 = (ci 1))
              (nf_M_takeOdds m_texted m_faultPlace z3 m_number m_numberAt m_sortSet m_text m_readOdds  fun r45 z39 z40 z41 z42 z43 f44 =>
              j27 z39 z40 z2 z3 z41 z42 m_readPegs z43 m_readKind m_readWalk f44 m_readSingle r45)
              (nf_M_takeSingles m_texted m_faultPlace z3 m_number m_numberAt m_text m_readSingle r4 fun r38 z33 z34 z35 z36 f37 =>
              j27 z33 z34 z2 z3 z35 z36 m_readPegs m_sortSet m_readKind m_readWalk m_readOdds f37 r38)))
          (j7 ))) fun j6 =>
  jn0 (
      j6 (ci 0)) fun j56 =>
  cB (r4 ≤ (ci 1))
    (j56 )
    (wL (ishr m_toldSet r4) fun v57 =>
    wL (iand v57 (ci 1)) fun v58 =>
    cB (v58 = (ci 1))
      (j6 (ci 1))
      (j56 ))
def nf_M_keepHall (m_pegs : Int) (m_halls : Int) (m_readPegs : Int) (m_pegKind : (Int → Int)) (m_pegWalk : (Int → Int)) (m_oddsOf : (Int → Int)) (m_singles : (Int → Int)) (m_readKind : (Int → Int)) (m_readWalk : (Int → Int)) (m_readOdds : (Int → Int)) (m_readSingle : (Int → Int))  (Q : Int → Int → (Int → Int) → (Int → Int) → (Int → Int) → (Int → Int) → Prop) : Prop :=
  nlp3 (fun self4 (l1_1 : Int) (z2 : (Int → Int)) (z3 : (Int → Int)) =>
      cB ((ci 24) ≤ l1_1)
        (nlp2 (fun self7 (l1_5 : Int) (z6 : (Int → Int)) =>
            cB ((ci 12) ≤ l1_5)
              (nlp2 (fun self10 (l1_8 : Int) (z9 : (Int → Int)) =>
                  cB ((ci 5) ≤ l1_8)
                    (wO (iR (m_halls + (ci 1))) (m_halls + (ci 1)) fun v11 =>
                    Q m_readPegs v11 z2 z3 z6 z9)
                    (wO (inb l1_8 5) (m_readSingle l1_8) fun v12 =>
                    wO (inb l1_8 5) (ups z9 l1_8 v12) fun f13 =>
                    wO (iR (l1_8 + (ci 1))) (l1_8 + (ci 1)) fun v14 =>
                    self10 v14 f13)) (ci 0) m_singles)
              (wO (inb l1_5 12) (m_readOdds l1_5) fun v15 =>
              wO (inb l1_5 12) (ups z6 l1_5 v15) fun f16 =>
              wO (iR (l1_5 + (ci 1))) (l1_5 + (ci 1)) fun v17 =>
              self7 v17 f16)) (ci 0) m_oddsOf)
        (wO (inb l1_1 24) (m_readKind l1_1) fun v18 =>
        wO (inb l1_1 24) (ups z2 l1_1 v18) fun f19 =>
        wO (inb l1_1 24) (m_readWalk l1_1) fun v20 =>
        wO (inb l1_1 24) (ups z3 l1_1 v20) fun f21 =>
        wO (iR (l1_1 + (ci 1))) (l1_1 + (ci 1)) fun v22 =>
        self4 v22 f19 f21)) (ci 0) m_pegKind m_pegWalk
def nf_M_hall (m_pegs : Int) (m_halls : Int) (m_texted : Int) (m_faultPlace : Int) (m_at0 : Int) (m_word : Int) (m_wordEnd : Int) (m_number : Int) (m_numberAt : Int) (m_readPegs : Int) (m_toldSet : Int) (m_sortSet : Int) (m_events : Int) (m_pegKind : (Int → Int)) (m_pegWalk : (Int → Int)) (m_oddsOf : (Int → Int)) (m_singles : (Int → Int)) (m_text : (Int → Int)) (m_readKind : (Int → Int)) (m_readWalk : (Int → Int)) (m_readOdds : (Int → Int)) (m_readSingle : (Int → Int))  (Q : Int → Int → Int → Int → Int → Int → Int → Int → Int → Int → Int → Int → Int → (Int → Int) → (Int → Int) → (Int → Int) → (Int → Int) → (Int → Int) → (Int → Int) → (Int → Int) → (Int → Int) → Prop) : Prop :=
  cB (m_events ≤ 0)
    (nf_M_bare m_readPegs m_toldSet m_sortSet m_readOdds m_readSingle  fun z1 z2 z3 f4 f5 =>
    nlp14 (fun self20 (l1_6 : Int) (z7 : Int) (z8 : Int) (z9 : Int) (z10 : Int) (z11 : Int) (z12 : Int) (z13 : Int) (z14 : Int) (z15 : Int) (z16 : (Int → Int)) (z17 : (Int → Int)) (z18 : (Int → Int)) (z19 : (Int → Int)) =>
        jn1 (fun (z21 : Int) =>
            cB (l1_6 ≤ 0)
              (nf_M_keepHall m_pegs m_halls z13 m_pegKind m_pegWalk m_oddsOf m_singles z16 z17 z18 z19  fun z23 z24 f25 f26 f27 f28 =>
              Q z23 z23 z24 (ci 0) z7 z21 z9 z10 z11 z12 z13 z14 z15 f25 f26 f27 f28 z16 z17 z18 z19)
              (wO (iR ((ci (-10)) - l1_6)) ((ci (-10)) - l1_6) fun v29 =>
              Q v29 m_pegs m_halls (ci 0) z7 z21 z9 z10 z11 z12 z13 z14 z15 m_pegKind m_pegWalk m_oddsOf m_singles z16 z17 z18 z19)) fun j22 =>
        cB (l1_6 = 0)
          (nf_M_here m_texted z8 m_text  fun r31 z30 =>
          cB (r31 < 0)
            (j22 z30)
            (nf_M_takeClause m_texted z7 z30 z9 z10 z11 z12 z13 z14 z15 m_text z16 z17 z18 z19  fun r45 z32 z33 z34 z35 z36 z37 z38 z39 z40 f41 f42 f43 f44 =>
            self20 r45 z32 z33 z34 z35 z36 z37 z38 z39 z40 f41 f42 f43 f44))
          (j22 z8)) (ci 0) (ci (-1)) (ci 0) m_word m_wordEnd m_number m_numberAt z1 z2 z3 m_readKind m_readWalk f4 f5)
    (Q (ci (-1003)) m_pegs m_halls m_texted m_faultPlace m_at0 m_word m_wordEnd m_number m_numberAt m_readPegs m_toldSet m_sortSet m_pegKind m_pegWalk m_oddsOf m_singles m_readKind m_readWalk m_readOdds m_readSingle)
def nf_M_fault (m_faultPlace : Int)  (Q : Int → Prop) : Prop :=
  Q m_faultPlace 
def nf_M_isPeg (m_pegs : Int) (x1 : Int) (Q : Int → Prop) : Prop :=
  wL x1 fun v1 =>
  wO (iR (m_pegs - (ci 1))) (m_pegs - (ci 1)) fun v2 =>
  wL v2 fun v3 =>
  nf_M_in  v1 (cl 0) v3 fun r4 =>
  wO (bZ r4) r4 fun r9 => Q r9 
def nf_M_isGuest (m_guests : Int) (x1 : Int) (Q : Int → Prop) : Prop :=
  wL x1 fun v1 =>
  wO (iR (m_guests - (ci 1))) (m_guests - (ci 1)) fun v2 =>
  wL v2 fun v3 =>
  nf_M_in  v1 (cl 0) v3 fun r4 =>
  wO (bZ r4) r4 fun r9 => Q r9 
def nf_M_areGuests (m_guests : Int) (x1 : Int) (Q : Int → Prop) : Prop :=
  wL x1 fun v1 =>
  wL (ishl (ci 1) m_guests) fun v2 =>
  wO (iR (v2 - (ci 1))) (v2 - (ci 1)) fun v3 =>
  wL v3 fun v4 =>
  nf_M_in  v1 (cl 0) v4 fun r5 =>
  wO (bZ r5) r5 fun r9 => Q r9 
def nf_M_peg (m_pegs : Int) (m_pegKind : (Int → Int)) (m_pegWalk : (Int → Int)) (m_hangs : (Int → Int)) (x1 : Int) (x2 : Int) (Q : Int → Prop) : Prop :=
  nf_M_isPeg m_pegs x1 fun r1 =>
  cB (r1 = 0)
    (Q (ci (-1001)) )
    (cB (x2 = 0)
      (wO (inb x1 24) (m_pegKind x1) fun v4 =>
      Q v4 )
      (cB (x2 = (ci 1))
        (wO (inb x1 24) (m_pegWalk x1) fun v3 =>
        Q v3 )
        (cB (x2 = (ci 2))
          (wO (inb x1 24) (m_hangs x1) fun v2 =>
          Q v2 )
          (Q (ci (-1002)) ))))
def nf_M_odds (m_oddsOf : (Int → Int)) (x1 : Int) (x2 : Int) (Q : Int → Prop) : Prop :=
  wL x1 fun v1 =>
  nf_M_in  v1 (cl 0) (cl 3) fun r2 =>
  cB (r2 = 0)
    (Q (ci (-1002)) )
    (wL x2 fun v3 =>
    nf_M_in  v3 (cl 0) (cl 2) fun r4 =>
    cB (r4 = 0)
      (Q (ci (-1002)) )
      (wO (iR ((ci 3) * x1)) ((ci 3) * x1) fun v5 =>
      wO (iR (v5 + x2)) (v5 + x2) fun v6 =>
      wO (inb v6 12) (m_oddsOf v6) fun v7 =>
      Q v7 ))
def nf_M_count (m_pegs : Int) (m_texted : Int) (m_guests : Int) (m_nights : Int) (m_events : Int) (m_claims : Int) (m_singles : (Int → Int)) (x1 : Int) (Q : Int → Prop) : Prop :=
  (cB (x1 = 0)
    (Q m_pegs )
  (cB (x1 = 1)
    (Q m_guests )
  (cB (x1 = 2)
    (Q m_events )
  (cB (x1 = 3)
    (Q m_claims )
  (cB (x1 = 4)
    (Q m_nights )
  (cB (x1 = 5)
    (Q m_texted )
  (cB (x1 = 6)
    (wO (inb (ci 3) 5) (m_singles (ci 3)) fun v1 =>
    Q v1 )
  (cB (x1 = 7)
    (wO (inb (ci 4) 5) (m_singles (ci 4)) fun v2 =>
    Q v2 )
    (wL x1 fun v3 =>
    nf_M_in  v3 (cl 8) (cl 10) fun r4 =>
    cB (r4 = 0)
      (Q (ci (-1002)) )
      (wO (iR (x1 - (ci 8))) (x1 - (ci 8)) fun v5 =>
      wO (inb v5 5) (m_singles v5) fun v6 =>
      Q v6 ))))))))))
def nf_M_guest (m_guests : Int) (m_sorts : (Int → Int)) (m_kinds : (Int → Int)) (m_tips : (Int → Int)) (m_marks : (Int → Int)) (m_brasses : (Int → Int)) (m_has : (Int → Int)) (m_hungBy : (Int → Int)) (x1 : Int) (x2 : Int) (x3 : Int) (x4 : Int) (Q : Int → Int → (Int → Int) → (Int → Int) → (Int → Int) → (Int → Int) → (Int → Int) → (Int → Int) → (Int → Int) → Prop) : Prop :=
  wL x1 fun v1 =>
  nf_M_in  v1 (cl 0) (cl 3) fun r2 =>
  cB (r2 = 0)
    (Q (ci (-1002)) m_guests m_sorts m_kinds m_tips m_marks m_brasses m_has m_hungBy)
    (wL x2 fun v3 =>
    nf_M_in  v3 (cl 0) (cl 2) fun r4 =>
    cB (r4 = 0)
      (Q (ci (-1002)) m_guests m_sorts m_kinds m_tips m_marks m_brasses m_has m_hungBy)
      (wL x3 fun v5 =>
      nf_M_in  v5 (cl 0) (cl 99) fun r6 =>
      cB (r6 = 0)
        (Q (ci (-1002)) m_guests m_sorts m_kinds m_tips m_marks m_brasses m_has m_hungBy)
        (wL x4 fun v7 =>
        nf_M_in  v7 (cl 0) (cl 255) fun r8 =>
        cB (r8 = 0)
          (Q (ci (-1002)) m_guests m_sorts m_kinds m_tips m_marks m_brasses m_has m_hungBy)
          (cB (m_guests = (ci 16))
            (Q (ci (-1004)) m_guests m_sorts m_kinds m_tips m_marks m_brasses m_has m_hungBy)
            (wO (inb m_guests 16) (ups m_sorts m_guests x1) fun f9 =>
            wO (inb m_guests 16) (ups m_kinds m_guests x2) fun f10 =>
            wO (inb m_guests 16) (ups m_tips m_guests x3) fun f11 =>
            wO (inb m_guests 16) (ups m_marks m_guests x4) fun f12 =>
            wO (inb m_guests 16) (ups m_brasses m_guests (ci (-1))) fun f13 =>
            wO (inb m_guests 16) (ups m_has m_guests (ci (-1))) fun f14 =>
            wO (inb m_guests 16) (ups m_hungBy m_guests (ci (-1))) fun f15 =>
            wO (iR (m_guests + (ci 1))) (m_guests + (ci 1)) fun v16 =>
            wO (iR (v16 - (ci 1))) (v16 - (ci 1)) fun v17 =>
            Q v17 v16 f9 f10 f11 f12 f13 f14 f15)))))
def nf_M_pegOf (m_pegs : Int) (m_hangs : (Int → Int)) (x1 : Int) (Q : Int → Prop) : Prop :=
  nlp2 (fun self3 (l2_1 : Int) (l3_2 : Int) =>
      cB (m_pegs ≤ l3_2)
        (Q l2_1 )
        (wO (inb l3_2 24) (m_hangs l3_2) fun v4 =>
        jn1 (fun (t5 : Int) =>
            wO (iR (l3_2 + (ci 1))) (l3_2 + (ci 1)) fun v7 =>
            self3 t5 v7) fun j6 =>
        cB (v4 = x1)
          (j6 l3_2)
          (j6 l2_1))) (ci (-1)) (ci 0)
def nf_M_holderOf (m_guests : Int) (m_has : (Int → Int)) (x1 : Int) (Q : Int → Prop) : Prop :=
  nlp2 (fun self3 (l2_1 : Int) (l3_2 : Int) =>
      cB (m_guests ≤ l3_2)
        (Q l2_1 )
        (wO (inb l3_2 16) (m_has l3_2) fun v4 =>
        jn1 (fun (t5 : Int) =>
            wO (iR (l3_2 + (ci 1))) (l3_2 + (ci 1)) fun v7 =>
            self3 t5 v7) fun j6 =>
        cB (v4 = x1)
          (j6 l3_2)
          (j6 l2_1))) (ci (-1)) (ci 0)
def nf_M_learntOf (m_nights : Int) (m_plays : (Int → Int)) (m_weathers : (Int → Int)) (m_lefts : (Int → Int)) (x1 : Int) (x2 : Int) (x3 : Int) (Q : Int → Prop) : Prop :=
  nlp4 (fun self5 (l4_1 : Int) (l5_2 : Int) (l6_3 : Int) (l7_4 : Int) =>
      cB (m_nights ≤ l7_4)
        (wO (iR ((ci 1000) * l5_2)) ((ci 1000) * l5_2) fun v6 =>
        wO (dOK v6 l4_1) (Int.tdiv v6 l4_1) fun v7 =>
        wO (iR ((ci 1000) * l6_3)) ((ci 1000) * l6_3) fun v8 =>
        wO (dOK v8 l4_1) (Int.tdiv v8 l4_1) fun v9 =>
        cB (x3 = 0)
          (Q v7 )
          (cB (x3 = (ci 1))
            (Q v9 )
            (wO (iR ((ci 1000) - v7)) ((ci 1000) - v7) fun v10 =>
            wO (iR (v10 - v9)) (v10 - v9) fun v11 =>
            Q v11 )))
        (wO (inb l7_4 60) (m_plays l7_4) fun v12 =>
        jn3 (fun (l4_13 : Int) (l5_14 : Int) (l6_15 : Int) =>
            wO (iR (l7_4 + (ci 1))) (l7_4 + (ci 1)) fun v17 =>
            self5 l4_13 l5_14 l6_15 v17) fun j16 =>
        cB (v12 = x1)
          (wO (inb l7_4 60) (m_weathers l7_4) fun v18 =>
          cB (v18 = x2)
            (wO (iR ((ci 3) * l7_4)) ((ci 3) * l7_4) fun v19 =>
            wO (inb v19 180) (m_lefts v19) fun v20 =>
            wO (iR (l5_2 + v20)) (l5_2 + v20) fun v21 =>
            wO (iR ((ci 3) * l7_4)) ((ci 3) * l7_4) fun v22 =>
            wO (iR (v22 + (ci 1))) (v22 + (ci 1)) fun v23 =>
            wO (inb v23 180) (m_lefts v23) fun v24 =>
            wO (iR (l6_3 + v24)) (l6_3 + v24) fun v25 =>
            wO (iR ((ci 3) * l7_4)) ((ci 3) * l7_4) fun v26 =>
            wO (inb v26 180) (m_lefts v26) fun v27 =>
            wO (iR ((ci 3) * l7_4)) ((ci 3) * l7_4) fun v28 =>
            wO (iR (v28 + (ci 1))) (v28 + (ci 1)) fun v29 =>
            wO (inb v29 180) (m_lefts v29) fun v30 =>
            wO (iR (v27 + v30)) (v27 + v30) fun v31 =>
            wO (iR ((ci 3) * l7_4)) ((ci 3) * l7_4) fun v32 =>
            wO (iR (v32 + (ci 2))) (v32 + (ci 2)) fun v33 =>
            wO (inb v33 180) (m_lefts v33) fun v34 =>
            wO (iR (v31 + v34)) (v31 + v34) fun v35 =>
            wO (iR (l4_1 + v35)) (l4_1 + v35) fun v36 =>
            j16 v36 v21 v25)
            (j16 l4_1 l5_2 l6_3))
          (j16 l4_1 l5_2 l6_3))) (ci 3) (ci 1) (ci 1) (ci 0)
def nf_M_expected (m_nightPlay : Int) (m_nightWeather : Int) (m_nights : Int) (m_oddsOf : (Int → Int)) (m_singles : (Int → Int)) (m_sorts : (Int → Int)) (m_plays : (Int → Int)) (m_weathers : (Int → Int)) (m_lefts : (Int → Int)) (x1 : Int) (Q : Int → Prop) : Prop :=
  nlp2 (fun self3 (l2_1 : Int) (l3_2 : Int) =>
      cB ((ci 3) ≤ l3_2)
        (Q l2_1 )
        (jn1 (fun (t4 : Int) =>
            wO (inb l3_2 5) (m_singles l3_2) fun v6 =>
            wO (iR (t4 * v6)) (t4 * v6) fun v7 =>
            wO (iR (l2_1 + v7)) (l2_1 + v7) fun v8 =>
            wO (iR (l3_2 + (ci 1))) (l3_2 + (ci 1)) fun v9 =>
            self3 v8 v9) fun j5 =>
        cB (0 ≤ m_nightPlay)
          (nf_M_learntOf m_nights m_plays m_weathers m_lefts m_nightPlay m_nightWeather l3_2 fun r10 =>
          j5 r10)
          (wO (inb x1 16) (m_sorts x1) fun v11 =>
          wO (iR ((ci 3) * v11)) ((ci 3) * v11) fun v12 =>
          wO (iR (v12 + l3_2)) (v12 + l3_2) fun v13 =>
          wO (inb v13 12) (m_oddsOf v13) fun v14 =>
          j5 v14))) (ci 0) (ci 0)
def nf_M_told (m_pegs : Int) (m_guests : Int) (m_nightPlay : Int) (m_nightWeather : Int) (m_nights : Int) (m_oddsOf : (Int → Int)) (m_singles : (Int → Int)) (m_hangs : (Int → Int)) (m_sorts : (Int → Int)) (m_kinds : (Int → Int)) (m_tips : (Int → Int)) (m_marks : (Int → Int)) (m_brasses : (Int → Int)) (m_has : (Int → Int)) (m_plays : (Int → Int)) (m_weathers : (Int → Int)) (m_lefts : (Int → Int)) (x1 : Int) (x2 : Int) (Q : Int → Prop) : Prop :=
  nf_M_isGuest m_guests x1 fun r1 =>
  cB (r1 = 0)
    (Q (ci (-1001)) )
    ((cB (x2 = 0)
      (wO (inb x1 16) (m_sorts x1) fun v2 =>
      Q v2 )
    (cB (x2 = 1)
      (wO (inb x1 16) (m_kinds x1) fun v3 =>
      Q v3 )
    (cB (x2 = 2)
      (wO (inb x1 16) (m_tips x1) fun v4 =>
      Q v4 )
    (cB (x2 = 3)
      (wO (inb x1 16) (m_marks x1) fun v5 =>
      Q v5 )
    (cB (x2 = 4)
      (wO (inb x1 16) (m_brasses x1) fun v6 =>
      Q v6 )
    (cB (x2 = 5)
      (nf_M_pegOf m_pegs m_hangs x1 fun r7 =>
      Q r7 )
    (cB (x2 = 6)
      (nf_M_holderOf m_guests m_has x1 fun r8 =>
      Q r8 )
    (cB (x2 = 7)
      (wO (inb x1 16) (m_has x1) fun v9 =>
      Q v9 )
    (cB (x2 = 8)
      (nf_M_expected m_nightPlay m_nightWeather m_nights m_oddsOf m_singles m_sorts m_plays m_weathers m_lefts x1 fun r10 =>
      Q r10 )
      (Q (ci (-1002)) )))))))))))
def nf_M_nextPeg (m_pegs : Int) (m_pegKind : (Int → Int)) (m_pegWalk : (Int → Int)) (m_isTaken : (Int → Int)) (x1 : Int) (Q : Int → Prop) : Prop :=
  wO (iR (m_pegs - (ci 1))) (m_pegs - (ci 1)) fun v1 =>
  nlp2 (fun self4 (l2_2 : Int) (l3_3 : Int) =>
      cB (l3_3 < 0)
        (Q l2_2 )
        (wO (inb l3_3 24) (m_isTaken l3_3) fun v5 =>
        jn1 (fun (t6 : Int) =>
            jn1 (fun (t8 : Int) =>
                wO (iR (l3_3 + (ci (-1)))) (l3_3 + (ci (-1))) fun v10 =>
                self4 t8 v10) fun j9 =>
            jn0 (
                j9 l2_2) fun j11 =>
            cB (t6 = 0)
              (j11 )
              (jn0 (
                  j9 l3_3) fun j12 =>
              cB (l2_2 < 0)
                (j12 )
                (wO (inb l3_3 24) (m_pegWalk l3_3) fun v13 =>
                wO (inb l2_2 24) (m_pegWalk l2_2) fun v14 =>
                cB (v14 < v13)
                  (j11 )
                  (j12 )))) fun j7 =>
        jn0 (
            j7 (ci 0)) fun j15 =>
        cB (v5 = 0)
          (wO (inb l3_3 24) (m_pegKind l3_3) fun v16 =>
          cB (v16 = x1)
            (j7 (ci 1))
            (j15 ))
          (j15 ))) (ci (-1)) v1
def nf_M_nextGuest (m_guests : Int) (m_nightPlay : Int) (m_nightWeather : Int) (m_nights : Int) (m_oddsOf : (Int → Int)) (m_singles : (Int → Int)) (m_sorts : (Int → Int)) (m_planned : (Int → Int)) (m_plays : (Int → Int)) (m_weathers : (Int → Int)) (m_lefts : (Int → Int)) (x1 : Int) (Q : Int → Prop) : Prop :=
  nlp2 (fun self3 (l2_1 : Int) (l3_2 : Int) =>
      cB (m_guests ≤ l3_2)
        (Q l2_1 )
        (wO (inb l3_2 16) (m_planned l3_2) fun v4 =>
        jn1 (fun (t5 : Int) =>
            jn1 (fun (t7 : Int) =>
                wO (iR (l3_2 + (ci 1))) (l3_2 + (ci 1)) fun v9 =>
                self3 t7 v9) fun j8 =>
            jn0 (
                j8 l2_1) fun j10 =>
            cB (t5 = 0)
              (j10 )
              (jn0 (
                  j8 l3_2) fun j11 =>
              cB (l2_1 < 0)
                (j11 )
                (cB (x1 = 0)
                  (nf_M_expected m_nightPlay m_nightWeather m_nights m_oddsOf m_singles m_sorts m_plays m_weathers m_lefts l3_2 fun r12 =>
                  nf_M_expected m_nightPlay m_nightWeather m_nights m_oddsOf m_singles m_sorts m_plays m_weathers m_lefts l2_1 fun r13 =>
                  cB (r12 ≤ r13)
                    (j10 )
                    (j11 ))
                  (j10 )))) fun j6 =>
        cB (0 ≤ v4)
          (j6 (ci 0))
          (j6 (ci 1)))) (ci (-1)) (ci 0)
def nf_M_findPlan (m_pegs : Int) (m_guests : Int) (m_nightPlay : Int) (m_nightWeather : Int) (m_nights : Int) (m_pegKind : (Int → Int)) (m_pegWalk : (Int → Int)) (m_oddsOf : (Int → Int)) (m_singles : (Int → Int)) (m_sorts : (Int → Int)) (m_kinds : (Int → Int)) (m_planned : (Int → Int)) (m_isTaken : (Int → Int)) (m_plays : (Int → Int)) (m_weathers : (Int → Int)) (m_lefts : (Int → Int)) (x1 : Int) (Q : Int → (Int → Int) → (Int → Int) → Prop) : Prop :=
  nlp2 (fun self3 (l2_1 : Int) (z2 : (Int → Int)) =>
      cB (m_guests ≤ l2_1)
        (nlp2 (fun self6 (l2_4 : Int) (z5 : (Int → Int)) =>
            cB ((ci 24) ≤ l2_4)
              (nlp3 (fun self10 (l2_7 : Int) (z8 : (Int → Int)) (z9 : (Int → Int)) =>
                  cB (m_guests ≤ l2_7)
                    (Q (ci 1) z8 z9)
                    (nf_M_nextGuest m_guests m_nightPlay m_nightWeather m_nights m_oddsOf m_singles m_sorts z8 m_plays m_weathers m_lefts x1 fun r11 =>
                    wO (inb r11 16) (m_kinds r11) fun v12 =>
                    nf_M_nextPeg m_pegs m_pegKind m_pegWalk z9 v12 fun r13 =>
                    cB (0 ≤ r13)
                      (wO (inb r11 16) (ups z8 r11 r13) fun f14 =>
                      wO (bZ (ci 1) ∧ inb r13 24) (ups z9 r13 (ci 1)) fun f15 =>
                      wO (iR (l2_7 + (ci 1))) (l2_7 + (ci 1)) fun v16 =>
                      self10 v16 f14 f15)
                      (Q (ci 0) z8 z9))) (ci 0) z2 z5)
              (wO (bZ (ci 0) ∧ inb l2_4 24) (ups z5 l2_4 (ci 0)) fun f17 =>
              wO (iR (l2_4 + (ci 1))) (l2_4 + (ci 1)) fun v18 =>
              self6 v18 f17)) (ci 0) m_isTaken)
        (wO (inb l2_1 16) (ups z2 l2_1 (ci (-1))) fun f19 =>
        wO (iR (l2_1 + (ci 1))) (l2_1 + (ci 1)) fun v20 =>
        self3 v20 f19)) (ci 0) m_planned
def nf_M_plan (m_pegs : Int) (m_guests : Int) (m_nightPlay : Int) (m_nightWeather : Int) (m_nights : Int) (m_pegKind : (Int → Int)) (m_pegWalk : (Int → Int)) (m_oddsOf : (Int → Int)) (m_singles : (Int → Int)) (m_sorts : (Int → Int)) (m_kinds : (Int → Int)) (m_planned : (Int → Int)) (m_isTaken : (Int → Int)) (m_plays : (Int → Int)) (m_weathers : (Int → Int)) (m_lefts : (Int → Int)) (x1 : Int) (x2 : Int) (Q : Int → (Int → Int) → (Int → Int) → Prop) : Prop :=
  jn0 (
      nf_M_findPlan m_pegs m_guests m_nightPlay m_nightWeather m_nights m_pegKind m_pegWalk m_oddsOf m_singles m_sorts m_kinds m_planned m_isTaken m_plays m_weathers m_lefts x1 fun r4 f2 f3 =>
      cB (r4 = 0)
        (Q (ci (-1)) f2 f3)
        (nlp2 (fun self7 (l3_5 : Int) (l4_6 : Int) =>
            cB (m_guests ≤ l4_6)
              (cB (x2 = (ci (-1)))
                (Q l3_5 f2 f3)
                (wO (inb x2 16) (f2 x2) fun v8 =>
                Q v8 f2 f3))
              (nf_M_expected m_nightPlay m_nightWeather m_nights m_oddsOf m_singles m_sorts m_plays m_weathers m_lefts l4_6 fun r9 =>
              wO (inb l4_6 16) (f2 l4_6) fun v10 =>
              wO (inb v10 24) (m_pegWalk v10) fun v11 =>
              wO (iR (r9 * v11)) (r9 * v11) fun v12 =>
              wO (iR (l3_5 + v12)) (l3_5 + v12) fun v13 =>
              wO (iR (l4_6 + (ci 1))) (l4_6 + (ci 1)) fun v14 =>
              self7 v13 v14)) (ci 0) (ci 0))) fun j1 =>
  cB (x2 = (ci (-1)))
    (j1 )
    (nf_M_isGuest m_guests x2 fun r15 =>
    cB (r15 = 0)
      (Q (ci (-1001)) m_planned m_isTaken)
      (j1 ))
def nf_M_isNight  (x1 : Int) (x2 : Int) (Q : Int → Prop) : Prop :=
  wL x1 fun v1 =>
  nf_M_in  v1 (cl 0) (cl 3) fun r2 =>
  cB (r2 = 0)
    (Q (ci 0) )
    (wL x2 fun v3 =>
    nf_M_in  v3 (cl 0) (cl 1) fun r4 =>
    cB (r4 = 0)
      (Q (ci 0) )
      (Q (ci 1) ))
def nf_M_night (m_nights : Int) (m_plays : (Int → Int)) (m_weathers : (Int → Int)) (m_lefts : (Int → Int)) (x1 : Int) (x2 : Int) (x3 : Int) (x4 : Int) (x5 : Int) (Q : Int → Int → (Int → Int) → (Int → Int) → (Int → Int) → Prop) : Prop :=
  nf_M_isNight  x1 x2 fun r1 =>
  cB (r1 = 0)
    (Q (ci (-1002)) m_nights m_plays m_weathers m_lefts)
    (wL x3 fun v2 =>
    nf_M_in  v2 (cl 0) (cl 999) fun r3 =>
    cB (r3 = 0)
      (Q (ci (-1002)) m_nights m_plays m_weathers m_lefts)
      (wL x4 fun v4 =>
      nf_M_in  v4 (cl 0) (cl 999) fun r5 =>
      cB (r5 = 0)
        (Q (ci (-1002)) m_nights m_plays m_weathers m_lefts)
        (wL x5 fun v6 =>
        nf_M_in  v6 (cl 0) (cl 999) fun r7 =>
        cB (r7 = 0)
          (Q (ci (-1002)) m_nights m_plays m_weathers m_lefts)
          (cB (m_nights = (ci 60))
            (Q (ci (-1004)) m_nights m_plays m_weathers m_lefts)
            (wO (inb m_nights 60) (ups m_plays m_nights x1) fun f8 =>
            wO (inb m_nights 60) (ups m_weathers m_nights x2) fun f9 =>
            wO (iR ((ci 3) * m_nights)) ((ci 3) * m_nights) fun v10 =>
            wO (inb v10 180) (ups m_lefts v10 x3) fun f11 =>
            wO (iR ((ci 3) * m_nights)) ((ci 3) * m_nights) fun v12 =>
            wO (iR (v12 + (ci 1))) (v12 + (ci 1)) fun v13 =>
            wO (inb v13 180) (ups f11 v13 x4) fun f14 =>
            wO (iR ((ci 3) * m_nights)) ((ci 3) * m_nights) fun v15 =>
            wO (iR (v15 + (ci 2))) (v15 + (ci 2)) fun v16 =>
            wO (inb v16 180) (ups f14 v16 x5) fun f17 =>
            wO (iR (m_nights + (ci 1))) (m_nights + (ci 1)) fun v18 =>
            Q v18 v18 f8 f9 f17)))))
def nf_M_learnt (m_nights : Int) (m_plays : (Int → Int)) (m_weathers : (Int → Int)) (m_lefts : (Int → Int)) (x1 : Int) (x2 : Int) (x3 : Int) (Q : Int → Prop) : Prop :=
  nf_M_isNight  x1 x2 fun r1 =>
  cB (r1 = 0)
    (Q (ci (-1002)) )
    (wL x3 fun v2 =>
    nf_M_in  v2 (cl 0) (cl 2) fun r3 =>
    cB (r3 = 0)
      (Q (ci (-1002)) )
      (nf_M_learntOf m_nights m_plays m_weathers m_lefts x1 x2 x3 fun r4 =>
      Q r4 ))
def nf_M_tonight (m_nightPlay : Int) (m_nightWeather : Int) (x1 : Int) (x2 : Int) (Q : Int → Int → Int → Prop) : Prop :=
  jn0 (
      jn1 (fun (t2 : Int) =>
          Q (ci 1) x1 t2) fun j3 =>
      cB (x1 = (ci (-1)))
        (j3 (ci 0))
        (j3 x2)) fun j1 =>
  cB (x1 = (ci (-1)))
    (j1 )
    (nf_M_isNight  x1 x2 fun r4 =>
    cB (r4 = 0)
      (Q (ci (-1002)) m_nightPlay m_nightWeather)
      (j1 ))
def nf_M_addEvent (m_events : Int) (m_eventRow : (Int → Int)) (x1 : Int) (x2 : Int) (x3 : Int) (x4 : Int) (x5 : Int) (x6 : Int) (x7 : Int) (Q : Int → Int → (Int → Int) → Prop) : Prop :=
  wO (iR ((ci 7) * m_events)) ((ci 7) * m_events) fun v1 =>
  wO (inb v1 420) (ups m_eventRow v1 x1) fun f2 =>
  wO (iR (v1 + (ci 1))) (v1 + (ci 1)) fun v3 =>
  wO (inb v3 420) (ups f2 v3 x2) fun f4 =>
  wO (iR (v1 + (ci 2))) (v1 + (ci 2)) fun v5 =>
  wO (inb v5 420) (ups f4 v5 x3) fun f6 =>
  wO (iR (v1 + (ci 3))) (v1 + (ci 3)) fun v7 =>
  wO (inb v7 420) (ups f6 v7 x4) fun f8 =>
  wO (iR (v1 + (ci 4))) (v1 + (ci 4)) fun v9 =>
  wO (inb v9 420) (ups f8 v9 x5) fun f10 =>
  wO (iR (v1 + (ci 5))) (v1 + (ci 5)) fun v11 =>
  wO (inb v11 420) (ups f10 v11 x6) fun f12 =>
  wO (iR (v1 + (ci 6))) (v1 + (ci 6)) fun v13 =>
  jn1 (fun (t14 : Int) =>
      wO (inb v13 420) (ups f12 v13 t14) fun f16 =>
      wO (iR (m_events + (ci 1))) (m_events + (ci 1)) fun v17 =>
      wO (iR (v17 - (ci 1))) (v17 - (ci 1)) fun v18 =>
      Q v18 v17 f16) fun j15 =>
  cB (x7 = 0)
    (j15 (ci 0))
    (j15 (ci 1))
def nf_M_isHand  (x1 : Int) (Q : Int → Prop) : Prop :=
  wL x1 fun v1 =>
  nf_M_in  v1 (cl 0) (cl 3) fun r2 =>
  wO (bZ r2) r2 fun r9 => Q r9 
def nf_M_isBrassOut (m_guests : Int) (m_brasses : (Int → Int)) (x1 : Int) (Q : Int → Prop) : Prop :=
  nlp2 (fun self3 (l2_1 : Int) (l3_2 : Int) =>
      cB (m_guests ≤ l3_2)
        (wO (bZ l2_1) l2_1 fun r9 => Q r9 )
        (jn1 (fun (t4 : Int) =>
            wO (iR (l3_2 + (ci 1))) (l3_2 + (ci 1)) fun v6 =>
            self3 t4 v6) fun j5 =>
        jn0 (
            j5 (ci 1)) fun j7 =>
        cB (l2_1 = 0)
          (wO (inb l3_2 16) (m_brasses l3_2) fun v8 =>
          cB (v8 = x1)
            (j7 )
            (j5 (ci 0)))
          (j7 ))) (ci 0) (ci 0)
def nf_M_hasClaim (m_claims : Int) (m_claimGuest : (Int → Int)) (x1 : Int) (Q : Int → Prop) : Prop :=
  nlp2 (fun self3 (l2_1 : Int) (l3_2 : Int) =>
      cB (m_claims ≤ l3_2)
        (wO (bZ l2_1) l2_1 fun r9 => Q r9 )
        (jn1 (fun (t4 : Int) =>
            wO (iR (l3_2 + (ci 1))) (l3_2 + (ci 1)) fun v6 =>
            self3 t4 v6) fun j5 =>
        jn0 (
            j5 (ci 1)) fun j7 =>
        cB (l2_1 = 0)
          (wO (inb l3_2 6) (m_claimGuest l3_2) fun v8 =>
          cB (v8 = x1)
            (j7 )
            (j5 (ci 0)))
          (j7 ))) (ci 0) (ci 0)
def nf_M_hang (m_pegs : Int) (m_guests : Int) (m_events : Int) (m_claims : Int) (m_pegKind : (Int → Int)) (m_hangs : (Int → Int)) (m_kinds : (Int → Int)) (m_brasses : (Int → Int)) (m_hungBy : (Int → Int)) (m_eventRow : (Int → Int)) (m_claimGuest : (Int → Int)) (x1 : Int) (x2 : Int) (x3 : Int) (x4 : Int) (Q : Int → Int → (Int → Int) → (Int → Int) → (Int → Int) → (Int → Int) → Prop) : Prop :=
  nf_M_isHand  x1 fun r1 =>
  cB (r1 = 0)
    (Q (ci (-1001)) m_events m_hangs m_brasses m_hungBy m_eventRow)
    (nf_M_isGuest m_guests x2 fun r2 =>
    cB (r2 = 0)
      (Q (ci (-1001)) m_events m_hangs m_brasses m_hungBy m_eventRow)
      (nf_M_isPeg m_pegs x3 fun r3 =>
      cB (r3 = 0)
        (Q (ci (-1001)) m_events m_hangs m_brasses m_hungBy m_eventRow)
        (wL x4 fun v4 =>
        nf_M_in  v4 (cl 0) (cl 23) fun r5 =>
        cB (r5 = 0)
          (Q (ci (-1002)) m_events m_hangs m_brasses m_hungBy m_eventRow)
          (wO (inb x2 16) (m_hungBy x2) fun v6 =>
          cB (0 ≤ v6)
            (Q (ci (-1003)) m_events m_hangs m_brasses m_hungBy m_eventRow)
            (nf_M_hasClaim m_claims m_claimGuest x2 fun r7 =>
            cB (r7 = 0)
              (wO (inb x3 24) (m_pegKind x3) fun v8 =>
              wO (inb x2 16) (m_kinds x2) fun v9 =>
              cB (v8 = v9)
                (wO (inb x3 24) (m_hangs x3) fun v10 =>
                cB (0 ≤ v10)
                  (Q (ci (-1003)) m_events m_hangs m_brasses m_hungBy m_eventRow)
                  (nf_M_isBrassOut m_guests m_brasses x4 fun r11 =>
                  cB (r11 = 0)
                    (cB (m_events = (ci 60))
                      (Q (ci (-1004)) m_events m_hangs m_brasses m_hungBy m_eventRow)
                      (wO (inb x3 24) (ups m_hangs x3 x2) fun f12 =>
                      wO (inb x2 16) (ups m_brasses x2 x4) fun f13 =>
                      wO (inb x2 16) (ups m_hungBy x2 m_events) fun f14 =>
                      jn1 (fun (t15 : Int) =>
                          nf_M_addEvent m_events m_eventRow (ci 0) x1 x2 x3 x4 x2 t15 fun r19 z17 f18 =>
                          Q r19 z17 f12 f13 f14 f18) fun j16 =>
                      cB (x4 = x3)
                        (j16 (ci 0))
                        (j16 (ci 1))))
                    (Q (ci (-1003)) m_events m_hangs m_brasses m_hungBy m_eventRow)))
                (Q (ci (-1003)) m_events m_hangs m_brasses m_hungBy m_eventRow))
              (Q (ci (-1003)) m_events m_hangs m_brasses m_hungBy m_eventRow))))))
def nf_M_give (m_pegs : Int) (m_guests : Int) (m_events : Int) (m_hangs : (Int → Int)) (m_brasses : (Int → Int)) (m_has : (Int → Int)) (m_eventRow : (Int → Int)) (x1 : Int) (x2 : Int) (x3 : Int) (Q : Int → Int → (Int → Int) → (Int → Int) → (Int → Int) → (Int → Int) → Prop) : Prop :=
  nf_M_isHand  x1 fun r1 =>
  cB (r1 = 0)
    (Q (ci (-1001)) m_events m_hangs m_brasses m_has m_eventRow)
    (nf_M_isGuest m_guests x2 fun r2 =>
    cB (r2 = 0)
      (Q (ci (-1001)) m_events m_hangs m_brasses m_has m_eventRow)
      (nf_M_isPeg m_pegs x3 fun r3 =>
      cB (r3 = 0)
        (Q (ci (-1001)) m_events m_hangs m_brasses m_has m_eventRow)
        (wO (inb x2 16) (m_brasses x2) fun v4 =>
        cB (v4 < 0)
          (Q (ci (-1003)) m_events m_hangs m_brasses m_has m_eventRow)
          (wO (inb x2 16) (m_has x2) fun v5 =>
          cB (0 ≤ v5)
            (Q (ci (-1003)) m_events m_hangs m_brasses m_has m_eventRow)
            (wO (inb x3 24) (m_hangs x3) fun v6 =>
            cB (0 ≤ v6)
              (cB (m_events = (ci 60))
                (Q (ci (-1004)) m_events m_hangs m_brasses m_has m_eventRow)
                (wO (inb x2 16) (m_brasses x2) fun v7 =>
                wO (inb x3 24) (m_hangs x3) fun v8 =>
                wO (inb x2 16) (ups m_has x2 v8) fun f9 =>
                wO (inb x3 24) (ups m_hangs x3 (ci (-1))) fun f10 =>
                wO (inb x2 16) (ups m_brasses x2 (ci (-1))) fun f11 =>
                jn1 (fun (t12 : Int) =>
                    nf_M_addEvent m_events m_eventRow (ci 1) x1 x2 x3 v7 v8 t12 fun r16 z14 f15 =>
                    Q r16 z14 f10 f11 f9 f15) fun j13 =>
                cB (x3 = v7)
                  (j13 (ci 0))
                  (j13 (ci 1))))
              (Q (ci (-1003)) m_events m_hangs m_brasses m_has m_eventRow))))))
def nf_M_lose (m_guests : Int) (m_events : Int) (m_brasses : (Int → Int)) (m_eventRow : (Int → Int)) (x1 : Int) (Q : Int → Int → (Int → Int) → (Int → Int) → Prop) : Prop :=
  nf_M_isGuest m_guests x1 fun r1 =>
  cB (r1 = 0)
    (Q (ci (-1001)) m_events m_brasses m_eventRow)
    (wO (inb x1 16) (m_brasses x1) fun v2 =>
    cB (0 ≤ v2)
      (cB (m_events = (ci 60))
        (Q (ci (-1004)) m_events m_brasses m_eventRow)
        (wO (inb x1 16) (m_brasses x1) fun v3 =>
        wO (inb x1 16) (ups m_brasses x1 (ci (-1))) fun f4 =>
        nf_M_addEvent m_events m_eventRow (ci 2) (ci (-1)) x1 (ci (-1)) v3 (ci (-1)) (ci 0) fun r7 z5 f6 =>
        Q r7 z5 f4 f6))
      (Q (ci (-1003)) m_events m_brasses m_eventRow))
def nf_M_event (m_events : Int) (m_eventRow : (Int → Int)) (x1 : Int) (x2 : Int) (Q : Int → Prop) : Prop :=
  wL x1 fun v1 =>
  wO (iR (m_events - (ci 1))) (m_events - (ci 1)) fun v2 =>
  wL v2 fun v3 =>
  nf_M_in  v1 (cl 0) v3 fun r4 =>
  cB (r4 = 0)
    (Q (ci (-1001)) )
    (wL x2 fun v5 =>
    nf_M_in  v5 (cl 0) (cl 6) fun r6 =>
    cB (r6 = 0)
      (Q (ci (-1002)) )
      (wO (iR ((ci 7) * x1)) ((ci 7) * x1) fun v7 =>
      wO (iR (v7 + x2)) (v7 + x2) fun v8 =>
      wO (inb v8 420) (m_eventRow v8) fun v9 =>
      Q v9 ))
def nf_M_isAstray (m_has : (Int → Int)) (x1 : Int) (Q : Int → Prop) : Prop :=
  wO (inb x1 16) (m_has x1) fun v1 =>
  cB (v1 < 0)
    (Q (ci 0) )
    (wO (inb x1 16) (m_has x1) fun v2 =>
    cB (v2 = x1)
      (Q (ci 0) )
      (Q (ci 1) ))
def nf_M_astray (m_guests : Int) (m_has : (Int → Int))  (Q : Int → Prop) : Prop :=
  nlp2 (fun self3 (l1_1 : Int) (l2_2 : Int) =>
      cB (m_guests ≤ l2_2)
        (Q l1_1 )
        (nf_M_isAstray m_has l2_2 fun r4 =>
        jn1 (fun (t5 : Int) =>
            wL (ior l1_1 t5) fun v7 =>
            wO (iR (l2_2 + (ci 1))) (l2_2 + (ci 1)) fun v8 =>
            self3 v7 v8) fun j6 =>
        cB (r4 = 0)
          (j6 (ci 0))
          (wL (ishl (ci 1) l2_2) fun v9 =>
          j6 v9))) (ci 0) (ci 0)
def nf_M_findChain (m_chainMany : Int) (m_isRound : Int) (m_has : (Int → Int)) (m_chained : (Int → Int)) (x1 : Int) (Q : Int → Int → (Int → Int) → Prop) : Prop :=
  wO (inb (ci 0) 17) (ups m_chained (ci 0) x1) fun f1 =>
  wO (inb x1 16) (m_has x1) fun v2 =>
  nlp3 (fun self6 (l2_3 : Int) (z4 : Int) (z5 : (Int → Int)) =>
      jn0 (
          jn1 (fun (t8 : Int) =>
              wO (bZ t8) t8 fun t8 =>
              Q z4 t8 z5) fun j9 =>
          cB (l2_3 = x1)
            (j9 (ci 1))
            (j9 (ci 0))) fun j7 =>
      cB (l2_3 < 0)
        (j7 )
        (cB (l2_3 = x1)
          (j7 )
          (wO (inb z4 17) (ups z5 z4 l2_3) fun f11 =>
          wO (iR (z4 + (ci 1))) (z4 + (ci 1)) fun v12 =>
          wO (inb l2_3 16) (m_has l2_3) fun v13 =>
          self6 v13 v12 f11))) v2 (ci 1) f1
def nf_M_chain (m_guests : Int) (m_chainMany : Int) (m_isRound : Int) (m_has : (Int → Int)) (m_chained : (Int → Int)) (x1 : Int) (x2 : Int) (Q : Int → Int → Int → (Int → Int) → Prop) : Prop :=
  nf_M_isGuest m_guests x1 fun r1 =>
  cB (r1 = 0)
    (Q (ci (-1001)) m_chainMany m_isRound m_chained)
    (nf_M_isAstray m_has x1 fun r2 =>
    cB (r2 = 0)
      (Q (ci (-1003)) m_chainMany m_isRound m_chained)
      (nf_M_findChain m_chainMany m_isRound m_has m_chained x1 fun z3 z4 f5 =>
      cB (x2 = (ci (-1)))
        (Q z3 z3 z4 f5)
        (wL x2 fun v6 =>
        wO (iR (z3 - (ci 1))) (z3 - (ci 1)) fun v7 =>
        wL v7 fun v8 =>
        nf_M_in  v6 (cl 0) v8 fun r9 =>
        cB (r9 = 0)
          (Q (ci (-1)) z3 z4 f5)
          (wO (inb x2 17) (f5 x2) fun v10 =>
          Q v10 z3 z4 f5))))
def nf_M_ring (m_guests : Int) (m_chainMany : Int) (m_isRound : Int) (m_has : (Int → Int)) (m_chained : (Int → Int)) (x1 : Int) (Q : Int → Int → Int → (Int → Int) → Prop) : Prop :=
  nf_M_isGuest m_guests x1 fun r1 =>
  cB (r1 = 0)
    (Q (ci (-1001)) m_chainMany m_isRound m_chained)
    (nf_M_isAstray m_has x1 fun r2 =>
    cB (r2 = 0)
      (Q (ci (-1003)) m_chainMany m_isRound m_chained)
      (nf_M_findChain m_chainMany m_isRound m_has m_chained x1 fun z3 z4 f5 =>
      cB (z4 = 0)
        (Q (ci 0) z3 z4 f5)
        (Q (ci 1) z3 z4 f5)))
def nf_M_exchanges (m_guests : Int) (m_chainMany : Int) (m_isRound : Int) (m_has : (Int → Int)) (m_chained : (Int → Int))  (Q : Int → Int → Int → (Int → Int) → Prop) : Prop :=
  nlp5 (fun self6 (l1_1 : Int) (l2_2 : Int) (z3 : Int) (z4 : Int) (z5 : (Int → Int)) =>
      cB (m_guests ≤ l2_2)
        (Q l1_1 z3 z4 z5)
        (nf_M_isAstray m_has l2_2 fun r7 =>
        jn4 (fun (l1_8 : Int) (z9 : Int) (z10 : Int) (z11 : (Int → Int)) =>
            wO (iR (l2_2 + (ci 1))) (l2_2 + (ci 1)) fun v13 =>
            self6 l1_8 v13 z9 z10 z11) fun j12 =>
        cB (r7 = 0)
          (j12 l1_1 z3 z4 z5)
          (nf_M_findChain z3 z4 m_has z5 l2_2 fun z14 z15 f16 =>
          nlp2 (fun self19 (l3_17 : Int) (l4_18 : Int) =>
              cB (z14 ≤ l4_18)
                (jn1 (fun (t20 : Int) =>
                    wO (iR (l1_1 + t20)) (l1_1 + t20) fun v22 =>
                    j12 v22 z14 z15 f16) fun j21 =>
                cB (l3_17 = 0)
                  (j21 (ci 1))
                  (j21 (ci 0)))
                (jn1 (fun (t23 : Int) =>
                    wO (iR (l4_18 + (ci 1))) (l4_18 + (ci 1)) fun v25 =>
                    self19 t23 v25) fun j24 =>
                jn0 (
                    j24 (ci 0)) fun j26 =>
                cB (l3_17 = 0)
                  (j26 )
                  (wO (inb l4_18 17) (f16 l4_18) fun v27 =>
                  cB (v27 ≤ l2_2)
                    (j26 )
                    (j24 (ci 1))))) z15 (ci 1)))) (ci 0) (ci 0) m_chainMany m_isRound m_chained
def nf_M_wrong (m_guests : Int) (m_events : Int) (m_hungBy : (Int → Int)) (m_eventRow : (Int → Int)) (x1 : Int) (x2 : Int) (Q : Int → Prop) : Prop :=
  nf_M_isGuest m_guests x1 fun r1 =>
  cB (r1 = 0)
    (Q (ci (-1001)) )
    (wL x2 fun v2 =>
    nf_M_in  v2 (cl 0) (cl 1) fun r3 =>
    cB (r3 = 0)
      (Q (ci (-1002)) )
      (nlp2 (fun self6 (l3_4 : Int) (l4_5 : Int) =>
          cB (m_events ≤ l4_5)
            (wO (inb x1 16) (m_hungBy x1) fun v7 =>
            jn1 (fun (l4_8 : Int) =>
                cB (0 ≤ l4_8)
                  (cB (x2 = 0)
                    (wO (iR ((ci 7) * l4_8)) ((ci 7) * l4_8) fun v10 =>
                    wO (iR (v10 + (ci 1))) (v10 + (ci 1)) fun v11 =>
                    wO (inb v11 420) (m_eventRow v11) fun v12 =>
                    Q v12 )
                    (Q l4_8 ))
                  (Q (ci (-1)) )) fun j9 =>
            jn0 (
                cB (l3_4 < 0)
                  (j9 (ci (-1)))
                  (wO (iR ((ci 7) * l3_4)) ((ci 7) * l3_4) fun v14 =>
                  wO (iR (v14 + (ci 2))) (v14 + (ci 2)) fun v15 =>
                  wO (inb v15 420) (m_eventRow v15) fun v16 =>
                  wO (inb v16 16) (m_hungBy v16) fun v17 =>
                  wO (iR ((ci 7) * l3_4)) ((ci 7) * l3_4) fun v18 =>
                  wO (iR (v18 + (ci 6))) (v18 + (ci 6)) fun v19 =>
                  wO (inb v19 420) (m_eventRow v19) fun v20 =>
                  jn1 (fun (t21 : Int) =>
                      j9 t21) fun j22 =>
                  cB (v20 = (ci 1))
                    (j22 l3_4)
                    (jn0 (
                        j22 (ci (-1))) fun j23 =>
                    cB (v17 < 0)
                      (j23 )
                      (wO (iR ((ci 7) * v17)) ((ci 7) * v17) fun v24 =>
                      wO (iR (v24 + (ci 6))) (v24 + (ci 6)) fun v25 =>
                      wO (inb v25 420) (m_eventRow v25) fun v26 =>
                      cB (v26 = (ci 1))
                        (j22 v17)
                        (j23 ))))) fun j13 =>
            cB (v7 < 0)
              (j13 )
              (wO (inb x1 16) (m_hungBy x1) fun v27 =>
              wO (iR ((ci 7) * v27)) ((ci 7) * v27) fun v28 =>
              wO (iR (v28 + (ci 6))) (v28 + (ci 6)) fun v29 =>
              wO (inb v29 420) (m_eventRow v29) fun v30 =>
              cB (v30 = (ci 1))
                (wO (inb x1 16) (m_hungBy x1) fun v31 =>
                j9 v31)
                (j13 )))
            (wO (iR ((ci 7) * l4_5)) ((ci 7) * l4_5) fun v32 =>
            wO (inb v32 420) (m_eventRow v32) fun v33 =>
            jn1 (fun (t34 : Int) =>
                wO (iR (l4_5 + (ci 1))) (l4_5 + (ci 1)) fun v36 =>
                self6 t34 v36) fun j35 =>
            jn0 (
                j35 l3_4) fun j37 =>
            cB (v33 = (ci 1))
              (wO (iR ((ci 7) * l4_5)) ((ci 7) * l4_5) fun v38 =>
              wO (iR (v38 + (ci 5))) (v38 + (ci 5)) fun v39 =>
              wO (inb v39 420) (m_eventRow v39) fun v40 =>
              cB (v40 = x1)
                (j35 l4_5)
                (j37 ))
              (j37 ))) (ci (-1)) (ci 0)))
def nf_M_runRow (m_pegs : Int) (m_rowMany : Int) (m_waitSum : Int) (m_waitMost : Int) (m_tipSum : Int) (m_pegWalk : (Int → Int)) (m_singles : (Int → Int)) (m_hangs : (Int → Int)) (m_tips : (Int → Int)) (m_row : (Int → Int)) (m_freeAt : (Int → Int)) (x1 : Int) (Q : Int → Int → Int → (Int → Int) → Prop) : Prop :=
  nlp2 (fun self3 (l2_1 : Int) (z2 : (Int → Int)) =>
      cB ((ci 4) ≤ l2_1)
        (nlp5 (fun self9 (l2_4 : Int) (z5 : Int) (z6 : Int) (z7 : Int) (z8 : (Int → Int)) =>
            cB (m_rowMany ≤ l2_4)
              (Q z5 z6 z7 z8)
              (wO (inb l2_4 16) (m_row l2_4) fun v10 =>
              nlp2 (fun self13 (l4_11 : Int) (l5_12 : Int) =>
                  cB (x1 ≤ l5_12)
                    (wO (inb l4_11 4) (z8 l4_11) fun v14 =>
                    nf_M_pegOf m_pegs m_hangs v10 fun r15 =>
                    wO (inb r15 24) (m_pegWalk r15) fun v16 =>
                    wO (iR ((ci 2) * v16)) ((ci 2) * v16) fun v17 =>
                    wO (inb (ci 3) 5) (m_singles (ci 3)) fun v18 =>
                    wO (iR (v17 + v18)) (v17 + v18) fun v19 =>
                    wO (iR (v14 + v19)) (v14 + v19) fun v20 =>
                    wO (inb l4_11 4) (ups z8 l4_11 v20) fun f21 =>
                    wO (inb l4_11 4) (f21 l4_11) fun v22 =>
                    wO (inb v10 16) (m_tips v10) fun v23 =>
                    wO (inb (ci 4) 5) (m_singles (ci 4)) fun v24 =>
                    wO (iR (v24 * v22)) (v24 * v22) fun v25 =>
                    wO (dOK v25 (ci 10)) (Int.tdiv v25 (ci 10)) fun v26 =>
                    wO (iR (v23 - v26)) (v23 - v26) fun v27 =>
                    wO (iR (z5 + v22)) (z5 + v22) fun v28 =>
                    jn1 (fun (t29 : Int) =>
                        jn1 (fun (t31 : Int) =>
                            wO (iR (z7 + t31)) (z7 + t31) fun v33 =>
                            wO (iR (l2_4 + (ci 1))) (l2_4 + (ci 1)) fun v34 =>
                            self9 v34 v28 t29 v33 f21) fun j32 =>
                        cB (v27 ≤ 0)
                          (j32 (ci 0))
                          (j32 v27)) fun j30 =>
                    cB (v22 ≤ z6)
                      (j30 z6)
                      (j30 v22))
                    (wO (inb l5_12 4) (z8 l5_12) fun v35 =>
                    wO (inb l4_11 4) (z8 l4_11) fun v36 =>
                    jn1 (fun (t37 : Int) =>
                        wO (iR (l5_12 + (ci 1))) (l5_12 + (ci 1)) fun v39 =>
                        self13 t37 v39) fun j38 =>
                    cB (v36 ≤ v35)
                      (j38 l4_11)
                      (j38 l5_12))) (ci 0) (ci 1))) (ci 0) (ci 0) (ci 0) (ci 0) z2)
        (wO (inb l2_1 4) (ups z2 l2_1 (ci 0)) fun f40 =>
        wO (iR (l2_1 + (ci 1))) (l2_1 + (ci 1)) fun v41 =>
        self3 v41 f40)) (ci 0) m_freeAt
def nf_M_fillRow (m_guests : Int) (m_rowMany : Int) (m_row : (Int → Int)) (x1 : Int) (Q : Int → (Int → Int) → Prop) : Prop :=
  nlp3 (fun self4 (l2_1 : Int) (z2 : Int) (z3 : (Int → Int)) =>
      cB (m_guests ≤ l2_1)
        (Q z2 z3)
        (wL (ishr x1 l2_1) fun v5 =>
        wL (iand v5 (ci 1)) fun v6 =>
        jn2 (fun (z7 : Int) (z8 : (Int → Int)) =>
            wO (iR (l2_1 + (ci 1))) (l2_1 + (ci 1)) fun v10 =>
            self4 v10 z7 z8) fun j9 =>
        cB (v6 = (ci 1))
          (wO (inb z2 16) (ups z3 z2 l2_1) fun f11 =>
          wO (iR (z2 + (ci 1))) (z2 + (ci 1)) fun v12 =>
          j9 v12 f11)
          (j9 z2 z3))) (ci 0) (ci 0) m_row
def nf_M_areHanging (m_pegs : Int) (m_guests : Int) (m_hangs : (Int → Int)) (x1 : Int) (Q : Int → Prop) : Prop :=
  nf_M_areGuests m_guests x1 fun r1 =>
  nlp2 (fun self4 (l2_2 : Int) (l3_3 : Int) =>
      cB (m_guests ≤ l3_3)
        (wO (bZ l2_2) l2_2 fun r9 => Q r9 )
        (cB (l2_2 = 0)
          (wO (bZ l2_2) l2_2 fun r9 => Q r9 )
          (wL (ishr x1 l3_3) fun v5 =>
          wL (iand v5 (ci 1)) fun v6 =>
          jn1 (fun (t7 : Int) =>
              wO (iR (l3_3 + (ci 1))) (l3_3 + (ci 1)) fun v9 =>
              self4 t7 v9) fun j8 =>
          jn0 (
              j8 (ci 1)) fun j10 =>
          cB (v6 = 0)
            (j10 )
            (nf_M_pegOf m_pegs m_hangs l3_3 fun r11 =>
            cB (r11 < 0)
              (j8 (ci 0))
              (j10 ))))) r1 (ci 0)
def nf_M_rush (m_pegs : Int) (m_guests : Int) (m_rowMany : Int) (m_waitSum : Int) (m_waitMost : Int) (m_tipSum : Int) (m_pegWalk : (Int → Int)) (m_singles : (Int → Int)) (m_hangs : (Int → Int)) (m_tips : (Int → Int)) (m_row : (Int → Int)) (m_freeAt : (Int → Int)) (x1 : Int) (x2 : Int) (x3 : Int) (Q : Int → Int → Int → Int → Int → (Int → Int) → (Int → Int) → Prop) : Prop :=
  nf_M_areHanging m_pegs m_guests m_hangs x1 fun r1 =>
  cB (r1 = 0)
    (Q (ci (-1001)) m_rowMany m_waitSum m_waitMost m_tipSum m_row m_freeAt)
    (wL x2 fun v2 =>
    nf_M_in  v2 (cl 1) (cl 4) fun r3 =>
    cB (r3 = 0)
      (Q (ci (-1002)) m_rowMany m_waitSum m_waitMost m_tipSum m_row m_freeAt)
      (wL x3 fun v4 =>
      nf_M_in  v4 (cl 0) (cl 2) fun r5 =>
      cB (r5 = 0)
        (Q (ci (-1002)) m_rowMany m_waitSum m_waitMost m_tipSum m_row m_freeAt)
        (nf_M_fillRow m_guests m_rowMany m_row x1 fun z6 f7 =>
        nf_M_runRow m_pegs z6 m_waitSum m_waitMost m_tipSum m_pegWalk m_singles m_hangs m_tips f7 m_freeAt x2 fun z8 z9 z10 f11 =>
        cB (x3 = 0)
          (Q z8 z6 z8 z9 z10 f7 f11)
          (cB (x3 = (ci 1))
            (Q z9 z6 z8 z9 z10 f7 f11)
            (Q z10 z6 z8 z9 z10 f7 f11)))))
def nf_M_nextRow (m_rowMany : Int) (m_row : (Int → Int))  (Q : Int → (Int → Int) → Prop) : Prop :=
  wO (iR (m_rowMany - (ci 2))) (m_rowMany - (ci 2)) fun v1 =>
  nlp1 (fun self3 (l1_2 : Int) =>
      jn0 (
          cB (0 ≤ l1_2)
            (wO (iR (m_rowMany - (ci 1))) (m_rowMany - (ci 1)) fun v5 =>
            nlp1 (fun self7 (l2_6 : Int) =>
                wO (inb l2_6 16) (m_row l2_6) fun v8 =>
                wO (inb l1_2 16) (m_row l1_2) fun v9 =>
                cB (v9 ≤ v8)
                  (wO (inb l1_2 16) (m_row l1_2) fun v10 =>
                  wO (inb l2_6 16) (m_row l2_6) fun v11 =>
                  wO (inb l1_2 16) (ups m_row l1_2 v11) fun f12 =>
                  wO (inb l2_6 16) (ups f12 l2_6 v10) fun f13 =>
                  wO (iR (l1_2 + (ci 1))) (l1_2 + (ci 1)) fun v14 =>
                  wO (iR (m_rowMany - (ci 1))) (m_rowMany - (ci 1)) fun v15 =>
                  nlp3 (fun self19 (l4_16 : Int) (l5_17 : Int) (z18 : (Int → Int)) =>
                      cB (l5_17 ≤ l4_16)
                        (Q (ci 1) z18)
                        (wO (inb l4_16 16) (z18 l4_16) fun v20 =>
                        wO (inb l5_17 16) (z18 l5_17) fun v21 =>
                        wO (inb l4_16 16) (ups z18 l4_16 v21) fun f22 =>
                        wO (inb l5_17 16) (ups f22 l5_17 v20) fun f23 =>
                        wO (iR (l4_16 + (ci 1))) (l4_16 + (ci 1)) fun v24 =>
                        wO (iR (l5_17 + (ci (-1)))) (l5_17 + (ci (-1))) fun v25 =>
                        self19 v24 v25 f23)) v14 v15 f13)
                  (wO (iR (l2_6 + (ci (-1)))) (l2_6 + (ci (-1))) fun v26 =>
                  self7 v26)) v5)
            (Q (ci 0) m_row)) fun j4 =>
      cB (l1_2 < 0)
        (j4 )
        (wO (inb l1_2 16) (m_row l1_2) fun v27 =>
        wO (iR (l1_2 + (ci 1))) (l1_2 + (ci 1)) fun v28 =>
        wO (inb v28 16) (m_row v28) fun v29 =>
        cB (v27 ≤ v29)
          (j4 )
          (wO (iR (l1_2 + (ci (-1)))) (l1_2 + (ci (-1))) fun v30 =>
          self3 v30))) v1
def nf_M_bestRow (m_pegs : Int) (m_guests : Int) (m_rowMany : Int) (m_waitSum : Int) (m_waitMost : Int) (m_tipSum : Int) (m_pegWalk : (Int → Int)) (m_singles : (Int → Int)) (m_hangs : (Int → Int)) (m_tips : (Int → Int)) (m_row : (Int → Int)) (m_freeAt : (Int → Int)) (m_bestRow : (Int → Int)) (x1 : Int) (x2 : Int) (x3 : Int) (Q : Int → Int → Int → Int → Int → (Int → Int) → (Int → Int) → (Int → Int) → Prop) : Prop :=
  nf_M_areHanging m_pegs m_guests m_hangs x1 fun r1 =>
  cB (r1 = 0)
    (Q (ci (-1001)) m_rowMany m_waitSum m_waitMost m_tipSum m_row m_freeAt m_bestRow)
    (wL x2 fun v2 =>
    nf_M_in  v2 (cl 1) (cl 4) fun r3 =>
    cB (r3 = 0)
      (Q (ci (-1002)) m_rowMany m_waitSum m_waitMost m_tipSum m_row m_freeAt m_bestRow)
      (nf_M_bits  x1 fun r4 =>
      cB (r4 ≤ (ci 7))
        (nf_M_fillRow m_guests m_rowMany m_row x1 fun z5 f6 =>
        nlp9 (fun self16 (l4_7 : Int) (l5_8 : Int) (l6_9 : Int) (z10 : Int) (z11 : Int) (z12 : Int) (z13 : (Int → Int)) (z14 : (Int → Int)) (z15 : (Int → Int)) =>
            cB (l6_9 = 0)
              (cB (x3 = (ci (-1)))
                (Q l4_7 z5 z10 z11 z12 z13 z14 z15)
                (wL x3 fun v17 =>
                wO (iR (z5 - (ci 1))) (z5 - (ci 1)) fun v18 =>
                wL v18 fun v19 =>
                nf_M_in  v17 (cl 0) v19 fun r20 =>
                cB (r20 = 0)
                  (Q (ci (-1)) z5 z10 z11 z12 z13 z14 z15)
                  (wO (inb x3 7) (z15 x3) fun v21 =>
                  Q v21 z5 z10 z11 z12 z13 z14 z15)))
              (nf_M_runRow m_pegs z5 z10 z11 z12 m_pegWalk m_singles m_hangs m_tips z13 z14 x2 fun z22 z23 z24 f25 =>
              jn3 (fun (l4_26 : Int) (l5_27 : Int) (z28 : (Int → Int)) =>
                  nf_M_nextRow z5 z13  fun r31 f30 =>
                  self16 l4_26 l5_27 r31 z22 z23 z24 f30 f25 z28) fun j29 =>
              jn0 (
                  nlp2 (fun self35 (l7_33 : Int) (z34 : (Int → Int)) =>
                      cB (z5 ≤ l7_33)
                        (j29 z24 z22 z34)
                        (wO (inb l7_33 16) (z13 l7_33) fun v36 =>
                        wO (inb l7_33 7) (ups z34 l7_33 v36) fun f37 =>
                        wO (iR (l7_33 + (ci 1))) (l7_33 + (ci 1)) fun v38 =>
                        self35 v38 f37)) (ci 0) z15) fun j32 =>
              cB (l4_7 < z24)
                (j32 )
                (cB (z24 = l4_7)
                  (cB (l5_8 ≤ z22)
                    (j29 l4_7 l5_8 z15)
                    (j32 ))
                  (j29 l4_7 l5_8 z15)))) (ci (-1)) (ci 0) (ci 1) m_waitSum m_waitMost m_tipSum f6 m_freeAt m_bestRow)
        (Q (ci (-1003)) m_rowMany m_waitSum m_waitMost m_tipSum m_row m_freeAt m_bestRow)))
def nf_M_wanted (m_pegs : Int) (m_guests : Int) (m_rowMany : Int) (m_waitSum : Int) (m_waitMost : Int) (m_tipSum : Int) (m_pegWalk : (Int → Int)) (m_singles : (Int → Int)) (m_hangs : (Int → Int)) (m_tips : (Int → Int)) (m_row : (Int → Int)) (m_freeAt : (Int → Int)) (x1 : Int) (x2 : Int) (Q : Int → Int → Int → Int → Int → (Int → Int) → (Int → Int) → Prop) : Prop :=
  nf_M_areHanging m_pegs m_guests m_hangs x1 fun r1 =>
  cB (r1 = 0)
    (Q (ci (-1001)) m_rowMany m_waitSum m_waitMost m_tipSum m_row m_freeAt)
    (wL x2 fun v2 =>
    nf_M_in  v2 (cl 0) (cl 9999) fun r3 =>
    cB (r3 = 0)
      (Q (ci (-1002)) m_rowMany m_waitSum m_waitMost m_tipSum m_row m_freeAt)
      (nf_M_fillRow m_guests m_rowMany m_row x1 fun z4 f5 =>
      nlp5 (fun self11 (l3_6 : Int) (z7 : Int) (z8 : Int) (z9 : Int) (z10 : (Int → Int)) =>
          cB ((ci 4) < l3_6)
            (Q (ci (-1)) z4 z7 z8 z9 f5 z10)
            (nf_M_runRow m_pegs z4 z7 z8 z9 m_pegWalk m_singles m_hangs m_tips f5 z10 l3_6 fun z12 z13 z14 f15 =>
            cB (x2 < z13)
              (wO (iR (l3_6 + (ci 1))) (l3_6 + (ci 1)) fun v16 =>
              self11 v16 z12 z13 z14 f15)
              (Q l3_6 z4 z12 z13 z14 f5 f15))) (ci 1) m_waitSum m_waitMost m_tipSum m_freeAt))
def nf_M_isClaim (m_claims : Int) (x1 : Int) (Q : Int → Prop) : Prop :=
  wL x1 fun v1 =>
  wO (iR (m_claims - (ci 1))) (m_claims - (ci 1)) fun v2 =>
  wL v2 fun v3 =>
  nf_M_in  v1 (cl 0) v3 fun r4 =>
  wO (bZ r4) r4 fun r9 => Q r9 
def nf_M_claim (m_guests : Int) (m_claims : Int) (m_brasses : (Int → Int)) (m_has : (Int → Int)) (m_claimGuest : (Int → Int)) (m_claimYes : (Int → Int)) (m_claimNo : (Int → Int)) (x1 : Int) (x2 : Int) (x3 : Int) (Q : Int → Int → (Int → Int) → (Int → Int) → (Int → Int) → Prop) : Prop :=
  nf_M_isGuest m_guests x1 fun r1 =>
  cB (r1 = 0)
    (Q (ci (-1001)) m_claims m_claimGuest m_claimYes m_claimNo)
    (wL x2 fun v2 =>
    nf_M_in  v2 (cl 0) (cl 255) fun r3 =>
    cB (r3 = 0)
      (Q (ci (-1002)) m_claims m_claimGuest m_claimYes m_claimNo)
      (wL x3 fun v4 =>
      nf_M_in  v4 (cl 0) (cl 255) fun r5 =>
      cB (r5 = 0)
        (Q (ci (-1002)) m_claims m_claimGuest m_claimYes m_claimNo)
        (wL (iand x2 x3) fun v6 =>
        cB (v6 = 0)
          (wO (inb x1 16) (m_brasses x1) fun v7 =>
          cB (0 ≤ v7)
            (Q (ci (-1003)) m_claims m_claimGuest m_claimYes m_claimNo)
            (wO (inb x1 16) (m_has x1) fun v8 =>
            cB (0 ≤ v8)
              (Q (ci (-1003)) m_claims m_claimGuest m_claimYes m_claimNo)
              (nf_M_hasClaim m_claims m_claimGuest x1 fun r9 =>
              cB (r9 = 0)
                (cB (m_claims = (ci 6))
                  (Q (ci (-1004)) m_claims m_claimGuest m_claimYes m_claimNo)
                  (wO (inb m_claims 6) (ups m_claimGuest m_claims x1) fun f10 =>
                  wO (inb m_claims 6) (ups m_claimYes m_claims x2) fun f11 =>
                  wO (inb m_claims 6) (ups m_claimNo m_claims x3) fun f12 =>
                  wO (iR (m_claims + (ci 1))) (m_claims + (ci 1)) fun v13 =>
                  wO (iR (v13 - (ci 1))) (v13 - (ci 1)) fun v14 =>
                  Q v14 v13 f10 f11 f12))
                (Q (ci (-1003)) m_claims m_claimGuest m_claimYes m_claimNo))))
          (Q (ci (-1002)) m_claims m_claimGuest m_claimYes m_claimNo))))
def nf_M_fitting (m_pegs : Int) (m_pegKind : (Int → Int)) (m_hangs : (Int → Int)) (m_marks : (Int → Int)) (x1 : Int) (x2 : Int) (x3 : Int) (Q : Int → Prop) : Prop :=
  nlp2 (fun self3 (l4_1 : Int) (l5_2 : Int) =>
      cB (m_pegs ≤ l5_2)
        (Q l4_1 )
        (wO (inb l5_2 24) (m_hangs l5_2) fun v4 =>
        jn1 (fun (t5 : Int) =>
            jn1 (fun (t7 : Int) =>
                jn1 (fun (t9 : Int) =>
                    wL (ior l4_1 t9) fun v11 =>
                    wO (iR (l5_2 + (ci 1))) (l5_2 + (ci 1)) fun v12 =>
                    self3 v11 v12) fun j10 =>
                jn0 (
                    j10 (ci 0)) fun j13 =>
                cB (t5 = 0)
                  (j13 )
                  (wL (ixor t7 (ci (-1))) fun v14 =>
                  wL (iand x2 v14) fun v15 =>
                  cB (v15 = 0)
                    (wL (iand x3 t7) fun v16 =>
                    cB (v16 = 0)
                      (wL (ishl (ci 1) v4) fun v17 =>
                      j10 v17)
                      (j13 ))
                    (j13 ))) fun j8 =>
            cB (t5 = 0)
              (j8 (ci 0))
              (wO (inb v4 16) (m_marks v4) fun v18 =>
              j8 v18)) fun j6 =>
        jn0 (
            j6 (ci 0)) fun j19 =>
        cB (v4 < 0)
          (j19 )
          (wO (inb l5_2 24) (m_pegKind l5_2) fun v20 =>
          cB (v20 = x1)
            (j6 (ci 1))
            (j19 )))) (ci 0) (ci 0)
def nf_M_fitsOf (m_pegs : Int) (m_pegKind : (Int → Int)) (m_hangs : (Int → Int)) (m_kinds : (Int → Int)) (m_marks : (Int → Int)) (m_claimGuest : (Int → Int)) (m_claimYes : (Int → Int)) (m_claimNo : (Int → Int)) (x1 : Int) (Q : Int → Prop) : Prop :=
  wO (inb x1 6) (m_claimGuest x1) fun v1 =>
  wO (inb v1 16) (m_kinds v1) fun v2 =>
  wO (inb x1 6) (m_claimYes x1) fun v3 =>
  wO (inb x1 6) (m_claimNo x1) fun v4 =>
  nf_M_fitting m_pegs m_pegKind m_hangs m_marks v2 v3 v4 fun r5 =>
  Q r5 
def nf_M_fits (m_pegs : Int) (m_claims : Int) (m_pegKind : (Int → Int)) (m_hangs : (Int → Int)) (m_kinds : (Int → Int)) (m_marks : (Int → Int)) (m_claimGuest : (Int → Int)) (m_claimYes : (Int → Int)) (m_claimNo : (Int → Int)) (x1 : Int) (Q : Int → Prop) : Prop :=
  nf_M_isClaim m_claims x1 fun r1 =>
  cB (r1 = 0)
    (Q (ci (-1001)) )
    (nf_M_fitsOf m_pegs m_pegKind m_hangs m_kinds m_marks m_claimGuest m_claimYes m_claimNo x1 fun r2 =>
    Q r2 )
def nf_M_waysWith (m_pegs : Int) (m_guests : Int) (m_claims : Int) (m_pegKind : (Int → Int)) (m_hangs : (Int → Int)) (m_kinds : (Int → Int)) (m_marks : (Int → Int)) (m_claimGuest : (Int → Int)) (m_claimYes : (Int → Int)) (m_claimNo : (Int → Int)) (m_waysTo : (Int → Int)) (x1 : Int) (x2 : Int) (Q : Int → (Int → Int) → Prop) : Prop :=
  wL (ishl (ci 1) m_claims) fun v1 =>
  wO (iR (v1 - (ci 1))) (v1 - (ci 1)) fun v2 =>
  nlp2 (fun self5 (l4_3 : Int) (z4 : (Int → Int)) =>
      cB (v2 < l4_3)
        (nlp2 (fun self8 (l4_6 : Int) (z7 : (Int → Int)) =>
            cB (m_guests ≤ l4_6)
              (wO (inb v2 64) (z7 v2) fun v9 =>
              Q v9 z7)
              (nlp2 (fun self12 (l5_10 : Int) (z11 : (Int → Int)) =>
                  cB (l5_10 < 0)
                    (wO (iR (l4_6 + (ci 1))) (l4_6 + (ci 1)) fun v13 =>
                    self8 v13 z11)
                    (nlp2 (fun self16 (l6_14 : Int) (z15 : (Int → Int)) =>
                        cB (m_claims ≤ l6_14)
                          (wO (iR (l5_10 + (ci (-1)))) (l5_10 + (ci (-1))) fun v17 =>
                          self12 v17 z15)
                          (wL (ishr l5_10 l6_14) fun v18 =>
                          wL (iand v18 (ci 1)) fun v19 =>
                          jn1 (fun (t20 : Int) =>
                              jn1 (fun (t22 : Int) =>
                                  wO (inb l5_10 64) (z15 l5_10) fun v24 =>
                                  jn1 (fun (t25 : Int) =>
                                      wO (lR (v24 + t25)) (v24 + t25) fun v27 =>
                                      wO (inb l5_10 64) (ups z15 l5_10 v27) fun f28 =>
                                      wO (iR (l6_14 + (ci 1))) (l6_14 + (ci 1)) fun v29 =>
                                      self16 v29 f28) fun j26 =>
                                  cB (t22 = 0)
                                    (j26 (cl 0))
                                    (wL (ishl (ci 1) l6_14) fun v30 =>
                                    wL (ixor l5_10 v30) fun v31 =>
                                    wO (inb v31 64) (z15 v31) fun v32 =>
                                    j26 v32)) fun j23 =>
                              jn0 (
                                  j23 (ci 0)) fun j33 =>
                              cB (t20 = 0)
                                (j33 )
                                (jn0 (
                                    j23 (ci 1)) fun j34 =>
                                cB (x1 < 0)
                                  (j34 )
                                  (jn1 (fun (t35 : Int) =>
                                      jn1 (fun (t37 : Int) =>
                                          cB (t35 = t37)
                                            (j34 )
                                            (j33 )) fun j38 =>
                                      cB (l4_6 = x2)
                                        (j38 (ci 1))
                                        (j38 (ci 0))) fun j36 =>
                                  cB (l6_14 = x1)
                                    (j36 (ci 1))
                                    (j36 (ci 0))))) fun j21 =>
                          jn0 (
                              j21 (ci 0)) fun j39 =>
                          cB (v19 = (ci 1))
                            (nf_M_fitsOf m_pegs m_pegKind m_hangs m_kinds m_marks m_claimGuest m_claimYes m_claimNo l6_14 fun r40 =>
                            wL (ishr r40 l4_6) fun v41 =>
                            wL (iand v41 (ci 1)) fun v42 =>
                            cB (v42 = (ci 1))
                              (j21 (ci 1))
                              (j39 ))
                            (j39 ))) (ci 0) z11)) v2 z7)) (ci 0) z4)
        (jn1 (fun (t43 : Int) =>
            wO (inb l4_3 64) (ups z4 l4_3 t43) fun f45 =>
            wO (iR (l4_3 + (ci 1))) (l4_3 + (ci 1)) fun v46 =>
            self5 v46 f45) fun j44 =>
        cB (l4_3 = 0)
          (j44 (cl 1))
          (j44 (cl 0)))) (ci 0) m_waysTo
def nf_M_ways (m_pegs : Int) (m_guests : Int) (m_claims : Int) (m_pegKind : (Int → Int)) (m_hangs : (Int → Int)) (m_kinds : (Int → Int)) (m_marks : (Int → Int)) (m_claimGuest : (Int → Int)) (m_claimYes : (Int → Int)) (m_claimNo : (Int → Int)) (m_waysTo : (Int → Int))  (Q : Int → (Int → Int) → Prop) : Prop :=
  nf_M_waysWith m_pegs m_guests m_claims m_pegKind m_hangs m_kinds m_marks m_claimGuest m_claimYes m_claimNo m_waysTo (ci (-1)) (ci (-1)) fun r2 f1 =>
  Q r2 f1
def nf_M_sureOf (m_pegs : Int) (m_guests : Int) (m_claims : Int) (m_pegKind : (Int → Int)) (m_hangs : (Int → Int)) (m_kinds : (Int → Int)) (m_marks : (Int → Int)) (m_claimGuest : (Int → Int)) (m_claimYes : (Int → Int)) (m_claimNo : (Int → Int)) (m_waysTo : (Int → Int)) (x1 : Int) (Q : Int → (Int → Int) → Prop) : Prop :=
  nf_M_waysWith m_pegs m_guests m_claims m_pegKind m_hangs m_kinds m_marks m_claimGuest m_claimYes m_claimNo m_waysTo (ci (-1)) (ci (-1)) fun r2 f1 =>
  nlp3 (fun self6 (l4_3 : Int) (l5_4 : Int) (z5 : (Int → Int)) =>
      cB (m_guests ≤ l5_4)
        (Q l4_3 z5)
        (wL (lcm3 r2 (cl 0)) fun v7 =>
        cB (v7 ≤ 0)
          (Q l4_3 z5)
          (nf_M_fitsOf m_pegs m_pegKind m_hangs m_kinds m_marks m_claimGuest m_claimYes m_claimNo x1 fun r8 =>
          wL (ishr r8 l5_4) fun v9 =>
          wL (iand v9 (ci 1)) fun v10 =>
          jn2 (fun (z11 : (Int → Int)) (t12 : Int) =>
              jn1 (fun (t14 : Int) =>
                  wO (iR (l5_4 + (ci 1))) (l5_4 + (ci 1)) fun v16 =>
                  self6 t14 v16 z11) fun j15 =>
              cB (t12 = 0)
                (j15 l4_3)
                (j15 l5_4)) fun j13 =>
          jn1 (fun (z17 : (Int → Int)) =>
              j13 z17 (ci 0)) fun j18 =>
          cB (v10 = (ci 1))
            (nf_M_waysWith m_pegs m_guests m_claims m_pegKind m_hangs m_kinds m_marks m_claimGuest m_claimYes m_claimNo z5 x1 l5_4 fun r20 f19 =>
            wL (lcm3 r20 r2) fun v21 =>
            cB (v21 = 0)
              (j13 f19 (ci 1))
              (j18 f19))
            (j18 z5)))) (ci (-1)) (ci 0) f1
def nf_M_sure (m_pegs : Int) (m_guests : Int) (m_claims : Int) (m_pegKind : (Int → Int)) (m_hangs : (Int → Int)) (m_kinds : (Int → Int)) (m_marks : (Int → Int)) (m_claimGuest : (Int → Int)) (m_claimYes : (Int → Int)) (m_claimNo : (Int → Int)) (m_waysTo : (Int → Int)) (x1 : Int) (Q : Int → (Int → Int) → Prop) : Prop :=
  nf_M_isClaim m_claims x1 fun r1 =>
  cB (r1 = 0)
    (Q (ci (-1001)) m_waysTo)
    (nf_M_sureOf m_pegs m_guests m_claims m_pegKind m_hangs m_kinds m_marks m_claimGuest m_claimYes m_claimNo m_waysTo x1 fun r3 f2 =>
    Q r3 f2)
def nf_M_grant (m_pegs : Int) (m_guests : Int) (m_claims : Int) (m_pegKind : (Int → Int)) (m_hangs : (Int → Int)) (m_kinds : (Int → Int)) (m_marks : (Int → Int)) (m_has : (Int → Int)) (m_claimGuest : (Int → Int)) (m_claimYes : (Int → Int)) (m_claimNo : (Int → Int)) (m_waysTo : (Int → Int)) (x1 : Int) (Q : Int → Int → (Int → Int) → (Int → Int) → (Int → Int) → (Int → Int) → (Int → Int) → (Int → Int) → Prop) : Prop :=
  nf_M_isClaim m_claims x1 fun r1 =>
  cB (r1 = 0)
    (Q (ci (-1001)) m_claims m_hangs m_has m_claimGuest m_claimYes m_claimNo m_waysTo)
    (nf_M_sureOf m_pegs m_guests m_claims m_pegKind m_hangs m_kinds m_marks m_claimGuest m_claimYes m_claimNo m_waysTo x1 fun r3 f2 =>
    cB (0 ≤ r3)
      (wO (inb x1 6) (m_claimGuest x1) fun v4 =>
      wO (inb v4 16) (ups m_has v4 r3) fun f5 =>
      nf_M_pegOf m_pegs m_hangs r3 fun r6 =>
      wO (inb r6 24) (ups m_hangs r6 (ci (-1))) fun f7 =>
      nlp4 (fun self12 (l3_8 : Int) (z9 : (Int → Int)) (z10 : (Int → Int)) (z11 : (Int → Int)) =>
          wO (iR (l3_8 + (ci 1))) (l3_8 + (ci 1)) fun v13 =>
          cB (m_claims ≤ v13)
            (wO (iR (m_claims - (ci 1))) (m_claims - (ci 1)) fun v14 =>
            Q r3 v14 f7 f5 z9 z10 z11 f2)
            (wO (iR (l3_8 + (ci 1))) (l3_8 + (ci 1)) fun v15 =>
            wO (inb v15 6) (z9 v15) fun v16 =>
            wO (inb l3_8 6) (ups z9 l3_8 v16) fun f17 =>
            wO (iR (l3_8 + (ci 1))) (l3_8 + (ci 1)) fun v18 =>
            wO (inb v18 6) (z10 v18) fun v19 =>
            wO (inb l3_8 6) (ups z10 l3_8 v19) fun f20 =>
            wO (iR (l3_8 + (ci 1))) (l3_8 + (ci 1)) fun v21 =>
            wO (inb v21 6) (z11 v21) fun v22 =>
            wO (inb l3_8 6) (ups z11 l3_8 v22) fun f23 =>
            wO (iR (l3_8 + (ci 1))) (l3_8 + (ci 1)) fun v24 =>
            self12 v24 f17 f20 f23)) x1 m_claimGuest m_claimYes m_claimNo)
      (Q (ci (-1003)) m_claims m_hangs m_has m_claimGuest m_claimYes m_claimNo f2))
def nf_M_apart (m_guests : Int) (m_marks : (Int → Int)) (x1 : Int) (x2 : Int) (Q : Int → Prop) : Prop :=
  nf_M_isGuest m_guests x1 fun r1 =>
  cB (r1 = 0)
    (Q (ci (-1001)) )
    (nf_M_isGuest m_guests x2 fun r2 =>
    cB (r2 = 0)
      (Q (ci (-1001)) )
      (wO (inb x1 16) (m_marks x1) fun v3 =>
      wO (inb x2 16) (m_marks x2) fun v4 =>
      wL (ixor v3 v4) fun v5 =>
      Q v5 ))
def nf_M_asks (m_pegs : Int) (m_claims : Int) (m_pegKind : (Int → Int)) (m_hangs : (Int → Int)) (m_kinds : (Int → Int)) (m_marks : (Int → Int)) (m_claimGuest : (Int → Int)) (m_claimYes : (Int → Int)) (m_claimNo : (Int → Int)) (x1 : Int) (Q : Int → Prop) : Prop :=
  nf_M_isClaim m_claims x1 fun r1 =>
  cB (r1 = 0)
    (Q (ci (-1001)) )
    (wO (inb x1 6) (m_claimGuest x1) fun v2 =>
    nlp2 (fun self5 (l3_3 : Int) (l4_4 : Int) =>
        cB ((ci 256) ≤ l4_4)
          (Q l3_3 )
          (wO (inb v2 16) (m_kinds v2) fun v6 =>
          wO (inb x1 6) (m_claimYes x1) fun v7 =>
          wO (inb v2 16) (m_marks v2) fun v8 =>
          wL (iand v8 l4_4) fun v9 =>
          wL (ior v7 v9) fun v10 =>
          wO (inb x1 6) (m_claimNo x1) fun v11 =>
          wO (inb v2 16) (m_marks v2) fun v12 =>
          wL (ixor v12 (ci (-1))) fun v13 =>
          wL (iand v13 l4_4) fun v14 =>
          wL (ior v11 v14) fun v15 =>
          nf_M_fitting m_pegs m_pegKind m_hangs m_marks v6 v10 v15 fun r16 =>
          nf_M_bits  r16 fun r17 =>
          jn1 (fun (t18 : Int) =>
              wO (iR (l4_4 + (ci 1))) (l4_4 + (ci 1)) fun v20 =>
              self5 t18 v20) fun j19 =>
          jn0 (
              j19 l3_3) fun j21 =>
          cB (r17 = (ci 1))
            (jn0 (
                j19 l4_4) fun j22 =>
            cB (l3_3 < 0)
              (j22 )
              (nf_M_bits  l4_4 fun r23 =>
              nf_M_bits  l3_3 fun r24 =>
              cB (r24 ≤ r23)
                (j21 )
                (j22 )))
            (j21 ))) (ci (-1)) (ci 0))
def nf_M_note (m_imageAt : Int) (m_images : (Int → Int)) (x1 : Int) (Q : Int → (Int → Int) → Prop) : Prop :=
  wO (inb m_imageAt 1800) (ups m_images m_imageAt x1) fun f1 =>
  wO (iR (m_imageAt + (ci 1))) (m_imageAt + (ci 1)) fun v2 =>
  Q v2 f1
def nf_M_noted (m_imageAt : Int) (m_images : (Int → Int))  (Q : Int → Int → Prop) : Prop :=
  wO (iR (m_imageAt + (ci 1))) (m_imageAt + (ci 1)) fun v1 =>
  wO (iR (v1 - (ci 1))) (v1 - (ci 1)) fun v2 =>
  wO (inb v2 1800) (m_images v2) fun v3 =>
  Q v3 v1
def nf_M_keep (m_halls : Int) (m_guests : Int) (m_nights : Int) (m_events : Int) (m_claims : Int) (m_imageAt : Int) (m_hangs : (Int → Int)) (m_sorts : (Int → Int)) (m_kinds : (Int → Int)) (m_tips : (Int → Int)) (m_marks : (Int → Int)) (m_brasses : (Int → Int)) (m_has : (Int → Int)) (m_hungBy : (Int → Int)) (m_plays : (Int → Int)) (m_weathers : (Int → Int)) (m_lefts : (Int → Int)) (m_eventRow : (Int → Int)) (m_claimGuest : (Int → Int)) (m_claimYes : (Int → Int)) (m_claimNo : (Int → Int)) (m_images : (Int → Int)) (m_isKept : (Int → Int)) (x1 : Int) (Q : Int → Int → (Int → Int) → (Int → Int) → Prop) : Prop :=
  wL x1 fun v1 =>
  nf_M_in  v1 (cl 0) (cl 1) fun r2 =>
  cB (r2 = 0)
    (Q (ci (-1001)) m_imageAt m_images m_isKept)
    (wO (iR ((ci 900) * x1)) ((ci 900) * x1) fun v3 =>
    nf_M_note v3 m_images m_halls fun z4 f5 =>
    nf_M_note z4 f5 m_guests fun z6 f7 =>
    nf_M_note z6 f7 m_events fun z8 f9 =>
    nf_M_note z8 f9 m_claims fun z10 f11 =>
    nf_M_note z10 f11 m_nights fun z12 f13 =>
    nlp3 (fun self17 (l2_14 : Int) (z15 : Int) (z16 : (Int → Int)) =>
        cB ((ci 16) ≤ l2_14)
          (nlp3 (fun self21 (l2_18 : Int) (z19 : Int) (z20 : (Int → Int)) =>
              cB ((ci 24) ≤ l2_18)
                (nlp3 (fun self25 (l2_22 : Int) (z23 : Int) (z24 : (Int → Int)) =>
                    cB ((ci 420) ≤ l2_22)
                      (nlp3 (fun self29 (l2_26 : Int) (z27 : Int) (z28 : (Int → Int)) =>
                          cB ((ci 6) ≤ l2_26)
                            (nlp3 (fun self33 (l2_30 : Int) (z31 : Int) (z32 : (Int → Int)) =>
                                cB ((ci 60) ≤ l2_30)
                                  (wO (bZ (ci 1) ∧ inb x1 2) (ups m_isKept x1 (ci 1)) fun f34 =>
                                  Q (ci 1) z31 z32 f34)
                                  (wO (inb l2_30 60) (m_plays l2_30) fun v35 =>
                                  nf_M_note z31 z32 v35 fun z36 f37 =>
                                  wO (inb l2_30 60) (m_weathers l2_30) fun v38 =>
                                  nf_M_note z36 f37 v38 fun z39 f40 =>
                                  wO (iR ((ci 3) * l2_30)) ((ci 3) * l2_30) fun v41 =>
                                  wO (inb v41 180) (m_lefts v41) fun v42 =>
                                  nf_M_note z39 f40 v42 fun z43 f44 =>
                                  wO (iR ((ci 3) * l2_30)) ((ci 3) * l2_30) fun v45 =>
                                  wO (iR (v45 + (ci 1))) (v45 + (ci 1)) fun v46 =>
                                  wO (inb v46 180) (m_lefts v46) fun v47 =>
                                  nf_M_note z43 f44 v47 fun z48 f49 =>
                                  wO (iR ((ci 3) * l2_30)) ((ci 3) * l2_30) fun v50 =>
                                  wO (iR (v50 + (ci 2))) (v50 + (ci 2)) fun v51 =>
                                  wO (inb v51 180) (m_lefts v51) fun v52 =>
                                  nf_M_note z48 f49 v52 fun z53 f54 =>
                                  wO (iR (l2_30 + (ci 1))) (l2_30 + (ci 1)) fun v55 =>
                                  self33 v55 z53 f54)) (ci 0) z27 z28)
                            (wO (inb l2_26 6) (m_claimGuest l2_26) fun v56 =>
                            nf_M_note z27 z28 v56 fun z57 f58 =>
                            wO (inb l2_26 6) (m_claimYes l2_26) fun v59 =>
                            nf_M_note z57 f58 v59 fun z60 f61 =>
                            wO (inb l2_26 6) (m_claimNo l2_26) fun v62 =>
                            nf_M_note z60 f61 v62 fun z63 f64 =>
                            wO (iR (l2_26 + (ci 1))) (l2_26 + (ci 1)) fun v65 =>
                            self29 v65 z63 f64)) (ci 0) z23 z24)
                      (wO (inb l2_22 420) (m_eventRow l2_22) fun v66 =>
                      nf_M_note z23 z24 v66 fun z67 f68 =>
                      wO (iR (l2_22 + (ci 1))) (l2_22 + (ci 1)) fun v69 =>
                      self25 v69 z67 f68)) (ci 0) z19 z20)
                (wO (inb l2_18 24) (m_hangs l2_18) fun v70 =>
                nf_M_note z19 z20 v70 fun z71 f72 =>
                wO (iR (l2_18 + (ci 1))) (l2_18 + (ci 1)) fun v73 =>
                self21 v73 z71 f72)) (ci 0) z15 z16)
          (wO (inb l2_14 16) (m_sorts l2_14) fun v74 =>
          nf_M_note z15 z16 v74 fun z75 f76 =>
          wO (inb l2_14 16) (m_kinds l2_14) fun v77 =>
          nf_M_note z75 f76 v77 fun z78 f79 =>
          wO (inb l2_14 16) (m_tips l2_14) fun v80 =>
          nf_M_note z78 f79 v80 fun z81 f82 =>
          wO (inb l2_14 16) (m_marks l2_14) fun v83 =>
          nf_M_note z81 f82 v83 fun z84 f85 =>
          wO (inb l2_14 16) (m_brasses l2_14) fun v86 =>
          nf_M_note z84 f85 v86 fun z87 f88 =>
          wO (inb l2_14 16) (m_has l2_14) fun v89 =>
          nf_M_note z87 f88 v89 fun z90 f91 =>
          wO (inb l2_14 16) (m_hungBy l2_14) fun v92 =>
          nf_M_note z90 f91 v92 fun z93 f94 =>
          wO (iR (l2_14 + (ci 1))) (l2_14 + (ci 1)) fun v95 =>
          self17 v95 z93 f94)) (ci 0) z12 f13)
def nf_M_goBack (m_halls : Int) (m_guests : Int) (m_nights : Int) (m_events : Int) (m_claims : Int) (m_imageAt : Int) (m_hangs : (Int → Int)) (m_sorts : (Int → Int)) (m_kinds : (Int → Int)) (m_tips : (Int → Int)) (m_marks : (Int → Int)) (m_brasses : (Int → Int)) (m_has : (Int → Int)) (m_hungBy : (Int → Int)) (m_plays : (Int → Int)) (m_weathers : (Int → Int)) (m_lefts : (Int → Int)) (m_eventRow : (Int → Int)) (m_claimGuest : (Int → Int)) (m_claimYes : (Int → Int)) (m_claimNo : (Int → Int)) (m_images : (Int → Int)) (m_isKept : (Int → Int)) (x1 : Int) (Q : Int → Int → Int → Int → Int → Int → (Int → Int) → (Int → Int) → (Int → Int) → (Int → Int) → (Int → Int) → (Int → Int) → (Int → Int) → (Int → Int) → (Int → Int) → (Int → Int) → (Int → Int) → (Int → Int) → (Int → Int) → (Int → Int) → (Int → Int) → Prop) : Prop :=
  wL x1 fun v1 =>
  nf_M_in  v1 (cl 0) (cl 1) fun r2 =>
  cB (r2 = 0)
    (Q (ci (-1001)) m_guests m_nights m_events m_claims m_imageAt m_hangs m_sorts m_kinds m_tips m_marks m_brasses m_has m_hungBy m_plays m_weathers m_lefts m_eventRow m_claimGuest m_claimYes m_claimNo)
    (wO (iR ((ci 900) * x1)) ((ci 900) * x1) fun v3 =>
    wO (inb x1 2) (m_isKept x1) fun v4 =>
    cB (v4 = 0)
      (Q (ci (-1003)) m_guests m_nights m_events m_claims v3 m_hangs m_sorts m_kinds m_tips m_marks m_brasses m_has m_hungBy m_plays m_weathers m_lefts m_eventRow m_claimGuest m_claimYes m_claimNo)
      (nf_M_noted v3 m_images  fun r6 z5 =>
      cB (r6 = m_halls)
        (nf_M_noted z5 m_images  fun r8 z7 =>
        nf_M_noted z7 m_images  fun r10 z9 =>
        nf_M_noted z9 m_images  fun r12 z11 =>
        nf_M_noted z11 m_images  fun r14 z13 =>
        nlp9 (fun self24 (l2_15 : Int) (z16 : Int) (z17 : (Int → Int)) (z18 : (Int → Int)) (z19 : (Int → Int)) (z20 : (Int → Int)) (z21 : (Int → Int)) (z22 : (Int → Int)) (z23 : (Int → Int)) =>
            cB ((ci 16) ≤ l2_15)
              (nlp3 (fun self28 (l2_25 : Int) (z26 : Int) (z27 : (Int → Int)) =>
                  cB ((ci 24) ≤ l2_25)
                    (nlp3 (fun self32 (l2_29 : Int) (z30 : Int) (z31 : (Int → Int)) =>
                        cB ((ci 420) ≤ l2_29)
                          (nlp5 (fun self38 (l2_33 : Int) (z34 : Int) (z35 : (Int → Int)) (z36 : (Int → Int)) (z37 : (Int → Int)) =>
                              cB ((ci 6) ≤ l2_33)
                                (nlp5 (fun self44 (l2_39 : Int) (z40 : Int) (z41 : (Int → Int)) (z42 : (Int → Int)) (z43 : (Int → Int)) =>
                                    cB ((ci 60) ≤ l2_39)
                                      (Q (ci 1) r8 r14 r10 r12 z40 z27 z17 z18 z19 z20 z21 z22 z23 z41 z42 z43 z31 z35 z36 z37)
                                      (nf_M_noted z40 m_images  fun r46 z45 =>
                                      wO (inb l2_39 60) (ups z41 l2_39 r46) fun f47 =>
                                      nf_M_noted z45 m_images  fun r49 z48 =>
                                      wO (inb l2_39 60) (ups z42 l2_39 r49) fun f50 =>
                                      wO (iR ((ci 3) * l2_39)) ((ci 3) * l2_39) fun v51 =>
                                      nf_M_noted z48 m_images  fun r53 z52 =>
                                      wO (inb v51 180) (ups z43 v51 r53) fun f54 =>
                                      wO (iR ((ci 3) * l2_39)) ((ci 3) * l2_39) fun v55 =>
                                      wO (iR (v55 + (ci 1))) (v55 + (ci 1)) fun v56 =>
                                      nf_M_noted z52 m_images  fun r58 z57 =>
                                      wO (inb v56 180) (ups f54 v56 r58) fun f59 =>
                                      wO (iR ((ci 3) * l2_39)) ((ci 3) * l2_39) fun v60 =>
                                      wO (iR (v60 + (ci 2))) (v60 + (ci 2)) fun v61 =>
                                      nf_M_noted z57 m_images  fun r63 z62 =>
                                      wO (inb v61 180) (ups f59 v61 r63) fun f64 =>
                                      wO (iR (l2_39 + (ci 1))) (l2_39 + (ci 1)) fun v65 =>
                                      self44 v65 z62 f47 f50 f64)) (ci 0) z34 m_plays m_weathers m_lefts)
                                (nf_M_noted z34 m_images  fun r67 z66 =>
                                wO (inb l2_33 6) (ups z35 l2_33 r67) fun f68 =>
                                nf_M_noted z66 m_images  fun r70 z69 =>
                                wO (inb l2_33 6) (ups z36 l2_33 r70) fun f71 =>
                                nf_M_noted z69 m_images  fun r73 z72 =>
                                wO (inb l2_33 6) (ups z37 l2_33 r73) fun f74 =>
                                wO (iR (l2_33 + (ci 1))) (l2_33 + (ci 1)) fun v75 =>
                                self38 v75 z72 f68 f71 f74)) (ci 0) z30 m_claimGuest m_claimYes m_claimNo)
                          (nf_M_noted z30 m_images  fun r77 z76 =>
                          wO (inb l2_29 420) (ups z31 l2_29 r77) fun f78 =>
                          wO (iR (l2_29 + (ci 1))) (l2_29 + (ci 1)) fun v79 =>
                          self32 v79 z76 f78)) (ci 0) z26 m_eventRow)
                    (nf_M_noted z26 m_images  fun r81 z80 =>
                    wO (inb l2_25 24) (ups z27 l2_25 r81) fun f82 =>
                    wO (iR (l2_25 + (ci 1))) (l2_25 + (ci 1)) fun v83 =>
                    self28 v83 z80 f82)) (ci 0) z16 m_hangs)
              (nf_M_noted z16 m_images  fun r85 z84 =>
              wO (inb l2_15 16) (ups z17 l2_15 r85) fun f86 =>
              nf_M_noted z84 m_images  fun r88 z87 =>
              wO (inb l2_15 16) (ups z18 l2_15 r88) fun f89 =>
              nf_M_noted z87 m_images  fun r91 z90 =>
              wO (inb l2_15 16) (ups z19 l2_15 r91) fun f92 =>
              nf_M_noted z90 m_images  fun r94 z93 =>
              wO (inb l2_15 16) (ups z20 l2_15 r94) fun f95 =>
              nf_M_noted z93 m_images  fun r97 z96 =>
              wO (inb l2_15 16) (ups z21 l2_15 r97) fun f98 =>
              nf_M_noted z96 m_images  fun r100 z99 =>
              wO (inb l2_15 16) (ups z22 l2_15 r100) fun f101 =>
              nf_M_noted z99 m_images  fun r103 z102 =>
              wO (inb l2_15 16) (ups z23 l2_15 r103) fun f104 =>
              wO (iR (l2_15 + (ci 1))) (l2_15 + (ci 1)) fun v105 =>
              self24 v105 z102 f86 f89 f92 f95 f98 f101 f104)) (ci 0) z13 m_sorts m_kinds m_tips m_marks m_brasses m_has m_hungBy)
        (Q (ci (-1003)) m_guests m_nights m_events m_claims z5 m_hangs m_sorts m_kinds m_tips m_marks m_brasses m_has m_hungBy m_plays m_weathers m_lefts m_eventRow m_claimGuest m_claimYes m_claimNo)))
