def f_X1_hasRoomFor_j17 (z0 : Int32) (u : St) : Option (Int32) :=
  bchk z0 (
  some z0)
def f_X1_hasRoomFor (p0 : Int32) (u : St) : Option (Int32) :=
  if (400 - (u 1 0)) < p0 then (
    f_X1_hasRoomFor_j17 0 u)
  else (
    f_X1_hasRoomFor_j17 1 u)
def f_X1_append_b7 (x2 : Int32) (a : Int32 × St) : Option (((St) ⊕ (St)) ⊕ (Int32 × St)) :=
  if a.1 < 0 then (
    some (.inl (.inr a.2)))
  else (
    chk 400 (a.2 1 0) (
    some (.inr ((a.1 + (-8)), (up (up a.2 22 (Int32.toNatClampNeg (a.2 1 0)) (((Int32.toUInt32 x2 >>> (Int32.toUInt32 a.1 &&& Int32.toUInt32 31)).toInt32) &&& 255)) 1 0 ((a.2 1 0) + 1))))))
def f_X1_append (p0 : Int32) (p1 : Int32) (u : St) : Option (St) :=
  (loopF (f_X1_append_b7 p1) FU ((8 * (p0 - 1)), u)).bind fun q30 => Sum.elim (fun q3 => some q3) (fun q3 =>
    some q3) q30
def f_X6_put_j17 (x1 : Int32) (x2 : Int32) (u : St) : Option (Int32 × St) :=
  (f_X1_hasRoomFor x1 u).bind fun q2 => (
  if q2 = 0 then (
    some ((-2), u))
  else (
    (f_X1_append x1 x2 u).bind fun q4 => (
    some ((q4 1 0), q4))))
def f_X6_put (p0 : Int32) (p1 : Int32) (u : St) : Option (Int32 × St) :=
  if p0 = 1 then (
    f_X6_put_j17 p0 p1 u)
  else (
    if p0 = 2 then (
      f_X6_put_j17 p0 p1 u)
    else (
      if p0 = 4 then (
        f_X6_put_j17 p0 p1 u)
      else (
        some ((-1), u))))
def f_X6_text_j10 (u : St) : Option (Int32 × St) :=
  some ((-1), u)
def f_X6_text_b49 (x1 : Int32) (x2 : Int64) (a : Int32 × St) : Option (((Int32 × St) ⊕ (St)) ⊕ (Int32 × St)) :=
  if x1 ≤ a.1 then (
    some (.inl (.inr a.2)))
  else (
    (f_X1_append 1 (((Int64.toUInt64 x2 >>> ((Int32.toInt64 (8 * a.1)).toUInt64 &&& Int64.toUInt64 63)).toInt64).toInt32) a.2).bind fun q8 => (
    some (.inr ((a.1 + 1), q8))))
def f_X6_text (p0 : Int32) (p1 : Int64) (u : St) : Option (Int32 × St) :=
  if p0 < 0 then (
    f_X6_text_j10 u)
  else (
    if p0 ≤ 8 then (
      (f_X1_hasRoomFor (3 + p0) u).bind fun q3 => (
      if q3 = 0 then (
        some ((-2), u))
      else (
        (f_X1_append 1 1 u).bind fun q5 => (
        (f_X1_append 2 p0 q5).bind fun q6 => (
        (loopF (f_X6_text_b49 p0 p1) FU (0, q6)).bind fun q90 => Sum.elim (fun q9 => some q9) (fun q9 =>
          some ((q9 1 0), q9)) q90)))))
    else (
      f_X6_text_j10 u))
def f_X1_holds_j19 (z0 : Int32) (u : St) : Option (Int32) :=
  bchk z0 (
  some z0)
def f_X1_holds_j18 (u : St) : Option (Int32) :=
  f_X1_holds_j19 0 u
def f_X1_holds (p0 : Int32) (p1 : Int32) (u : St) : Option (Int32) :=
  if p0 < 0 then (
    f_X1_holds_j18 u)
  else (
    if ((u 1 0) - p0) < p1 then (
      f_X1_holds_j18 u)
    else (
      f_X1_holds_j19 1 u))
def f_X6_patch (p0 : Int32) (p1 : Int32) (u : St) : Option (Int32 × St) :=
  (f_X1_holds p0 1 u).bind fun q1 => (
  if q1 = 0 then (
    some ((-1), u))
  else (
    chk 400 p0 (
    chk 400 p0 (
    some (((u 22) (Int32.toNatClampNeg p0)), (up u 22 (Int32.toNatClampNeg p0) (p1 &&& 255)))))))
def f_X1_close (p0 : Int32) (p1 : Int32) (u : St) : Option (St) :=
  cchk (p0 + p1) p0 (((u 1 0) - p0) - p1) 400 400 (
  some (up (upA u 22 (va_cpy (u 22) (u 22) (Int32.toNatClampNeg (p0 + p1)) (Int32.toNatClampNeg p0) (Int32.toNatClampNeg (((u 1 0) - p0) - p1)))) 1 0 ((u 1 0) - p1)))
def f_X6_cut_j17 (u : St) : Option (Int32 × St) :=
  some ((-1), u)
def f_X6_cut (p0 : Int32) (p1 : Int32) (u : St) : Option (Int32 × St) :=
  if p1 < 1 then (
    f_X6_cut_j17 u)
  else (
    (f_X1_holds p0 p1 u).bind fun q2 => (
    if q2 = 0 then (
      f_X6_cut_j17 u)
    else (
      (f_X1_close p0 p1 u).bind fun q4 => (
      some ((q4 1 0), q4)))))
def f_X1_open (p0 : Int32) (p1 : Int32) (u : St) : Option (St) :=
  cchk p0 (p0 + p1) ((u 1 0) - p0) 400 400 (
  some (up (upA u 22 (va_cpy (u 22) (u 22) (Int32.toNatClampNeg p0) (Int32.toNatClampNeg (p0 + p1)) (Int32.toNatClampNeg ((u 1 0) - p0)))) 1 0 ((u 1 0) + p1)))
def f_X6_twice_j17 (u : St) : Option (Int32 × St) :=
  some ((-1), u)
def f_X6_twice (p0 : Int32) (p1 : Int32) (u : St) : Option (Int32 × St) :=
  if p1 < 1 then (
    f_X6_twice_j17 u)
  else (
    (f_X1_holds p0 p1 u).bind fun q2 => (
    if q2 = 0 then (
      f_X6_twice_j17 u)
    else (
      (f_X1_hasRoomFor p1 u).bind fun q4 => (
      if q4 = 0 then (
        some ((-2), u))
      else (
        (f_X1_open p0 p1 u).bind fun q6 => (
        some ((q6 1 0), q6)))))))
def f_X6_clear (u : St) : Option (Int32 × St) :=
  some ((u 1 0), (up u 1 0 0))
def f_X5_release (u : St) : Option (St) :=
  some (up (up (up u 5 0 (u 1 0)) 6 0 1) 7 0 (u 1 0))
def f_X5_restart (u : St) : Option (St) :=
  (f_X5_release (up (up (up u 2 0 0) 3 0 0) 4 0 0)).bind fun q1 => (
  some q1)
def f_X4_forget (u : St) : Option (St) :=
  some (up u 8 0 0)
def f_X5_step_j17 (u : St) : Option (Int32 × St) :=
  some (0, (up (up u 2 0 (u 6 0)) 3 0 (u 7 0)))
def f_X5_step (p0 : Int32) (u : St) : Option (Int32 × St) :=
  if p0 < 0 then (
    f_X5_step_j17 u)
  else (
    if p0 ≤ ((u 5 0) - (u 4 0)) then (
      some (1, (up u 4 0 ((u 4 0) + p0))))
    else (
      f_X5_step_j17 u))
def f_X1_u4 (p0 : Int32) (u : St) : Option (Int32) :=
  chk 400 p0 (
  chk 400 (p0 + 1) (
  chk 400 (p0 + 2) (
  chk 400 (p0 + 3) (
  some ((((((u 22) (Int32.toNatClampNeg p0)) <<< ((24 : Int32) &&& 31)) ||| (((u 22) (Int32.toNatClampNeg (p0 + 1))) <<< ((16 : Int32) &&& 31))) ||| (((u 22) (Int32.toNatClampNeg (p0 + 2))) <<< ((8 : Int32) &&& 31))) ||| ((u 22) (Int32.toNatClampNeg (p0 + 3))))))))
def f_X1_u2 (p0 : Int32) (u : St) : Option (Int32) :=
  chk 400 p0 (
  chk 400 (p0 + 1) (
  some ((((u 22) (Int32.toNatClampNeg p0)) <<< ((8 : Int32) &&& 31)) ||| ((u 22) (Int32.toNatClampNeg (p0 + 1))))))
def f_X5_broken (p0 : Int32) (p1 : Int32) (u : St) : Option (Int32 × St) :=
  some (0, (up (up u 2 0 p0) 3 0 p1))
def f_X2_readHead_j89 (z0 : Int32) (u : St) : Option (Int32 × St) :=
  bchk z0 (
  some (z0, u))
def f_X2_readHead_j84 (u : St) : Option (Int32 × St) :=
  f_X2_readHead_j89 1 u
def f_X2_readHead_j71 (u : St) : Option (Int32 × St) :=
  (f_X5_broken 3 6 u).bind fun q9 => (
  if q9.1 = 0 then (
    f_X2_readHead_j89 0 q9.2)
  else (
    f_X2_readHead_j84 q9.2))
def f_X2_readHead (u : St) : Option (Int32 × St) :=
  (f_X5_step 4 u).bind fun q1 => (
  if q1.1 = 0 then (
    some (0, q1.2))
  else (
    (f_X1_u4 0 q1.2).bind fun q3 => (
    if q3 = (-889275714) then (
      (f_X5_step 4 q1.2).bind fun q5 => (
      if q5.1 = 0 then (
        some (0, q5.2))
      else (
        (f_X1_u2 6 q5.2).bind fun q7 => (
        if q7 < 45 then (
          f_X2_readHead_j71 q5.2)
        else (
          if q7 ≤ 69 then (
            f_X2_readHead_j84 q5.2)
          else (
            f_X2_readHead_j71 q5.2))))))
    else (
      (f_X5_broken 2 0 q1.2).bind fun q13 => (
      bchk q13.1 (
      some (q13.1, q13.2)))))))
def f_X4_fixedSize (p0 : Int32) (u : St) : Option (Int32) :=
  if p0 = 1 ∨ p0 = 7 ∨ p0 = 8 then (
    some 2)
  else (
  if p0 = 3 ∨ p0 = 10 ∨ p0 = 12 then (
    some 4)
  else (
  if p0 = 5 then (
    some 8)
  else (
    some 0)))
def f_X4_takeSecondNumber (p0 : Int32) (p1 : Int32) (u : St) : Option (Int32 × St) :=
  if (p0 + 1) < p1 then (
    chk 135 (p0 + 1) (
    some (1, (up u 25 (Int32.toNatClampNeg (p0 + 1)) 0))))
  else (
    chk 135 p0 (
    (f_X5_broken 7 ((u 26) (Int32.toNatClampNeg p0)) (up u 8 0 p0)).bind fun q4 => (
    bchk q4.1 (
    some (q4.1, q4.2)))))
def f_X3_characterSize_j48 (z0 : Int32) (u : St) : Option (Int32) :=
  some z0
def f_X3_characterSize_j47 (u : St) : Option (Int32) :=
  f_X3_characterSize_j48 0 u
def f_X3_characterSize_j29 (x0 : Int32) (u : St) : Option (Int32) :=
  if x0 < 224 then (
    f_X3_characterSize_j47 u)
  else (
    if 239 < x0 then (
      f_X3_characterSize_j47 u)
    else (
      f_X3_characterSize_j48 3 u))
def f_X3_characterSize_j13 (x0 : Int32) (u : St) : Option (Int32) :=
  if x0 < 192 then (
    f_X3_characterSize_j29 x0 u)
  else (
    if 223 < x0 then (
      f_X3_characterSize_j29 x0 u)
    else (
      some 2))
def f_X3_characterSize (p0 : Int32) (u : St) : Option (Int32) :=
  if p0 < 1 then (
    f_X3_characterSize_j13 p0 u)
  else (
    if 127 < p0 then (
      f_X3_characterSize_j13 p0 u)
    else (
      some 1))
def f_X3_firstNoCharacter_j28_2 (x2 : Int32) (x3 : Int32) (u : St) : Option (((Int32) ⊕ (Unit)) ⊕ (Int32)) :=
  some (.inl (.inl x3))
def f_X3_firstNoCharacter_j64_35 (x2 : Int32) (x3 : Int32) (x4 : Int32) (u : St) : Option (((Int32) ⊕ (Unit)) ⊕ (Int32)) :=
  some (.inl (.inl x3))
def f_X3_firstNoCharacter_b35 (x2 : Int32) (x3 : Int32) (x4 : Int32) (u : St) (a : Int32) : Option (((Int32) ⊕ (Unit)) ⊕ (Int32)) :=
  if (x3 + x4) ≤ a then (
    some (.inl (.inr ())))
  else (
    chk 400 a (
    if ((u 22) (Int32.toNatClampNeg a)) < 128 then (
      f_X3_firstNoCharacter_j64_35 x2 x3 x4 u)
    else (
      chk 400 a (
      if ((u 22) (Int32.toNatClampNeg a)) ≤ 191 then (
        some (.inr (a + 1)))
      else (
        f_X3_firstNoCharacter_j64_35 x2 x3 x4 u)))))
def f_X3_firstNoCharacter_b2 (x2 : Int32) (u : St) (a : Int32) : Option (((Int32) ⊕ (Unit)) ⊕ (Int32)) :=
  if x2 ≤ a then (
    some (.inl (.inr ())))
  else (
    chk 400 a (
    (f_X3_characterSize ((u 22) (Int32.toNatClampNeg a)) u).bind fun q3 => (
    if q3 = 0 then (
      f_X3_firstNoCharacter_j28_2 x2 a u)
    else (
      if q3 ≤ (x2 - a) then (
        (loopF (f_X3_firstNoCharacter_b35 x2 a q3 u) FU (a + 1)).bind fun q110 => Sum.elim (fun q11 => some (.inl (.inl q11))) (fun q11 =>
          some (.inr (a + q3))) q110)
      else (
        f_X3_firstNoCharacter_j28_2 x2 a u)))))
def f_X3_firstNoCharacter (p1 : Int32) (p2 : Int32) (u : St) : Option (Int32) :=
  (loopF (f_X3_firstNoCharacter_b2 p2 u) FU p1).bind fun q120 => Sum.elim (fun q12 => some q12) (fun q12 =>
    some (-1)) q120
def f_X4_readLetters_j65 (z0 : Int32) (u : St) : Option (Int32 × St) :=
  bchk z0 (
  some (z0, u))
def f_X4_readLetters_j60 (u : St) : Option (Int32 × St) :=
  f_X4_readLetters_j65 1 u
def f_X4_readLetters (p0 : Int32) (u : St) : Option (Int32 × St) :=
  (f_X1_u2 (p0 + 1) u).bind fun q1 => (
  (f_X5_step q1 u).bind fun q2 => (
  if q2.1 = 0 then (
    some (0, q2.2))
  else (
    (f_X3_firstNoCharacter (p0 + 3) (q2.2 4 0) q2.2).bind fun q4 => (
    if q4 < 0 then (
      f_X4_readLetters_j60 q2.2)
    else (
      (f_X5_broken 6 q4 q2.2).bind fun q7 => (
      if q7.1 = 0 then (
        f_X4_readLetters_j65 0 q7.2)
      else (
        f_X4_readLetters_j60 q7.2)))))))
def f_X4_readEntry_j115 (z0 : Int32) (u : St) : Option (Int32 × St) :=
  bchk z0 (
  some (z0, u))
def f_X4_readEntry_j110 (u : St) : Option (Int32 × St) :=
  f_X4_readEntry_j115 1 u
def f_X4_readEntry (p0 : Int32) (p1 : Int32) (u : St) : Option (Int32 × St) :=
  (f_X5_step 1 u).bind fun q1 => (
  if q1.1 = 0 then (
    some (0, q1.2))
  else (
    chk 400 (u 4 0) (
    (f_X4_fixedSize ((q1.2 22) (Int32.toNatClampNeg (u 4 0))) q1.2).bind fun q4 => (
    if q4 = 0 then (
      (f_X5_broken 5 (u 4 0) q1.2).bind fun q17 => (
      bchk q17.1 (
      some (q17.1, q17.2))))
    else (
      (f_X5_step q4 q1.2).bind fun q6 => (
      if q6.1 = 0 then (
        some (0, q6.2))
      else (
        chk 135 p0 (
        chk 135 p0 (
        if ((q1.2 22) (Int32.toNatClampNeg (u 4 0))) = 1 then (
          (f_X4_readLetters (u 4 0) (up (up q6.2 25 (Int32.toNatClampNeg p0) ((q1.2 22) (Int32.toNatClampNeg (u 4 0)))) 26 (Int32.toNatClampNeg p0) (u 4 0))).bind fun q15 => (
          bchk q15.1 (
          some (q15.1, q15.2))))
        else (
          if ((q1.2 22) (Int32.toNatClampNeg (u 4 0))) = 5 then (
            (f_X4_takeSecondNumber p0 p1 (up (up q6.2 25 (Int32.toNatClampNeg p0) ((q1.2 22) (Int32.toNatClampNeg (u 4 0)))) 26 (Int32.toNatClampNeg p0) (u 4 0))).bind fun q13 => (
            if q13.1 = 0 then (
              f_X4_readEntry_j115 0 q13.2)
            else (
              f_X4_readEntry_j110 q13.2)))
          else (
            f_X4_readEntry_j110 (up (up q6.2 25 (Int32.toNatClampNeg p0) ((q1.2 22) (Int32.toNatClampNeg (u 4 0)))) 26 (Int32.toNatClampNeg p0) (u 4 0)))))))))))))
def f_X4_readEntries_j78_46 (x2 : Int32) (z0 : Int32) (z1 : Int32) (u : St) : Option (((Int32 × St) ⊕ (St)) ⊕ (Int32 × St)) :=
  some (.inr ((z0 + z1), (up u 8 0 ((z0 + z1) - 1))))
def f_X4_readEntries_b46 (x2 : Int32) (a : Int32 × St) : Option (((Int32 × St) ⊕ (St)) ⊕ (Int32 × St)) :=
  if x2 ≤ a.1 then (
    some (.inl (.inr a.2)))
  else (
    (f_X4_readEntry a.1 x2 a.2).bind fun q6 => (
    if q6.1 = 0 then (
      some (.inl (.inl (0, q6.2))))
    else (
      chk 135 a.1 (
      if ((q6.2 25) (Int32.toNatClampNeg a.1)) = 5 then (
        f_X4_readEntries_j78_46 x2 a.1 2 q6.2)
      else (
        f_X4_readEntries_j78_46 x2 a.1 1 q6.2)))))
def f_X4_readEntries (u : St) : Option (Int32 × St) :=
  (f_X5_step 2 u).bind fun q1 => (
  if q1.1 = 0 then (
    some (0, q1.2))
  else (
    (f_X1_u2 (u 4 0) q1.2).bind fun q3 => (
    if q3 = 0 then (
      (f_X5_broken 4 (u 4 0) q1.2).bind fun q11 => (
      bchk q11.1 (
      some (q11.1, q11.2))))
    else (
      (loopF (f_X4_readEntries_b46 q3) FU (1, q1.2)).bind fun q100 => Sum.elim (fun q10 => some q10) (fun q10 =>
        some (1, q10)) q100))))
def f_X4_first (p0 : Int32) (u : St) : Option (Int32) :=
  chk 135 p0 (
  (f_X1_u2 (((u 26) (Int32.toNatClampNeg p0)) + 1) u).bind fun q2 => (
  some q2))
def f_X4_kindOf_j23 (z0 : Int32) (u : St) : Option (Int32) :=
  some z0
def f_X4_kindOf_j22 (u : St) : Option (Int32) :=
  f_X4_kindOf_j23 0 u
def f_X4_kindOf (p0 : Int32) (u : St) : Option (Int32) :=
  if p0 < 1 then (
    f_X4_kindOf_j22 u)
  else (
    if (u 8 0) < p0 then (
      f_X4_kindOf_j22 u)
    else (
      chk 135 p0 (
      f_X4_kindOf_j23 ((u 25) (Int32.toNatClampNeg p0)) u)))
def f_X4_second (p0 : Int32) (u : St) : Option (Int32) :=
  chk 135 p0 (
  (f_X1_u2 (((u 26) (Int32.toNatClampNeg p0)) + 3) u).bind fun q2 => (
  some q2))
def f_X4_referencesFit_j62 (z0 : Int32) (u : St) : Option (Int32) :=
  bchk z0 (
  some z0)
def f_X4_referencesFit_j96 (z0 : Int32) (u : St) : Option (Int32) :=
  bchk z0 (
  some z0)
def f_X4_referencesFit_j95 (u : St) : Option (Int32) :=
  f_X4_referencesFit_j96 0 u
def f_X4_referencesFit_j128 (z0 : Int32) (u : St) : Option (Int32) :=
  bchk z0 (
  some z0)
def f_X4_referencesFit_j127 (u : St) : Option (Int32) :=
  f_X4_referencesFit_j128 0 u
def f_X4_referencesFit (p0 : Int32) (u : St) : Option (Int32) :=
  chk 135 p0 (
  if ((u 25) (Int32.toNatClampNeg p0)) = 7 ∨ ((u 25) (Int32.toNatClampNeg p0)) = 8 then (
    (f_X4_first p0 u).bind fun q3 => (
    (f_X4_kindOf q3 u).bind fun q4 => (
    if q4 = 1 then (
      f_X4_referencesFit_j62 1 u)
    else (
      f_X4_referencesFit_j62 0 u))))
  else (
  if ((u 25) (Int32.toNatClampNeg p0)) = 10 then (
    (f_X4_first p0 u).bind fun q7 => (
    (f_X4_kindOf q7 u).bind fun q8 => (
    if q8 = 7 then (
      (f_X4_second p0 u).bind fun q11 => (
      (f_X4_kindOf q11 u).bind fun q12 => (
      if q12 = 12 then (
        f_X4_referencesFit_j96 1 u)
      else (
        f_X4_referencesFit_j95 u))))
    else (
      f_X4_referencesFit_j95 u))))
  else (
  if ((u 25) (Int32.toNatClampNeg p0)) = 12 then (
    (f_X4_first p0 u).bind fun q14 => (
    (f_X4_kindOf q14 u).bind fun q15 => (
    if q15 = 1 then (
      (f_X4_second p0 u).bind fun q18 => (
      (f_X4_kindOf q18 u).bind fun q19 => (
      if q19 = 1 then (
        f_X4_referencesFit_j128 1 u)
      else (
        f_X4_referencesFit_j127 u))))
    else (
      f_X4_referencesFit_j127 u))))
  else (
    some 1))))
def f_X4_judgeReferences_b2 (a : Int32 × St) : Option (((Int32 × St) ⊕ (St)) ⊕ (Int32 × St)) :=
  if (a.2 8 0) < a.1 then (
    some (.inl (.inr a.2)))
  else (
    (f_X4_referencesFit a.1 a.2).bind fun q2 => (
    if q2 = 0 then (
      chk 135 a.1 (
      (f_X5_broken 8 ((a.2 26) (Int32.toNatClampNeg a.1)) a.2).bind fun q5 => (
      bchk q5.1 (
      some (.inl (.inl (q5.1, q5.2)))))))
    else (
      some (.inr ((a.1 + 1), a.2)))))
def f_X4_judgeReferences (u : St) : Option (Int32 × St) :=
  (loopF (f_X4_judgeReferences_b2) FU (1, u)).bind fun q70 => Sum.elim (fun q7 => some q7) (fun q7 =>
    some (1, q7)) q70
def f_X4_textStart (p0 : Int32) (u : St) : Option (Int32) :=
  chk 135 p0 (
  some (((u 26) (Int32.toNatClampNeg p0)) + 3))
def f_X4_textEnd (p0 : Int32) (u : St) : Option (Int32) :=
  (f_X4_textStart p0 u).bind fun q1 => (
  (f_X4_first p0 u).bind fun q2 => (
  some (q1 + q2)))
def f_X3_isWord_s0_b15 (x1 : Int32) (u : St) (a : Int32) : Option (((Int32) ⊕ (Unit)) ⊕ (Int32)) :=
  if 6 ≤ a then (
    some (.inl (.inr ())))
  else (
    chk 400 (x1 + a) (
    chk 6 a (
    if ((u 22) (Int32.toNatClampNeg (x1 + a))) = (SCH 0 a) then (
      some (.inr (a + 1)))
    else (
      some (.inl (.inl 0))))))
def f_X3_isWord_s0 (p1 : Int32) (p2 : Int32) (u : St) : Option (Int32) :=
  if (p2 - p1) = 6 then (
    (loopF (f_X3_isWord_s0_b15 p1 u) FU 0).bind fun q60 => Sum.elim (fun q6 => some q6) (fun q6 =>
      some 1) q60)
  else (
    some 0)
def f_X3_isWord_s1_b15 (x1 : Int32) (u : St) (a : Int32) : Option (((Int32) ⊕ (Unit)) ⊕ (Int32)) :=
  if 8 ≤ a then (
    some (.inl (.inr ())))
  else (
    chk 400 (x1 + a) (
    chk 8 a (
    if ((u 22) (Int32.toNatClampNeg (x1 + a))) = (SCH 1 a) then (
      some (.inr (a + 1)))
    else (
      some (.inl (.inl 0))))))
def f_X3_isWord_s1 (p1 : Int32) (p2 : Int32) (u : St) : Option (Int32) :=
  if (p2 - p1) = 8 then (
    (loopF (f_X3_isWord_s1_b15 p1 u) FU 0).bind fun q60 => Sum.elim (fun q6 => some q6) (fun q6 =>
      some 1) q60)
  else (
    some 0)
def f_X3_isFieldName_j39_2 (x1 : Int32) (x2 : Int32) (u : St) : Option (((Int32) ⊕ (Unit)) ⊕ (Int32)) :=
  some (.inl (.inl 0))
def f_X3_isFieldName_b2 (x1 : Int32) (x2 : Int32) (u : St) (a : Int32) : Option (((Int32) ⊕ (Unit)) ⊕ (Int32)) :=
  if x2 ≤ a then (
    some (.inl (.inr ())))
  else (
    chk 400 a (
    if ((u 22) (Int32.toNatClampNeg a)) = 46 then (
      f_X3_isFieldName_j39_2 x1 x2 u)
    else (
      chk 400 a (
      if ((u 22) (Int32.toNatClampNeg a)) = 59 then (
        f_X3_isFieldName_j39_2 x1 x2 u)
      else (
        chk 400 a (
        if ((u 22) (Int32.toNatClampNeg a)) = 91 then (
          f_X3_isFieldName_j39_2 x1 x2 u)
        else (
          chk 400 a (
          if ((u 22) (Int32.toNatClampNeg a)) = 47 then (
            f_X3_isFieldName_j39_2 x1 x2 u)
          else (
            some (.inr (a + 1)))))))))))
def f_X3_isFieldName_j57 (z0 : Int32) (u : St) : Option (Int32) :=
  bchk z0 (
  some z0)
def f_X3_isFieldName (p1 : Int32) (p2 : Int32) (u : St) : Option (Int32) :=
  (loopF (f_X3_isFieldName_b2 p1 p2 u) FU p1).bind fun q100 => Sum.elim (fun q10 => some q10) (fun q10 =>
    if p2 ≤ p1 then (
      f_X3_isFieldName_j57 0 u)
    else (
      f_X3_isFieldName_j57 1 u)) q100
def f_X3_isMemberName_j22 (u : St) : Option (Int32) :=
  some 1
def f_X3_isMemberName_j47_26 (x1 : Int32) (x2 : Int32) (u : St) : Option (((Int32) ⊕ (Unit)) ⊕ (Int32)) :=
  some (.inl (.inl 0))
def f_X3_isMemberName_b26 (x1 : Int32) (x2 : Int32) (u : St) (a : Int32) : Option (((Int32) ⊕ (Unit)) ⊕ (Int32)) :=
  if x2 ≤ a then (
    some (.inl (.inr ())))
  else (
    chk 400 a (
    if ((u 22) (Int32.toNatClampNeg a)) = 60 then (
      f_X3_isMemberName_j47_26 x1 x2 u)
    else (
      chk 400 a (
      if ((u 22) (Int32.toNatClampNeg a)) = 62 then (
        f_X3_isMemberName_j47_26 x1 x2 u)
      else (
        some (.inr (a + 1)))))))
def f_X3_isMemberName (p1 : Int32) (p2 : Int32) (u : St) : Option (Int32) :=
  (f_X3_isWord_s0 p1 p2 u).bind fun q1 => (
  if q1 = 0 then (
    (f_X3_isWord_s1 p1 p2 u).bind fun q3 => (
    if q3 = 0 then (
      (loopF (f_X3_isMemberName_b26 p1 p2 u) FU p1).bind fun q100 => Sum.elim (fun q10 => some q10) (fun q10 =>
        (f_X3_isFieldName p1 p2 u).bind fun q11 => (
        bchk q11 (
        some q11))) q100)
    else (
      f_X3_isMemberName_j22 u)))
  else (
    f_X3_isMemberName_j22 u))
def f_X4_isMemberName_j37 (z0 : Int32) (u : St) : Option (Int32) :=
  bchk z0 (
  some z0)
def f_X4_isMemberName_j36 (u : St) : Option (Int32) :=
  f_X4_isMemberName_j37 0 u
def f_X4_isMemberName (p0 : Int32) (u : St) : Option (Int32) :=
  (f_X4_kindOf p0 u).bind fun q1 => (
  if q1 = 1 then (
    (f_X4_textStart p0 u).bind fun q4 => (
    (f_X4_textEnd p0 u).bind fun q5 => (
    (f_X3_isMemberName q4 q5 u).bind fun q6 => (
    if q6 = 0 then (
      f_X4_isMemberName_j36 u)
    else (
      f_X4_isMemberName_j37 1 u)))))
  else (
    f_X4_isMemberName_j36 u))
def f_X3_brackets_b2 (x1 : Int32) (x2 : Int32) (u : St) (a : Int32) : Option (((Int32) ⊕ (Int32)) ⊕ (Int32)) :=
  if x2 ≤ a then (
    some (.inl (.inr a)))
  else (
    chk 400 a (
    if ((u 22) (Int32.toNatClampNeg a)) = 91 then (
      some (.inr (a + 1)))
    else (
      some (.inl (.inr a)))))
def f_X3_brackets_j21 (x1 : Int32) (x3 : Int32) (u : St) : Option (Int32) :=
  some (x3 - x1)
def f_X3_brackets (p1 : Int32) (p2 : Int32) (u : St) : Option (Int32) :=
  (loopF (f_X3_brackets_b2 p1 p2 u) FU p1).bind fun q40 => Sum.elim (fun q4 => some q4) (fun q4 =>
    f_X3_brackets_j21 p1 q4 u) q40
def f_X3_isClassName_j63_5 (x2 : Int32) (u : St) : Option (((Int32) ⊕ (Int32)) ⊕ (Int32 × Int32)) :=
  some (.inl (.inl 0))
def f_X3_isClassName_j75_5 (x2 : Int32) (x4 : Int32) (z0 : Int32) (u : St) : Option (((Int32) ⊕ (Int32)) ⊕ (Int32 × Int32)) :=
  some (.inr (z0, (x4 + 1)))
def f_X3_isClassName_j65_5 (x2 : Int32) (x4 : Int32) (x5 : Int32) (u : St) : Option (((Int32) ⊕ (Int32)) ⊕ (Int32 × Int32)) :=
  if x5 = 0 then (
    f_X3_isClassName_j75_5 x2 x4 1 u)
  else (
    f_X3_isClassName_j75_5 x2 x4 0 u)
def f_X3_isClassName_j25_5 (x2 : Int32) (x3 : Int32) (x4 : Int32) (z0 : Int32) (u : St) : Option (((Int32) ⊕ (Int32)) ⊕ (Int32 × Int32)) :=
  chk 400 x4 (
  if ((u 22) (Int32.toNatClampNeg x4)) = 46 then (
    f_X3_isClassName_j63_5 x2 u)
  else (
    chk 400 x4 (
    if ((u 22) (Int32.toNatClampNeg x4)) = 59 then (
      f_X3_isClassName_j63_5 x2 u)
    else (
      chk 400 x4 (
      if ((u 22) (Int32.toNatClampNeg x4)) = 91 then (
        f_X3_isClassName_j63_5 x2 u)
      else (
        if z0 = 0 then (
          f_X3_isClassName_j65_5 x2 x4 z0 u)
        else (
          if x3 = 0 then (
            f_X3_isClassName_j63_5 x2 u)
          else (
            f_X3_isClassName_j65_5 x2 x4 z0 u))))))))
def f_X3_isClassName_b5 (x2 : Int32) (u : St) (a : Int32 × Int32) : Option (((Int32) ⊕ (Int32)) ⊕ (Int32 × Int32)) :=
  if x2 ≤ a.2 then (
    some (.inl (.inr a.1)))
  else (
    chk 400 a.2 (
    if ((u 22) (Int32.toNatClampNeg a.2)) = 47 then (
      f_X3_isClassName_j25_5 x2 a.1 a.2 1 u)
    else (
      f_X3_isClassName_j25_5 x2 a.1 a.2 0 u)))
def f_X3_isClassName (p1 : Int32) (p2 : Int32) (u : St) : Option (Int32) :=
  (loopF (f_X3_isClassName_b5 p2 u) FU (0, p1)).bind fun q130 => Sum.elim (fun q13 => some q13) (fun q13 =>
    bchk q13 (
    some q13)) q130
def f_X3_isPlainType (p0 : Int32) (u : St) : Option (Int32) :=
  if p0 = 66 ∨ p0 = 67 ∨ p0 = 68 ∨ p0 = 70 ∨ p0 = 73 ∨ p0 = 74 ∨ p0 = 83 ∨ p0 = 90 then (
    some 1)
  else (
    some 0)
def f_X3_fieldTypeEnd_j23 (u : St) : Option (Int32) :=
  some (-1)
def f_X3_fieldTypeEnd_b55 (x2 : Int32) (x3 : Int32) (u : St) (a : Int32) : Option (((Int32) ⊕ (Int32)) ⊕ (Int32)) :=
  if x2 ≤ a then (
    some (.inl (.inr a)))
  else (
    chk 400 a (
    if ((u 22) (Int32.toNatClampNeg a)) = 59 then (
      some (.inl (.inr a)))
    else (
      some (.inr (a + 1)))))
def f_X3_fieldTypeEnd_j102 (z0 : Int32) (u : St) : Option (Int32) :=
  some z0
def f_X3_fieldTypeEnd_j101 (u : St) : Option (Int32) :=
  f_X3_fieldTypeEnd_j102 (-1) u
def f_X3_fieldTypeEnd_j76 (x2 : Int32) (x3 : Int32) (x4 : Int32) (u : St) : Option (Int32) :=
  if x2 ≤ x4 then (
    f_X3_fieldTypeEnd_j101 u)
  else (
    (f_X3_isClassName (x3 + 1) x4 u).bind fun q11 => (
    if q11 = 0 then (
      f_X3_fieldTypeEnd_j101 u)
    else (
      f_X3_fieldTypeEnd_j102 (x4 + 1) u)))
def f_X3_fieldTypeEnd_j49 (z0 : Int32) (u : St) : Option (Int32) :=
  some z0
def f_X3_fieldTypeEnd (p1 : Int32) (p2 : Int32) (u : St) : Option (Int32) :=
  (f_X3_brackets p1 p2 u).bind fun q1 => (
  if p2 ≤ (p1 + q1) then (
    f_X3_fieldTypeEnd_j23 u)
  else (
    if ((p1 + q1) - p1) ≤ 255 then (
      chk 400 (p1 + q1) (
      if ((u 22) (Int32.toNatClampNeg (p1 + q1))) = 76 then (
        (loopF (f_X3_fieldTypeEnd_b55 p2 (p1 + q1) u) FU ((p1 + q1) + 1)).bind fun q90 => Sum.elim (fun q9 => some q9) (fun q9 =>
          f_X3_fieldTypeEnd_j76 p2 (p1 + q1) q9 u) q90)
      else (
        chk 400 (p1 + q1) (
        (f_X3_isPlainType ((u 22) (Int32.toNatClampNeg (p1 + q1))) u).bind fun q14 => (
        if q14 = 0 then (
          f_X3_fieldTypeEnd_j49 (-1) u)
        else (
          f_X3_fieldTypeEnd_j49 ((p1 + q1) + 1) u))))))
    else (
      f_X3_fieldTypeEnd_j23 u)))
def f_X3_isMethodType_j13 (u : St) : Option (Int32) :=
  some 0
def f_X3_isMethodType_b19 (x2 : Int32) (u : St) (a : Int32) : Option (((Int32) ⊕ (Int32)) ⊕ (Int32)) :=
  if x2 ≤ a then (
    some (.inl (.inr a)))
  else (
    chk 400 a (
    if ((u 22) (Int32.toNatClampNeg a)) = 41 then (
      some (.inl (.inr a)))
    else (
      (f_X3_fieldTypeEnd a x2 u).bind fun q7 => (
      if a < q7 then (
        some (.inr q7))
      else (
        some (.inl (.inl 0)))))))
def f_X3_isMethodType_j104 (z0 : Int32) (u : St) : Option (Int32) :=
  bchk z0 (
  some z0)
def f_X3_isMethodType_j99 (u : St) : Option (Int32) :=
  f_X3_isMethodType_j104 1 u
def f_X3_isMethodType_j81 (x2 : Int32) (x4 : Int32) (z0 : Int32) (u : St) : Option (Int32) :=
  if z0 = 0 then (
    (f_X3_fieldTypeEnd x4 x2 u).bind fun q13 => (
    if q13 = x2 then (
      f_X3_isMethodType_j99 u)
    else (
      f_X3_isMethodType_j104 0 u)))
  else (
    f_X3_isMethodType_j99 u)
def f_X3_isMethodType_j80 (x2 : Int32) (x4 : Int32) (u : St) : Option (Int32) :=
  f_X3_isMethodType_j81 x2 x4 0 u
def f_X3_isMethodType_j54 (x2 : Int32) (x3 : Int32) (u : St) : Option (Int32) :=
  if (x3 + 1) = (x2 - 1) then (
    chk 400 (x3 + 1) (
    if ((u 22) (Int32.toNatClampNeg (x3 + 1))) = 86 then (
      f_X3_isMethodType_j81 x2 (x3 + 1) 1 u)
    else (
      f_X3_isMethodType_j80 x2 (x3 + 1) u)))
  else (
    f_X3_isMethodType_j80 x2 (x3 + 1) u)
def f_X3_isMethodType (p1 : Int32) (p2 : Int32) (u : St) : Option (Int32) :=
  if p2 ≤ p1 then (
    f_X3_isMethodType_j13 u)
  else (
    chk 400 p1 (
    if ((u 22) (Int32.toNatClampNeg p1)) = 40 then (
      (loopF (f_X3_isMethodType_b19 p2 u) FU (p1 + 1)).bind fun q90 => Sum.elim (fun q9 => some q9) (fun q9 =>
        f_X3_isMethodType_j54 p2 q9 u) q90)
    else (
      f_X3_isMethodType_j13 u)))
def f_X4_isMethodType_j37 (z0 : Int32) (u : St) : Option (Int32) :=
  bchk z0 (
  some z0)
def f_X4_isMethodType_j36 (u : St) : Option (Int32) :=
  f_X4_isMethodType_j37 0 u
def f_X4_isMethodType (p0 : Int32) (u : St) : Option (Int32) :=
  (f_X4_kindOf p0 u).bind fun q1 => (
  if q1 = 1 then (
    (f_X4_textStart p0 u).bind fun q4 => (
    (f_X4_textEnd p0 u).bind fun q5 => (
    (f_X3_isMethodType q4 q5 u).bind fun q6 => (
    if q6 = 0 then (
      f_X4_isMethodType_j36 u)
    else (
      f_X4_isMethodType_j37 1 u)))))
  else (
    f_X4_isMethodType_j36 u))
def f_X4_textRule_j93 (z0 : Int32) (u : St) : Option (Int32) :=
  some z0
def f_X4_textRule_j46 (z0 : Int32) (u : St) : Option (Int32) :=
  some z0
def f_X4_textRule (p0 : Int32) (u : St) : Option (Int32) :=
  chk 135 p0 (
  if ((u 25) (Int32.toNatClampNeg p0)) = 7 then (
    (f_X4_first p0 u).bind fun q11 => (
    (f_X4_textStart q11 u).bind fun q12 => (
    (f_X4_textEnd q11 u).bind fun q13 => (
    (f_X3_isClassName q12 q13 u).bind fun q14 => (
    if q14 = 0 then (
      f_X4_textRule_j46 9 u)
    else (
      f_X4_textRule_j46 0 u))))))
  else (
    chk 135 p0 (
    if ((u 25) (Int32.toNatClampNeg p0)) = 12 then (
      (f_X4_first p0 u).bind fun q5 => (
      (f_X4_isMemberName q5 u).bind fun q6 => (
      if q6 = 0 then (
        some 9)
      else (
        (f_X4_second p0 u).bind fun q8 => (
        (f_X4_isMethodType q8 u).bind fun q9 => (
        if q9 = 0 then (
          f_X4_textRule_j93 10 u)
        else (
          f_X4_textRule_j93 0 u)))))))
    else (
      some 0))))
def f_X4_judgeTexts_b2 (a : Int32 × St) : Option (((Int32 × St) ⊕ (St)) ⊕ (Int32 × St)) :=
  if (a.2 8 0) < a.1 then (
    some (.inl (.inr a.2)))
  else (
    (f_X4_textRule a.1 a.2).bind fun q2 => (
    if q2 = 0 then (
      some (.inr ((a.1 + 1), a.2)))
    else (
      chk 135 a.1 (
      (f_X5_broken q2 ((a.2 26) (Int32.toNatClampNeg a.1)) a.2).bind fun q5 => (
      bchk q5.1 (
      some (.inl (.inl (q5.1, q5.2)))))))))
def f_X4_judgeTexts (u : St) : Option (Int32 × St) :=
  (loopF (f_X4_judgeTexts_b2) FU (1, u)).bind fun q70 => Sum.elim (fun q7 => some q7) (fun q7 =>
    some (1, q7)) q70
def f_X2_classFlagsFit_j54 (z0 : Int32) (u : St) : Option (Int32) :=
  bchk z0 (
  some z0)
def f_X2_classFlagsFit_j49 (u : St) : Option (Int32) :=
  f_X2_classFlagsFit_j54 1 u
def f_X2_classFlagsFit_j41 (x1 : Int32) (x2 : Int32) (u : St) : Option (Int32) :=
  if x1 = 0 then (
    f_X2_classFlagsFit_j49 u)
  else (
    if x2 = 0 then (
      f_X2_classFlagsFit_j49 u)
    else (
      f_X2_classFlagsFit_j54 0 u))
def f_X2_classFlagsFit_j26 (x0 : Int32) (x1 : Int32) (z0 : Int32) (u : St) : Option (Int32) :=
  if (x0 &&& 512) = 0 then (
    f_X2_classFlagsFit_j41 x1 z0 u)
  else (
    if x1 = 0 then (
      some 0)
    else (
      f_X2_classFlagsFit_j41 x1 z0 u))
def f_X2_classFlagsFit_j13 (x0 : Int32) (z0 : Int32) (u : St) : Option (Int32) :=
  if (x0 &&& 16) = 0 then (
    f_X2_classFlagsFit_j26 x0 z0 0 u)
  else (
    f_X2_classFlagsFit_j26 x0 z0 1 u)
def f_X2_classFlagsFit (p0 : Int32) (u : St) : Option (Int32) :=
  if (p0 &&& 1024) = 0 then (
    f_X2_classFlagsFit_j13 p0 0 u)
  else (
    f_X2_classFlagsFit_j13 p0 1 u)
def f_X2_readClassNumber_j59 (z0 : Int32) (u : St) : Option (Int32 × St) :=
  bchk z0 (
  some (z0, u))
def f_X2_readClassNumber_j54 (u : St) : Option (Int32 × St) :=
  f_X2_readClassNumber_j59 1 u
def f_X2_readClassNumber (u : St) : Option (Int32 × St) :=
  (f_X5_step 2 u).bind fun q1 => (
  if q1.1 = 0 then (
    some (0, q1.2))
  else (
    (f_X1_u2 (u 4 0) q1.2).bind fun q3 => (
    (f_X4_kindOf q3 q1.2).bind fun q4 => (
    if q4 = 7 then (
      f_X2_readClassNumber_j54 q1.2)
    else (
      (f_X5_broken 12 (u 4 0) q1.2).bind fun q7 => (
      if q7.1 = 0 then (
        f_X2_readClassNumber_j59 0 q7.2)
      else (
        f_X2_readClassNumber_j54 q7.2)))))))
def f_X2_readClass_j65 (z0 : Int32) (u : St) : Option (Int32 × St) :=
  bchk z0 (
  some (z0, u))
def f_X2_readClass_j64 (u : St) : Option (Int32 × St) :=
  f_X2_readClass_j65 0 u
def f_X2_readClass (u : St) : Option (Int32 × St) :=
  (f_X5_step 2 u).bind fun q1 => (
  if q1.1 = 0 then (
    some (0, q1.2))
  else (
    (f_X1_u2 (u 4 0) q1.2).bind fun q3 => (
    (f_X2_classFlagsFit q3 q1.2).bind fun q4 => (
    if q4 = 0 then (
      (f_X5_broken 11 (u 4 0) q1.2).bind fun q11 => (
      bchk q11.1 (
      some (q11.1, q11.2))))
    else (
      (f_X2_readClassNumber q1.2).bind fun q6 => (
      if q6.1 = 0 then (
        f_X2_readClass_j64 q6.2)
      else (
        (f_X2_readClassNumber q6.2).bind fun q9 => (
        if q9.1 = 0 then (
          f_X2_readClass_j64 q9.2)
        else (
          f_X2_readClass_j65 1 q9.2)))))))))
def f_X2_readNumber_j31 (z0 : Int32) (u : St) : Option (Int32 × St) :=
  some (z0, u)
def f_X2_readNumber (u : St) : Option (Int32 × St) :=
  (f_X5_step 2 u).bind fun q1 => (
  if q1.1 = 0 then (
    f_X2_readNumber_j31 (-1) q1.2)
  else (
    (f_X1_u2 (u 4 0) q1.2).bind fun q3 => (
    f_X2_readNumber_j31 q3 q1.2)))
def f_X2_readInterfaces_b41 (x1 : Int32) (x2 : Int32) (x3 : Int32) (x4 : Int32) (a : Int32 × St) : Option (((Int32 × St) ⊕ (St)) ⊕ (Int32 × St)) :=
  if x4 ≤ a.1 then (
    some (.inl (.inr a.2)))
  else (
    (f_X1_u2 a.1 a.2).bind fun q6 => (
    (f_X1_u2 x4 a.2).bind fun q7 => (
    if q6 = q7 then (
      (f_X5_broken 13 x4 a.2).bind fun q9 => (
      bchk q9.1 (
      some (.inl (.inl (q9.1, q9.2))))))
    else (
      some (.inr ((a.1 + 2), a.2))))))
def f_X2_readInterfaces_b15 (x1 : Int32) (x2 : Int32) (a : Int32 × St) : Option (((Int32 × St) ⊕ (St)) ⊕ (Int32 × St)) :=
  if x1 ≤ a.1 then (
    some (.inl (.inr a.2)))
  else (
    (f_X2_readClassNumber a.2).bind fun q3 => (
    if q3.1 = 0 then (
      some (.inl (.inl (0, q3.2))))
    else (
      (loopF (f_X2_readInterfaces_b41 x1 x2 a.1 (a.2 4 0)) FU (x2, q3.2)).bind fun q110 => Sum.elim (fun q11 => some (.inl (.inl q11))) (fun q11 =>
        some (.inr ((a.1 + 1), q11))) q110)))
def f_X2_readInterfaces_j103 (z0 : Int32) (u : St) : Option (Int32 × St) :=
  bchk z0 (
  some (z0, u))
def f_X2_readInterfaces (u : St) : Option (Int32 × St) :=
  (f_X2_readNumber u).bind fun q1 => (
  (loopF (f_X2_readInterfaces_b15 q1.1 (q1.2 4 0)) FU (0, q1.2)).bind fun q120 => Sum.elim (fun q12 => some q12) (fun q12 =>
    if q1.1 = (-1) then (
      f_X2_readInterfaces_j103 0 q12)
    else (
      f_X2_readInterfaces_j103 1 q12)) q120)
def f_X8_bitCount (p0 : Int32) (u : St) : Option (Int32) :=
  some ((((((((p0 - (((Int32.toUInt32 p0 >>> (Int32.toUInt32 1 &&& Int32.toUInt32 31)).toInt32) &&& 1431655765)) &&& 858993459) + (((Int32.toUInt32 (p0 - (((Int32.toUInt32 p0 >>> (Int32.toUInt32 1 &&& Int32.toUInt32 31)).toInt32) &&& 1431655765)) >>> (Int32.toUInt32 2 &&& Int32.toUInt32 31)).toInt32) &&& 858993459)) + ((Int32.toUInt32 (((p0 - (((Int32.toUInt32 p0 >>> (Int32.toUInt32 1 &&& Int32.toUInt32 31)).toInt32) &&& 1431655765)) &&& 858993459) + (((Int32.toUInt32 (p0 - (((Int32.toUInt32 p0 >>> (Int32.toUInt32 1 &&& Int32.toUInt32 31)).toInt32) &&& 1431655765)) >>> (Int32.toUInt32 2 &&& Int32.toUInt32 31)).toInt32) &&& 858993459)) >>> (Int32.toUInt32 4 &&& Int32.toUInt32 31)).toInt32)) &&& 252645135) + ((Int32.toUInt32 (((((p0 - (((Int32.toUInt32 p0 >>> (Int32.toUInt32 1 &&& Int32.toUInt32 31)).toInt32) &&& 1431655765)) &&& 858993459) + (((Int32.toUInt32 (p0 - (((Int32.toUInt32 p0 >>> (Int32.toUInt32 1 &&& Int32.toUInt32 31)).toInt32) &&& 1431655765)) >>> (Int32.toUInt32 2 &&& Int32.toUInt32 31)).toInt32) &&& 858993459)) + ((Int32.toUInt32 (((p0 - (((Int32.toUInt32 p0 >>> (Int32.toUInt32 1 &&& Int32.toUInt32 31)).toInt32) &&& 1431655765)) &&& 858993459) + (((Int32.toUInt32 (p0 - (((Int32.toUInt32 p0 >>> (Int32.toUInt32 1 &&& Int32.toUInt32 31)).toInt32) &&& 1431655765)) >>> (Int32.toUInt32 2 &&& Int32.toUInt32 31)).toInt32) &&& 858993459)) >>> (Int32.toUInt32 4 &&& Int32.toUInt32 31)).toInt32)) &&& 252645135) >>> (Int32.toUInt32 8 &&& Int32.toUInt32 31)).toInt32)) + ((Int32.toUInt32 ((((((p0 - (((Int32.toUInt32 p0 >>> (Int32.toUInt32 1 &&& Int32.toUInt32 31)).toInt32) &&& 1431655765)) &&& 858993459) + (((Int32.toUInt32 (p0 - (((Int32.toUInt32 p0 >>> (Int32.toUInt32 1 &&& Int32.toUInt32 31)).toInt32) &&& 1431655765)) >>> (Int32.toUInt32 2 &&& Int32.toUInt32 31)).toInt32) &&& 858993459)) + ((Int32.toUInt32 (((p0 - (((Int32.toUInt32 p0 >>> (Int32.toUInt32 1 &&& Int32.toUInt32 31)).toInt32) &&& 1431655765)) &&& 858993459) + (((Int32.toUInt32 (p0 - (((Int32.toUInt32 p0 >>> (Int32.toUInt32 1 &&& Int32.toUInt32 31)).toInt32) &&& 1431655765)) >>> (Int32.toUInt32 2 &&& Int32.toUInt32 31)).toInt32) &&& 858993459)) >>> (Int32.toUInt32 4 &&& Int32.toUInt32 31)).toInt32)) &&& 252645135) + ((Int32.toUInt32 (((((p0 - (((Int32.toUInt32 p0 >>> (Int32.toUInt32 1 &&& Int32.toUInt32 31)).toInt32) &&& 1431655765)) &&& 858993459) + (((Int32.toUInt32 (p0 - (((Int32.toUInt32 p0 >>> (Int32.toUInt32 1 &&& Int32.toUInt32 31)).toInt32) &&& 1431655765)) >>> (Int32.toUInt32 2 &&& Int32.toUInt32 31)).toInt32) &&& 858993459)) + ((Int32.toUInt32 (((p0 - (((Int32.toUInt32 p0 >>> (Int32.toUInt32 1 &&& Int32.toUInt32 31)).toInt32) &&& 1431655765)) &&& 858993459) + (((Int32.toUInt32 (p0 - (((Int32.toUInt32 p0 >>> (Int32.toUInt32 1 &&& Int32.toUInt32 31)).toInt32) &&& 1431655765)) >>> (Int32.toUInt32 2 &&& Int32.toUInt32 31)).toInt32) &&& 858993459)) >>> (Int32.toUInt32 4 &&& Int32.toUInt32 31)).toInt32)) &&& 252645135) >>> (Int32.toUInt32 8 &&& Int32.toUInt32 31)).toInt32)) >>> (Int32.toUInt32 16 &&& Int32.toUInt32 31)).toInt32)) &&& 63)
def f_X2_hasAtMostOneAccess_j16 (z0 : Int32) (u : St) : Option (Int32) :=
  bchk z0 (
  some z0)
def f_X2_hasAtMostOneAccess (p0 : Int32) (u : St) : Option (Int32) :=
  (f_X8_bitCount (p0 &&& 7) u).bind fun q1 => (
  if 1 < q1 then (
    f_X2_hasAtMostOneAccess_j16 0 u)
  else (
    f_X2_hasAtMostOneAccess_j16 1 u))
def f_X2_fieldFlagsFit_j36 (z0 : Int32) (u : St) : Option (Int32) :=
  bchk z0 (
  some z0)
def f_X2_fieldFlagsFit_j35 (u : St) : Option (Int32) :=
  f_X2_fieldFlagsFit_j36 0 u
def f_X2_fieldFlagsFit_j19 (x0 : Int32) (z0 : Int32) (u : St) : Option (Int32) :=
  (f_X2_hasAtMostOneAccess x0 u).bind fun q2 => (
  if q2 = 0 then (
    f_X2_fieldFlagsFit_j35 u)
  else (
    if z0 = 0 then (
      f_X2_fieldFlagsFit_j36 1 u)
    else (
      f_X2_fieldFlagsFit_j35 u)))
def f_X2_fieldFlagsFit_j18 (x0 : Int32) (u : St) : Option (Int32) :=
  f_X2_fieldFlagsFit_j19 x0 0 u
def f_X2_fieldFlagsFit (p0 : Int32) (u : St) : Option (Int32) :=
  if (p0 &&& 16) = 0 then (
    f_X2_fieldFlagsFit_j18 p0 u)
  else (
    if (p0 &&& 64) = 0 then (
      f_X2_fieldFlagsFit_j18 p0 u)
    else (
      f_X2_fieldFlagsFit_j19 p0 1 u))
def f_X4_isFieldName_j37 (z0 : Int32) (u : St) : Option (Int32) :=
  bchk z0 (
  some z0)
def f_X4_isFieldName_j36 (u : St) : Option (Int32) :=
  f_X4_isFieldName_j37 0 u
def f_X4_isFieldName (p0 : Int32) (u : St) : Option (Int32) :=
  (f_X4_kindOf p0 u).bind fun q1 => (
  if q1 = 1 then (
    (f_X4_textStart p0 u).bind fun q4 => (
    (f_X4_textEnd p0 u).bind fun q5 => (
    (f_X3_isFieldName q4 q5 u).bind fun q6 => (
    if q6 = 0 then (
      f_X4_isFieldName_j36 u)
    else (
      f_X4_isFieldName_j37 1 u)))))
  else (
    f_X4_isFieldName_j36 u))
def f_X3_isFieldType_j15 (z0 : Int32) (u : St) : Option (Int32) :=
  bchk z0 (
  some z0)
def f_X3_isFieldType (p1 : Int32) (p2 : Int32) (u : St) : Option (Int32) :=
  (f_X3_fieldTypeEnd p1 p2 u).bind fun q1 => (
  if q1 = p2 then (
    f_X3_isFieldType_j15 1 u)
  else (
    f_X3_isFieldType_j15 0 u))
def f_X4_isFieldType_j37 (z0 : Int32) (u : St) : Option (Int32) :=
  bchk z0 (
  some z0)
def f_X4_isFieldType_j36 (u : St) : Option (Int32) :=
  f_X4_isFieldType_j37 0 u
def f_X4_isFieldType (p0 : Int32) (u : St) : Option (Int32) :=
  (f_X4_kindOf p0 u).bind fun q1 => (
  if q1 = 1 then (
    (f_X4_textStart p0 u).bind fun q4 => (
    (f_X4_textEnd p0 u).bind fun q5 => (
    (f_X3_isFieldType q4 q5 u).bind fun q6 => (
    if q6 = 0 then (
      f_X4_isFieldType_j36 u)
    else (
      f_X4_isFieldType_j37 1 u)))))
  else (
    f_X4_isFieldType_j36 u))
def f_X4_sameTexts_b20 (x1 : Int32) (x2 : Int32) (x3 : Int32) (u : St) (a : Int32) : Option (((Int32) ⊕ (Unit)) ⊕ (Int32)) :=
  if x3 ≤ a then (
    some (.inl (.inr ())))
  else (
    (f_X4_textStart x1 u).bind fun q5 => (
    chk 400 (q5 + a) (
    (f_X4_textStart x2 u).bind fun q7 => (
    chk 400 (q7 + a) (
    if ((u 22) (Int32.toNatClampNeg (q5 + a))) = ((u 22) (Int32.toNatClampNeg (q7 + a))) then (
      some (.inr (a + 1)))
    else (
      some (.inl (.inl 0))))))))
def f_X4_sameTexts (p0 : Int32) (p1 : Int32) (u : St) : Option (Int32) :=
  (f_X4_first p0 u).bind fun q1 => (
  (f_X4_first p1 u).bind fun q2 => (
  if q1 = q2 then (
    (loopF (f_X4_sameTexts_b20 p0 p1 q1 u) FU 0).bind fun q100 => Sum.elim (fun q10 => some q10) (fun q10 =>
      some 1) q100)
  else (
    some 0)))
def f_X2_addMember_j90_2 (x1 : Int32) (x2 : Int32) (x3 : Int32) (u : St) : Option (((Int32 × St) ⊕ (St)) ⊕ (Int32 × St)) :=
  some (.inr ((x3 + 1), u))
def f_X2_addMember_b2 (x1 : Int32) (x2 : Int32) (a : Int32 × St) : Option (((Int32 × St) ⊕ (St)) ⊕ (Int32 × St)) :=
  if x1 ≤ a.1 then (
    some (.inl (.inr a.2)))
  else (
    chk 51 a.1 (
    (f_X1_u2 (((a.2 24) (Int32.toNatClampNeg a.1)) + 2) a.2).bind fun q3 => (
    (f_X1_u2 (x2 + 2) a.2).bind fun q4 => (
    (f_X4_sameTexts q3 q4 a.2).bind fun q5 => (
    if q5 = 0 then (
      f_X2_addMember_j90_2 x1 x2 a.1 a.2)
    else (
      chk 51 a.1 (
      (f_X1_u2 (((a.2 24) (Int32.toNatClampNeg a.1)) + 4) a.2).bind fun q8 => (
      (f_X1_u2 (x2 + 4) a.2).bind fun q9 => (
      (f_X4_sameTexts q8 q9 a.2).bind fun q10 => (
      if q10 = 0 then (
        f_X2_addMember_j90_2 x1 x2 a.1 a.2)
      else (
        (f_X5_broken 17 (x2 + 2) a.2).bind fun q12 => (
        bchk q12.1 (
        some (.inl (.inl (q12.1, q12.2))))))))))))))))
def f_X2_addMember (p0 : Int32) (p1 : Int32) (u : St) : Option (Int32 × St) :=
  (loopF (f_X2_addMember_b2 p0 p1) FU (0, u)).bind fun q140 => Sum.elim (fun q14 => some q14) (fun q14 =>
    chk 51 p0 (
    some (1, (up q14 24 (Int32.toNatClampNeg p0) p1)))) q140
def f_X2_countBrackets (p0 : Int32) (u : St) : Option (St) :=
  (f_X4_textStart p0 u).bind fun q1 => (
  (f_X4_textEnd p0 u).bind fun q2 => (
  (f_X3_brackets q1 q2 u).bind fun q3 => (
  chk 7 6 (
  chk 7 6 (
  some (up u 23 (Int32.toNatClampNeg 6) (if ((u 23) (Int32.toNatClampNeg 6)) < q3 then q3 else ((u 23) (Int32.toNatClampNeg 6)))))))))
def f_X2_methodFlagsFit_j37 (z0 : Int32) (u : St) : Option (Int32) :=
  bchk z0 (
  some z0)
def f_X2_methodFlagsFit_j36 (u : St) : Option (Int32) :=
  f_X2_methodFlagsFit_j37 0 u
def f_X2_methodFlagsFit_j32 (u : St) : Option (Int32) :=
  f_X2_methodFlagsFit_j37 1 u
def f_X2_methodFlagsFit_j12 (x0 : Int32) (z0 : Int32) (u : St) : Option (Int32) :=
  (f_X2_hasAtMostOneAccess x0 u).bind fun q2 => (
  if q2 = 0 then (
    f_X2_methodFlagsFit_j36 u)
  else (
    if (x0 &&& 1024) = 0 then (
      f_X2_methodFlagsFit_j32 u)
    else (
      if z0 = 0 then (
        f_X2_methodFlagsFit_j32 u)
      else (
        f_X2_methodFlagsFit_j36 u))))
def f_X2_methodFlagsFit (p0 : Int32) (u : St) : Option (Int32) :=
  if (p0 &&& 26) = 0 then (
    f_X2_methodFlagsFit_j12 p0 0 u)
  else (
    f_X2_methodFlagsFit_j12 p0 1 u)
def f_X2_readMemberHead_j213 (x1 : Int32) (x3 : Int32) (u : St) : Option (Int32 × St) :=
  (f_X2_addMember x1 x3 u).bind fun q20 => (
  bchk q20.1 (
  some (q20.1, q20.2)))
def f_X2_readMemberHead_j203 (x1 : Int32) (x2 : Int32) (x3 : Int32) (x6 : Int32) (u : St) : Option (Int32 × St) :=
  if x2 = 0 then (
    (f_X2_countBrackets x6 u).bind fun q22 => (
    f_X2_readMemberHead_j213 x1 x3 q22))
  else (
    f_X2_readMemberHead_j213 x1 x3 u)
def f_X2_readMemberHead_j190 (x3 : Int32) (u : St) : Option (Int32 × St) :=
  (f_X5_broken 16 (x3 + 4) u).bind fun q23 => (
  bchk q23.1 (
  some (q23.1, q23.2)))
def f_X2_readMemberHead_j134 (x1 : Int32) (x2 : Int32) (x3 : Int32) (u : St) : Option (Int32 × St) :=
  (f_X5_step 2 u).bind fun q13 => (
  if q13.1 = 0 then (
    some (0, q13.2))
  else (
    (f_X1_u2 (x3 + 4) q13.2).bind fun q15 => (
    if x2 = 0 then (
      (f_X4_isFieldType q15 q13.2).bind fun q17 => (
      if q17 = 0 then (
        f_X2_readMemberHead_j190 x3 q13.2)
      else (
        f_X2_readMemberHead_j203 x1 x2 x3 q15 q13.2)))
    else (
      (f_X4_isMethodType q15 q13.2).bind fun q25 => (
      if q25 = 0 then (
        f_X2_readMemberHead_j190 x3 q13.2)
      else (
        f_X2_readMemberHead_j203 x1 x2 x3 q15 q13.2))))))
def f_X2_readMemberHead_j121 (x3 : Int32) (u : St) : Option (Int32 × St) :=
  (f_X5_broken 15 (x3 + 2) u).bind fun q27 => (
  bchk q27.1 (
  some (q27.1, q27.2)))
def f_X2_readMemberHead_j65 (x1 : Int32) (x2 : Int32) (x3 : Int32) (u : St) : Option (Int32 × St) :=
  (f_X5_step 2 u).bind fun q7 => (
  if q7.1 = 0 then (
    some (0, q7.2))
  else (
    (f_X1_u2 (x3 + 2) q7.2).bind fun q9 => (
    if x2 = 0 then (
      (f_X4_isFieldName q9 q7.2).bind fun q11 => (
      if q11 = 0 then (
        f_X2_readMemberHead_j121 x3 q7.2)
      else (
        f_X2_readMemberHead_j134 x1 x2 x3 q7.2)))
    else (
      (f_X4_isMemberName q9 q7.2).bind fun q29 => (
      if q29 = 0 then (
        f_X2_readMemberHead_j121 x3 q7.2)
      else (
        f_X2_readMemberHead_j134 x1 x2 x3 q7.2))))))
def f_X2_readMemberHead_j54 (x3 : Int32) (u : St) : Option (Int32 × St) :=
  (f_X5_broken 14 x3 u).bind fun q31 => (
  bchk q31.1 (
  some (q31.1, q31.2)))
def f_X2_readMemberHead (p0 : Int32) (p1 : Int32) (u : St) : Option (Int32 × St) :=
  (f_X5_step 2 u).bind fun q1 => (
  if q1.1 = 0 then (
    some (0, q1.2))
  else (
    (f_X1_u2 (u 4 0) q1.2).bind fun q3 => (
    if p1 = 0 then (
      (f_X2_fieldFlagsFit q3 q1.2).bind fun q5 => (
      if q5 = 0 then (
        f_X2_readMemberHead_j54 (u 4 0) q1.2)
      else (
        f_X2_readMemberHead_j65 p0 p1 (u 4 0) q1.2)))
    else (
      (f_X2_methodFlagsFit q3 q1.2).bind fun q33 => (
      if q33 = 0 then (
        f_X2_readMemberHead_j54 (u 4 0) q1.2)
      else (
        f_X2_readMemberHead_j65 p0 p1 (u 4 0) q1.2))))))
def f_X2_readAttributeName_j58 (z0 : Int32) (u : St) : Option (Int32 × St) :=
  bchk z0 (
  some (z0, u))
def f_X2_readAttributeName_j53 (u : St) : Option (Int32 × St) :=
  f_X2_readAttributeName_j58 1 u
def f_X2_readAttributeName (u : St) : Option (Int32 × St) :=
  (f_X5_step 2 u).bind fun q1 => (
  if q1.1 = 0 then (
    some (0, q1.2))
  else (
    (f_X1_u2 (u 4 0) q1.2).bind fun q3 => (
    (f_X4_kindOf q3 q1.2).bind fun q4 => (
    if q4 = 1 then (
      f_X2_readAttributeName_j53 q1.2)
    else (
      (f_X5_broken 15 (u 4 0) q1.2).bind fun q7 => (
      if q7.1 = 0 then (
        f_X2_readAttributeName_j58 0 q7.2)
      else (
        f_X2_readAttributeName_j53 q7.2)))))))
def f_X2_stepAttributeBytes_j42 (z0 : Int32) (u : St) : Option (Int32 × St) :=
  bchk z0 (
  some (z0, u))
def f_X2_stepAttributeBytes_j41 (u : St) : Option (Int32 × St) :=
  f_X2_stepAttributeBytes_j42 0 u
def f_X2_stepAttributeBytes (u : St) : Option (Int32 × St) :=
  (f_X5_step 4 u).bind fun q1 => (
  if q1.1 = 0 then (
    f_X2_stepAttributeBytes_j41 q1.2)
  else (
    (f_X1_u4 (u 4 0) q1.2).bind fun q4 => (
    (f_X5_step q4 q1.2).bind fun q5 => (
    if q5.1 = 0 then (
      f_X2_stepAttributeBytes_j41 q5.2)
    else (
      f_X2_stepAttributeBytes_j42 1 q5.2)))))
def f_X3_isWord_s2_b15 (x1 : Int32) (u : St) (a : Int32) : Option (((Int32) ⊕ (Unit)) ⊕ (Int32)) :=
  if 13 ≤ a then (
    some (.inl (.inr ())))
  else (
    chk 400 (x1 + a) (
    chk 13 a (
    if ((u 22) (Int32.toNatClampNeg (x1 + a))) = (SCH 2 a) then (
      some (.inr (a + 1)))
    else (
      some (.inl (.inl 0))))))
def f_X3_isWord_s2 (p1 : Int32) (p2 : Int32) (u : St) : Option (Int32) :=
  if (p2 - p1) = 13 then (
    (loopF (f_X3_isWord_s2_b15 p1 u) FU 0).bind fun q60 => Sum.elim (fun q6 => some q6) (fun q6 =>
      some 1) q60)
  else (
    some 0)
def f_X4_isWord_s2 (p0 : Int32) (u : St) : Option (Int32) :=
  (f_X4_textStart p0 u).bind fun q1 => (
  (f_X4_textEnd p0 u).bind fun q2 => (
  (f_X3_isWord_s2 q1 q2 u).bind fun q3 => (
  bchk q3 (
  some q3))))
def f_X2_constantFits_j118 (z0 : Int32) (u : St) : Option (Int32) :=
  bchk z0 (
  some z0)
def f_X2_constantFits_j129 (z0 : Int32) (u : St) : Option (Int32) :=
  bchk z0 (
  some z0)
def f_X2_constantFits (p0 : Int32) (p1 : Int32) (u : St) : Option (Int32) :=
  (f_X1_u4 (p0 + 2) u).bind fun q1 => (
  if q1 = 2 then (
    (f_X1_u2 (p0 + 6) u).bind fun q3 => (
    (f_X4_kindOf q3 u).bind fun q4 => (
    (f_X4_textStart p1 u).bind fun q5 => (
    chk 400 q5 (
    if ((u 22) (Int32.toNatClampNeg q5)) = 66 ∨ ((u 22) (Int32.toNatClampNeg q5)) = 67 ∨ ((u 22) (Int32.toNatClampNeg q5)) = 73 ∨ ((u 22) (Int32.toNatClampNeg q5)) = 83 ∨ ((u 22) (Int32.toNatClampNeg q5)) = 90 then (
      if q4 = 3 then (
        f_X2_constantFits_j118 1 u)
      else (
        f_X2_constantFits_j118 0 u))
    else (
    if ((u 22) (Int32.toNatClampNeg q5)) = 74 then (
      if q4 = 5 then (
        f_X2_constantFits_j129 1 u)
      else (
        f_X2_constantFits_j129 0 u))
    else (
      some 0)))))))
  else (
    some 0))
def f_X2_readFieldAttribute_j22 (u : St) : Option (Int32 × St) :=
  some (0, u)
def f_X2_readFieldAttribute_j64 (u : St) : Option (Int32 × St) :=
  chk 7 5 (
  chk 7 5 (
  some (1, (up u 23 (Int32.toNatClampNeg 5) (((u 23) (Int32.toNatClampNeg 5)) + 1)))))
def f_X2_readFieldAttribute (p0 : Int32) (u : St) : Option (Int32 × St) :=
  (f_X2_readAttributeName u).bind fun q1 => (
  if q1.1 = 0 then (
    f_X2_readFieldAttribute_j22 q1.2)
  else (
    (f_X2_stepAttributeBytes q1.2).bind fun q3 => (
    if q3.1 = 0 then (
      f_X2_readFieldAttribute_j22 q3.2)
    else (
      (f_X1_u2 (u 4 0) q3.2).bind fun q5 => (
      (f_X4_isWord_s2 q5 q3.2).bind fun q6 => (
      if q6 = 0 then (
        f_X2_readFieldAttribute_j64 q3.2)
      else (
        (f_X2_constantFits (u 4 0) p0 q3.2).bind fun q10 => (
        if q10 = 0 then (
          (f_X5_broken 18 (u 4 0) q3.2).bind fun q12 => (
          bchk q12.1 (
          some (q12.1, q12.2))))
        else (
          f_X2_readFieldAttribute_j64 q3.2)))))))))
def f_X2_readFields_b31 (x1 : Int32) (x2 : Int32) (x3 : Int32) (a : Int32 × St) : Option (((Int32 × St) ⊕ (St)) ⊕ (Int32 × St)) :=
  if x3 ≤ a.1 then (
    some (.inl (.inr a.2)))
  else (
    chk 51 x2 (
    (f_X1_u2 (((a.2 24) (Int32.toNatClampNeg x2)) + 4) a.2).bind fun q8 => (
    (f_X2_readFieldAttribute q8 a.2).bind fun q9 => (
    if q9.1 = 0 then (
      some (.inl (.inl (0, q9.2))))
    else (
      some (.inr ((a.1 + 1), q9.2)))))))
def f_X2_readFields_b7 (x1 : Int32) (a : Int32 × St) : Option (((Int32 × St) ⊕ (St)) ⊕ (Int32 × St)) :=
  if x1 ≤ a.1 then (
    some (.inl (.inr a.2)))
  else (
    (f_X2_readMemberHead a.1 0 a.2).bind fun q3 => (
    if q3.1 = 0 then (
      some (.inl (.inl (0, q3.2))))
    else (
      (f_X2_readNumber q3.2).bind fun q5 => (
      (loopF (f_X2_readFields_b31 x1 a.1 q5.1) FU (0, q5.2)).bind fun q110 => Sum.elim (fun q11 => some (.inl (.inl q11))) (fun q11 =>
        if q5.1 = (-1) then (
          some (.inl (.inl (0, q11))))
        else (
          chk 7 1 (
          chk 7 1 (
          some (.inr ((a.1 + 1), (up q11 23 (Int32.toNatClampNeg 1) (((q11 23) (Int32.toNatClampNeg 1)) + 1)))))))) q110))))
def f_X2_readFields_j100 (z0 : Int32) (u : St) : Option (Int32 × St) :=
  bchk z0 (
  some (z0, u))
def f_X2_readFields (u : St) : Option (Int32 × St) :=
  (f_X2_readNumber u).bind fun q1 => (
  (loopF (f_X2_readFields_b7 q1.1) FU (0, q1.2)).bind fun q150 => Sum.elim (fun q15 => some q15) (fun q15 =>
    if q1.1 = (-1) then (
      f_X2_readFields_j100 0 q15)
    else (
      f_X2_readFields_j100 1 q15)) q150)
def f_X3_isWord_s3_b15 (x1 : Int32) (u : St) (a : Int32) : Option (((Int32) ⊕ (Unit)) ⊕ (Int32)) :=
  if 4 ≤ a then (
    some (.inl (.inr ())))
  else (
    chk 400 (x1 + a) (
    chk 4 a (
    if ((u 22) (Int32.toNatClampNeg (x1 + a))) = (SCH 3 a) then (
      some (.inr (a + 1)))
    else (
      some (.inl (.inl 0))))))
def f_X3_isWord_s3 (p1 : Int32) (p2 : Int32) (u : St) : Option (Int32) :=
  if (p2 - p1) = 4 then (
    (loopF (f_X3_isWord_s3_b15 p1 u) FU 0).bind fun q60 => Sum.elim (fun q6 => some q6) (fun q6 =>
      some 1) q60)
  else (
    some 0)
def f_X4_isWord_s3 (p0 : Int32) (u : St) : Option (Int32) :=
  (f_X4_textStart p0 u).bind fun q1 => (
  (f_X4_textEnd p0 u).bind fun q2 => (
  (f_X3_isWord_s3 q1 q2 u).bind fun q3 => (
  bchk q3 (
  some q3))))
def f_X5_confine (p0 : Int32) (p1 : Int32) (p2 : Int32) (u : St) : Option (St) :=
  some (up (up (up u 5 0 p0) 6 0 p1) 7 0 p2)
def f_X2_stepInstructions_j36 (x1 : Int32) (u : St) : Option (Int32 × St) :=
  (f_X5_broken 22 (x1 + 4) u).bind fun q5 => (
  bchk q5.1 (
  some (q5.1, q5.2)))
def f_X2_stepInstructions (p0 : Int32) (u : St) : Option (Int32 × St) :=
  (f_X5_step 8 u).bind fun q1 => (
  if q1.1 = 0 then (
    some (0, q1.2))
  else (
    (f_X1_u4 (p0 + 4) q1.2).bind fun q3 => (
    if q3 < 1 then (
      f_X2_stepInstructions_j36 p0 q1.2)
    else (
      if q3 ≤ 64 then (
        (f_X5_step q3 q1.2).bind fun q8 => (
        bchk q8.1 (
        some (q8.1, q8.2))))
      else (
        f_X2_stepInstructions_j36 p0 q1.2)))))
def f_X2_passAttributes_j26_7 (x1 : Int32) (u : St) : Option (((Int32 × St) ⊕ (St)) ⊕ (Int32 × St)) :=
  some (.inl (.inl (0, u)))
def f_X2_passAttributes_b7 (x1 : Int32) (a : Int32 × St) : Option (((Int32 × St) ⊕ (St)) ⊕ (Int32 × St)) :=
  if x1 ≤ a.1 then (
    some (.inl (.inr a.2)))
  else (
    (f_X2_readAttributeName a.2).bind fun q3 => (
    if q3.1 = 0 then (
      f_X2_passAttributes_j26_7 x1 q3.2)
    else (
      (f_X2_stepAttributeBytes q3.2).bind fun q5 => (
      if q5.1 = 0 then (
        f_X2_passAttributes_j26_7 x1 q5.2)
      else (
        chk 7 5 (
        chk 7 5 (
        some (.inr ((a.1 + 1), (up q5.2 23 (Int32.toNatClampNeg 5) (((q5.2 23) (Int32.toNatClampNeg 5)) + 1)))))))))))
def f_X2_passAttributes_j54 (z0 : Int32) (u : St) : Option (Int32 × St) :=
  bchk z0 (
  some (z0, u))
def f_X2_passAttributes (u : St) : Option (Int32 × St) :=
  (f_X2_readNumber u).bind fun q1 => (
  (loopF (f_X2_passAttributes_b7 q1.1) FU (0, q1.2)).bind fun q90 => Sum.elim (fun q9 => some q9) (fun q9 =>
    if q1.1 = (-1) then (
      f_X2_passAttributes_j54 0 q9)
    else (
      f_X2_passAttributes_j54 1 q9)) q90)
def f_X0_lookAt (p0 : Int32) (u : St) : Option (St) :=
  (f_X1_u2 (p0 + 2) u).bind fun q1 => (
  (f_X1_u4 (p0 + 4) (up u 11 0 q1)).bind fun q2 => (
  (f_X1_u2 ((p0 + 8) + q2) (up (up (up u 11 0 q1) 10 0 q2) 9 0 (p0 + 8))).bind fun q3 => (
  some (up (up (up (up (up u 11 0 q1) 10 0 q2) 9 0 (p0 + 8)) 13 0 q3) 12 0 0))))
def f_X2_readCode_j76 (u : St) : Option (Int32 × St) :=
  some (0, u)
def f_X2_readCode (p0 : Int32) (u : St) : Option (Int32 × St) :=
  (f_X5_confine (u 4 0) 20 p0 (up u 4 0 (p0 + 6))).bind fun q1 => (
  (f_X2_stepInstructions (p0 + 6) q1).bind fun q2 => (
  if q2.1 = 0 then (
    some (0, q2.2))
  else (
    (f_X2_readNumber q2.2).bind fun q4 => (
    if q4.1 = (-1) then (
      f_X2_readCode_j76 q4.2)
    else (
      (f_X5_step (q4.1 * 8) q4.2).bind fun q6 => (
      if q6.1 = 0 then (
        f_X2_readCode_j76 q6.2)
      else (
        (f_X2_passAttributes q6.2).bind fun q8 => (
        if q8.1 = 0 then (
          f_X2_readCode_j76 q8.2)
        else (
          if (q8.2 4 0) = (u 4 0) then (
            (f_X5_release q8.2).bind fun q11 => (
            (f_X0_lookAt (p0 + 6) q11).bind fun q12 => (
            some (1, q12))))
          else (
            (f_X5_broken 20 p0 q8.2).bind fun q13 => (
            bchk q13.1 (
            some (q13.1, q13.2)))))))))))))
def f_X0_tableOf (p0 : Int32) (u : St) : Option (Int32) :=
  some (((p0 + 4) / 4) * 4)
def f_X0_tableSize_j72 (u : St) : Option (Int32) :=
  some 0
def f_X0_tableSize (p0 : Int32) (u : St) : Option (Int32) :=
  (f_X0_tableOf p0 u).bind fun q1 => (
  if (q1 + 12) ≤ (u 10 0) then (
    (f_X1_u4 (((u 9 0) + q1) + 4) u).bind fun q3 => (
    (f_X1_u4 (((u 9 0) + q1) + 8) u).bind fun q4 => (
    if 0 < (lg_cmp (q3.toInt64) (q4.toInt64)) then (
      f_X0_tableSize_j72 u)
    else (
      if (lg_cmp ((q4.toInt64) - (q3.toInt64)) 8) < 0 then (
        some (((q1 + 12) + (4 * ((((q4.toInt64) - (q3.toInt64)) + 1).toInt32))) - p0))
      else (
        f_X0_tableSize_j72 u)))))
  else (
    some 0))
def f_X0_wideSize (p0 : Int32) (u : St) : Option (Int32) :=
  if (p0 + 1) < (u 10 0) then (
    chk 400 (((u 9 0) + p0) + 1) (
    if ((u 22) (Int32.toNatClampNeg (((u 9 0) + p0) + 1))) = 21 ∨ ((u 22) (Int32.toNatClampNeg (((u 9 0) + p0) + 1))) = 54 then (
      some 4)
    else (
    if ((u 22) (Int32.toNatClampNeg (((u 9 0) + p0) + 1))) = 132 then (
      some 6)
    else (
      some 0))))
  else (
    some 0)
def f_X0_sizeOf (p0 : Int32) (u : St) : Option (Int32) :=
  chk 400 ((u 9 0) + p0) (
  if ((u 22) (Int32.toNatClampNeg ((u 9 0) + p0))) = 0 ∨ ((u 22) (Int32.toNatClampNeg ((u 9 0) + p0))) = 1 ∨ ((u 22) (Int32.toNatClampNeg ((u 9 0) + p0))) = 3 ∨ ((u 22) (Int32.toNatClampNeg ((u 9 0) + p0))) = 87 ∨ ((u 22) (Int32.toNatClampNeg ((u 9 0) + p0))) = 96 ∨ ((u 22) (Int32.toNatClampNeg ((u 9 0) + p0))) = 172 ∨ ((u 22) (Int32.toNatClampNeg ((u 9 0) + p0))) = 177 ∨ ((u 22) (Int32.toNatClampNeg ((u 9 0) + p0))) = 191 then (
    some 1)
  else (
  if ((u 22) (Int32.toNatClampNeg ((u 9 0) + p0))) = 16 ∨ ((u 22) (Int32.toNatClampNeg ((u 9 0) + p0))) = 18 ∨ ((u 22) (Int32.toNatClampNeg ((u 9 0) + p0))) = 21 ∨ ((u 22) (Int32.toNatClampNeg ((u 9 0) + p0))) = 54 then (
    some 2)
  else (
  if ((u 22) (Int32.toNatClampNeg ((u 9 0) + p0))) = 17 ∨ ((u 22) (Int32.toNatClampNeg ((u 9 0) + p0))) = 132 ∨ ((u 22) (Int32.toNatClampNeg ((u 9 0) + p0))) = 153 ∨ ((u 22) (Int32.toNatClampNeg ((u 9 0) + p0))) = 167 ∨ ((u 22) (Int32.toNatClampNeg ((u 9 0) + p0))) = 184 then (
    some 3)
  else (
  if ((u 22) (Int32.toNatClampNeg ((u 9 0) + p0))) = 170 then (
    (f_X0_tableSize p0 u).bind fun q3 => (
    some q3))
  else (
  if ((u 22) (Int32.toNatClampNeg ((u 9 0) + p0))) = 196 then (
    (f_X0_wideSize p0 u).bind fun q4 => (
    some q4))
  else (
    some 0))))))
def f_X0_operandsFit_j126 (z0 : Int32) (u : St) : Option (Int32) :=
  bchk z0 (
  some z0)
def f_X0_operandsFit_j121 (u : St) : Option (Int32) :=
  f_X0_operandsFit_j126 1 u
def f_X0_operandsFit_j148 (z0 : Int32) (u : St) : Option (Int32) :=
  bchk z0 (
  some z0)
def f_X0_operandsFit_j174 (z0 : Int32) (u : St) : Option (Int32) :=
  bchk z0 (
  some z0)
def f_X0_operandsFit_j197 (z0 : Int32) (u : St) : Option (Int32) :=
  bchk z0 (
  some z0)
def f_X0_operandsFit (p0 : Int32) (u : St) : Option (Int32) :=
  chk 400 ((u 9 0) + p0) (
  if ((u 22) (Int32.toNatClampNeg ((u 9 0) + p0))) = 18 then (
    chk 400 (((u 9 0) + p0) + 1) (
    (f_X4_kindOf ((u 22) (Int32.toNatClampNeg (((u 9 0) + p0) + 1))) u).bind fun q4 => (
    if q4 = 3 then (
      f_X0_operandsFit_j121 u)
    else (
      chk 400 (((u 9 0) + p0) + 1) (
      (f_X4_kindOf ((u 22) (Int32.toNatClampNeg (((u 9 0) + p0) + 1))) u).bind fun q8 => (
      if q8 = 8 then (
        f_X0_operandsFit_j121 u)
      else (
        f_X0_operandsFit_j126 0 u)))))))
  else (
  if ((u 22) (Int32.toNatClampNeg ((u 9 0) + p0))) = 21 ∨ ((u 22) (Int32.toNatClampNeg ((u 9 0) + p0))) = 54 ∨ ((u 22) (Int32.toNatClampNeg ((u 9 0) + p0))) = 132 then (
    chk 400 (((u 9 0) + p0) + 1) (
    if (u 11 0) ≤ ((u 22) (Int32.toNatClampNeg (((u 9 0) + p0) + 1))) then (
      f_X0_operandsFit_j148 0 u)
    else (
      f_X0_operandsFit_j148 1 u)))
  else (
  if ((u 22) (Int32.toNatClampNeg ((u 9 0) + p0))) = 184 then (
    (f_X1_u2 (((u 9 0) + p0) + 1) u).bind fun q13 => (
    (f_X4_kindOf q13 u).bind fun q14 => (
    if q14 = 10 then (
      f_X0_operandsFit_j174 1 u)
    else (
      f_X0_operandsFit_j174 0 u))))
  else (
  if ((u 22) (Int32.toNatClampNeg ((u 9 0) + p0))) = 196 then (
    (f_X1_u2 ((((u 9 0) + p0) + 1) + 1) u).bind fun q17 => (
    if (u 11 0) ≤ q17 then (
      f_X0_operandsFit_j197 0 u)
    else (
      f_X0_operandsFit_j197 1 u)))
  else (
    some 1)))))
def f_X0_judgeInstructions_b2 (a : Int32 × St) : Option (((Int32 × St) ⊕ (St)) ⊕ (Int32 × St)) :=
  if (a.2 10 0) ≤ a.1 then (
    some (.inl (.inr a.2)))
  else (
    chk 64 a.1 (
    some (.inr ((a.1 + 1), (up a.2 27 (Int32.toNatClampNeg a.1) (vp_nar .boolean 0))))))
def f_X0_judgeInstructions_j54_25 (x1 : Int32) (u : St) : Option (((Int32 × St) ⊕ (St)) ⊕ (Int32 × St)) :=
  (f_X5_broken 23 ((u 9 0) + x1) u).bind fun q7 => (
  bchk q7.1 (
  some (.inl (.inl (q7.1, q7.2)))))
def f_X0_judgeInstructions_b25 (a : Int32 × St) : Option (((Int32 × St) ⊕ (St)) ⊕ (Int32 × St)) :=
  if (a.2 10 0) ≤ a.1 then (
    some (.inl (.inr a.2)))
  else (
    (f_X0_sizeOf a.1 a.2).bind fun q5 => (
    if q5 < 1 then (
      f_X0_judgeInstructions_j54_25 a.1 a.2)
    else (
      if q5 ≤ ((a.2 10 0) - a.1) then (
        (f_X0_operandsFit a.1 a.2).bind fun q10 => (
        if q10 = 0 then (
          (f_X5_broken 24 ((a.2 9 0) + a.1) a.2).bind fun q14 => (
          bchk q14.1 (
          some (.inl (.inl (q14.1, q14.2))))))
        else (
          chk 64 a.1 (
          chk 64 (a.2 12 0) (
          some (.inr ((a.1 + q5), (up (up (up a.2 27 (Int32.toNatClampNeg a.1) (vp_nar .boolean 1)) 28 (Int32.toNatClampNeg (a.2 12 0)) a.1) 12 0 ((a.2 12 0) + 1)))))))))
      else (
        f_X0_judgeInstructions_j54_25 a.1 a.2))))
def f_X0_judgeInstructions (u : St) : Option (Int32 × St) :=
  (loopF (f_X0_judgeInstructions_b2) FU (0, u)).bind fun q30 => Sum.elim (fun q3 => some q3) (fun q3 =>
    (loopF (f_X0_judgeInstructions_b25) FU (0, q3)).bind fun q160 => Sum.elim (fun q16 => some q16) (fun q16 =>
      some (1, q16)) q160) q30
def f_X0_isInstruction_j31 (z0 : Int32) (u : St) : Option (Int32) :=
  bchk z0 (
  some z0)
def f_X0_isInstruction_j30 (u : St) : Option (Int32) :=
  f_X0_isInstruction_j31 0 u
def f_X0_isInstruction (p0 : Int64) (u : St) : Option (Int32) :=
  if (lg_cmp p0 0) < 0 then (
    f_X0_isInstruction_j30 u)
  else (
    if 0 ≤ (lg_cmp p0 ((u 10 0).toInt64)) then (
      f_X0_isInstruction_j30 u)
    else (
      chk 64 (p0.toInt32) (
      if ((u 27) (Int32.toNatClampNeg (p0.toInt32))) = 0 then (
        f_X0_isInstruction_j30 u)
      else (
        f_X0_isInstruction_j31 1 u))))
def f_X0_tableFits_b59 (x1 : Int32) (x2 : Int32) (x3 : Int32) (u : St) (a : Int32) : Option (((Int32) ⊕ (Unit)) ⊕ (Int32)) :=
  if x3 ≤ a then (
    some (.inl (.inr ())))
  else (
    (f_X1_u4 ((x2 + 12) + (4 * a)) u).bind fun q8 => (
    (f_X0_isInstruction ((x1.toInt64) + (q8.toInt64)) u).bind fun q9 => (
    if q9 = 0 then (
      some (.inl (.inl 0)))
    else (
      some (.inr (a + 1))))))
def f_X0_tableFits (p0 : Int32) (u : St) : Option (Int32) :=
  (f_X0_tableOf p0 u).bind fun q1 => (
  (f_X1_u4 ((u 9 0) + q1) u).bind fun q2 => (
  (f_X0_isInstruction ((p0.toInt64) + (q2.toInt64)) u).bind fun q3 => (
  if q3 = 0 then (
    some 0)
  else (
    (f_X1_u4 (((u 9 0) + q1) + 8) u).bind fun q5 => (
    (f_X1_u4 (((u 9 0) + q1) + 4) u).bind fun q6 => (
    (loopF (f_X0_tableFits_b59 p0 ((u 9 0) + q1) ((q5 - q6) + 1) u) FU 0).bind fun q110 => Sum.elim (fun q11 => some q11) (fun q11 =>
      some 1) q110))))))
def f_X0_jumpsFit (p0 : Int32) (u : St) : Option (Int32) :=
  chk 400 ((u 9 0) + p0) (
  if ((u 22) (Int32.toNatClampNeg ((u 9 0) + p0))) = 153 ∨ ((u 22) (Int32.toNatClampNeg ((u 9 0) + p0))) = 167 then (
    (f_X1_u2 (((u 9 0) + p0) + 1) u).bind fun q3 => (
    (f_X0_isInstruction ((p0 + (q3.toInt16.toInt32)).toInt64) u).bind fun q4 => (
    bchk q4 (
    some q4))))
  else (
  if ((u 22) (Int32.toNatClampNeg ((u 9 0) + p0))) = 170 then (
    (f_X0_tableFits p0 u).bind fun q6 => (
    bchk q6 (
    some q6)))
  else (
    some 1)))
def f_X0_judgeJumps_b2 (a : Int32 × St) : Option (((Int32 × St) ⊕ (St)) ⊕ (Int32 × St)) :=
  if (a.2 12 0) ≤ a.1 then (
    some (.inl (.inr a.2)))
  else (
    chk 64 a.1 (
    (f_X0_jumpsFit ((a.2 28) (Int32.toNatClampNeg a.1)) a.2).bind fun q3 => (
    if q3 = 0 then (
      chk 64 a.1 (
      (f_X5_broken 25 ((a.2 9 0) + ((a.2 28) (Int32.toNatClampNeg a.1))) a.2).bind fun q6 => (
      bchk q6.1 (
      some (.inl (.inl (q6.1, q6.2)))))))
    else (
      some (.inr ((a.1 + 1), a.2))))))
def f_X0_judgeJumps (u : St) : Option (Int32 × St) :=
  (loopF (f_X0_judgeJumps_b2) FU (0, u)).bind fun q80 => Sum.elim (fun q8 => some q8) (fun q8 =>
    some (1, q8)) q80
def f_X0_judgeLast (u : St) : Option (Int32 × St) :=
  chk 64 ((u 12 0) - 1) (
  chk 400 ((u 9 0) + ((u 28) (Int32.toNatClampNeg ((u 12 0) - 1)))) (
  if ((u 22) (Int32.toNatClampNeg ((u 9 0) + ((u 28) (Int32.toNatClampNeg ((u 12 0) - 1)))))) = 167 ∨ ((u 22) (Int32.toNatClampNeg ((u 9 0) + ((u 28) (Int32.toNatClampNeg ((u 12 0) - 1)))))) = 170 ∨ ((u 22) (Int32.toNatClampNeg ((u 9 0) + ((u 28) (Int32.toNatClampNeg ((u 12 0) - 1)))))) = 172 ∨ ((u 22) (Int32.toNatClampNeg ((u 9 0) + ((u 28) (Int32.toNatClampNeg ((u 12 0) - 1)))))) = 177 ∨ ((u 22) (Int32.toNatClampNeg ((u 9 0) + ((u 28) (Int32.toNatClampNeg ((u 12 0) - 1)))))) = 191 then (
    some (1, u))
  else (
    (f_X5_broken 26 ((u 9 0) + ((u 28) (Int32.toNatClampNeg ((u 12 0) - 1)))) u).bind fun q4 => (
    bchk q4.1 (
    some (q4.1, q4.2))))))
def f_X0_handlerFits_j106 (z0 : Int32) (u : St) : Option (Int32) :=
  bchk z0 (
  some z0)
def f_X0_handlerFits_j105 (u : St) : Option (Int32) :=
  f_X0_handlerFits_j106 0 u
def f_X0_handlerFits_j101 (u : St) : Option (Int32) :=
  f_X0_handlerFits_j106 1 u
def f_X0_handlerFits_j59 (x1 : Int32) (x2 : Int32) (x3 : Int32) (x4 : Int32) (u : St) : Option (Int32) :=
  (f_X1_u2 (x1 + 4) u).bind fun q8 => (
  (f_X0_isInstruction (q8.toInt64) u).bind fun q9 => (
  if q9 = 0 then (
    f_X0_handlerFits_j105 u)
  else (
    if x3 ≤ x2 then (
      f_X0_handlerFits_j105 u)
    else (
      if x4 = 0 then (
        f_X0_handlerFits_j101 u)
      else (
        (f_X4_kindOf x4 u).bind fun q13 => (
        if q13 = 7 then (
          f_X0_handlerFits_j101 u)
        else (
          f_X0_handlerFits_j105 u)))))))
def f_X0_handlerFits (p0 : Int32) (u : St) : Option (Int32) :=
  (f_X1_u2 p0 u).bind fun q1 => (
  (f_X1_u2 (p0 + 2) u).bind fun q2 => (
  (f_X1_u2 (p0 + 6) u).bind fun q3 => (
  (f_X0_isInstruction (q1.toInt64) u).bind fun q4 => (
  if q4 = 0 then (
    f_X0_handlerFits_j105 u)
  else (
    if q2 = (u 10 0) then (
      f_X0_handlerFits_j59 p0 q1 q2 q3 u)
    else (
      (f_X0_isInstruction (q2.toInt64) u).bind fun q15 => (
      if q15 = 0 then (
        f_X0_handlerFits_j105 u)
      else (
        f_X0_handlerFits_j59 p0 q1 q2 q3 u))))))))
def f_X0_judgeHandlers_b2 (a : Int32 × St) : Option (((Int32 × St) ⊕ (St)) ⊕ (Int32 × St)) :=
  if (a.2 13 0) ≤ a.1 then (
    some (.inl (.inr a.2)))
  else (
    (f_X0_handlerFits ((((a.2 9 0) + (a.2 10 0)) + 2) + (a.1 * 8)) a.2).bind fun q2 => (
    if q2 = 0 then (
      (f_X5_broken 27 ((((a.2 9 0) + (a.2 10 0)) + 2) + (a.1 * 8)) a.2).bind fun q4 => (
      bchk q4.1 (
      some (.inl (.inl (q4.1, q4.2))))))
    else (
      some (.inr ((a.1 + 1), a.2)))))
def f_X0_judgeHandlers (u : St) : Option (Int32 × St) :=
  (loopF (f_X0_judgeHandlers_b2) FU (0, u)).bind fun q60 => Sum.elim (fun q6 => some q6) (fun q6 =>
    some (1, q6)) q60
def f_X2_readMethodAttribute_j167 (u : St) : Option (Int32 × St) :=
  chk 7 5 (
  chk 7 5 (
  some (1, (up u 23 (Int32.toNatClampNeg 5) (((u 23) (Int32.toNatClampNeg 5)) + 1)))))
def f_X2_readMethodAttribute_j128 (z0 : Int32) (u : St) : Option (Int32 × St) :=
  if z0 = 0 then (
    some (0, u))
  else (
    chk 7 3 (
    chk 7 3 (
    chk 7 4 (
    chk 7 4 (
    f_X2_readMethodAttribute_j167 (up (up u 23 (Int32.toNatClampNeg 3) (((u 23) (Int32.toNatClampNeg 3)) + (u 12 0))) 23 (Int32.toNatClampNeg 4) ((((up u 23 (Int32.toNatClampNeg 3) (((u 23) (Int32.toNatClampNeg 3)) + (u 12 0))) 23) (Int32.toNatClampNeg 4)) + (u 13 0))))))))
def f_X2_readMethodAttribute_j127 (u : St) : Option (Int32 × St) :=
  f_X2_readMethodAttribute_j128 0 u
def f_X2_readMethodAttribute_j57 (x1 : Int32) (x2 : Int32) (u : St) : Option (Int32 × St) :=
  (f_X2_stepAttributeBytes u).bind fun q6 => (
  if q6.1 = 0 then (
    some (0, q6.2))
  else (
    if x2 = 0 then (
      f_X2_readMethodAttribute_j167 q6.2)
    else (
      (f_X2_readCode x1 (up q6.2 14 0 1)).bind fun q11 => (
      if q11.1 = 0 then (
        f_X2_readMethodAttribute_j127 q11.2)
      else (
        (f_X0_judgeInstructions q11.2).bind fun q18 => (
        if q18.1 = 0 then (
          f_X2_readMethodAttribute_j127 q18.2)
        else (
          (f_X0_judgeJumps q18.2).bind fun q20 => (
          if q20.1 = 0 then (
            f_X2_readMethodAttribute_j127 q20.2)
          else (
            (f_X0_judgeLast q20.2).bind fun q22 => (
            if q22.1 = 0 then (
              f_X2_readMethodAttribute_j127 q22.2)
            else (
              (f_X0_judgeHandlers q22.2).bind fun q24 => (
              if q24.1 = 0 then (
                f_X2_readMethodAttribute_j127 q24.2)
              else (
                f_X2_readMethodAttribute_j128 1 q24.2)))))))))))))
def f_X2_readMethodAttribute (u : St) : Option (Int32 × St) :=
  (f_X2_readAttributeName u).bind fun q1 => (
  if q1.1 = 0 then (
    some (0, q1.2))
  else (
    (f_X1_u2 (u 4 0) q1.2).bind fun q3 => (
    (f_X4_isWord_s3 q3 q1.2).bind fun q4 => (
    if q4 = 0 then (
      f_X2_readMethodAttribute_j57 (u 4 0) q4 q1.2)
    else (
      if (q1.2 14 0) = 0 then (
        f_X2_readMethodAttribute_j57 (u 4 0) q4 q1.2)
      else (
        (f_X5_broken 19 (u 4 0) q1.2).bind fun q27 => (
        bchk q27.1 (
        some (q27.1, q27.2)))))))))
def f_X2_readMethods_b36 (x1 : Int32) (x2 : Int32) (x3 : Int32) (a : Int32 × St) : Option (((Int32 × St) ⊕ (St)) ⊕ (Int32 × St)) :=
  if x3 ≤ a.1 then (
    some (.inl (.inr a.2)))
  else (
    (f_X2_readMethodAttribute a.2).bind fun q7 => (
    if q7.1 = 0 then (
      some (.inl (.inl (0, q7.2))))
    else (
      some (.inr ((a.1 + 1), q7.2)))))
def f_X2_readMethods_j89_7 (x1 : Int32) (x2 : Int32) (z0 : Int32) (u : St) : Option (((Int32 × St) ⊕ (St)) ⊕ (Int32 × St)) :=
  if z0 = (u 14 0) then (
    chk 51 x2 (
    (f_X5_broken 21 ((u 24) (Int32.toNatClampNeg x2)) u).bind fun q18 => (
    bchk q18.1 (
    some (.inl (.inl (q18.1, q18.2)))))))
  else (
    chk 7 2 (
    chk 7 2 (
    some (.inr ((x2 + 1), (up u 23 (Int32.toNatClampNeg 2) (((u 23) (Int32.toNatClampNeg 2)) + 1)))))))
def f_X2_readMethods_b7 (x1 : Int32) (a : Int32 × St) : Option (((Int32 × St) ⊕ (St)) ⊕ (Int32 × St)) :=
  if x1 ≤ a.1 then (
    some (.inl (.inr a.2)))
  else (
    (f_X2_readMemberHead a.1 1 a.2).bind fun q3 => (
    if q3.1 = 0 then (
      some (.inl (.inl (0, q3.2))))
    else (
      (f_X2_readNumber (up q3.2 14 0 0)).bind fun q5 => (
      (loopF (f_X2_readMethods_b36 x1 a.1 q5.1) FU (0, q5.2)).bind fun q90 => Sum.elim (fun q9 => some (.inl (.inl q9))) (fun q9 =>
        if q5.1 = (-1) then (
          some (.inl (.inl (0, q9))))
        else (
          chk 51 a.1 (
          (f_X1_u2 ((q9 24) (Int32.toNatClampNeg a.1)) q9).bind fun q12 => (
          if (q12 &&& 1280) = 0 then (
            f_X2_readMethods_j89_7 x1 a.1 0 q9)
          else (
            f_X2_readMethods_j89_7 x1 a.1 1 q9))))) q90))))
def f_X2_readMethods_j142 (z0 : Int32) (u : St) : Option (Int32 × St) :=
  bchk z0 (
  some (z0, u))
def f_X2_readMethods (u : St) : Option (Int32 × St) :=
  (f_X2_readNumber u).bind fun q1 => (
  (loopF (f_X2_readMethods_b7 q1.1) FU (0, q1.2)).bind fun q200 => Sum.elim (fun q20 => some q20) (fun q20 =>
    if q1.1 = (-1) then (
      f_X2_readMethods_j142 0 q20)
    else (
      f_X2_readMethods_j142 1 q20)) q200)
def f_X2_run_b16 (a : Int32 × St) : Option (((Int32 × St) ⊕ (St)) ⊕ (Int32 × St)) :=
  if 7 ≤ a.1 then (
    some (.inl (.inr a.2)))
  else (
    chk 7 a.1 (
    some (.inr ((a.1 + 1), (up a.2 23 (Int32.toNatClampNeg a.1) 0)))))
def f_X2_run_j164 (u : St) : Option (Int32 × St) :=
  some ((u 2 0), u)
def f_X2_run_j112 (z0 : Int32) (u : St) : Option (Int32 × St) :=
  chk 7 0 (
  if z0 = 0 then (
    f_X2_run_j164 (up u 23 (Int32.toNatClampNeg 0) (u 8 0)))
  else (
    if (u 1 0) ≤ (u 4 0) then (
      f_X2_run_j164 (up u 23 (Int32.toNatClampNeg 0) (u 8 0)))
    else (
      (f_X5_broken 28 (u 4 0) (up u 23 (Int32.toNatClampNeg 0) (u 8 0))).bind fun q11 => (
      f_X2_run_j164 q11.2))))
def f_X2_run_j111 (u : St) : Option (Int32 × St) :=
  f_X2_run_j112 0 u
def f_X2_run (u : St) : Option (Int32 × St) :=
  (f_X5_restart u).bind fun q1 => (
  (f_X4_forget q1).bind fun q2 => (
  (loopF (f_X2_run_b16) FU (0, q2)).bind fun q50 => Sum.elim (fun q5 => some q5) (fun q5 =>
    (f_X2_readHead q5).bind fun q6 => (
    if q6.1 = 0 then (
      f_X2_run_j111 q6.2)
    else (
      (f_X4_readEntries q6.2).bind fun q12 => (
      if q12.1 = 0 then (
        f_X2_run_j111 q12.2)
      else (
        (f_X4_judgeReferences q12.2).bind fun q14 => (
        if q14.1 = 0 then (
          f_X2_run_j111 q14.2)
        else (
          (f_X4_judgeTexts q14.2).bind fun q16 => (
          if q16.1 = 0 then (
            f_X2_run_j111 q16.2)
          else (
            (f_X2_readClass q16.2).bind fun q18 => (
            if q18.1 = 0 then (
              f_X2_run_j111 q18.2)
            else (
              (f_X2_readInterfaces q18.2).bind fun q20 => (
              if q20.1 = 0 then (
                f_X2_run_j111 q20.2)
              else (
                (f_X2_readFields q20.2).bind fun q22 => (
                if q22.1 = 0 then (
                  f_X2_run_j111 q22.2)
                else (
                  (f_X2_readMethods q22.2).bind fun q24 => (
                  if q24.1 = 0 then (
                    f_X2_run_j111 q24.2)
                  else (
                    (f_X2_passAttributes q24.2).bind fun q26 => (
                    if q26.1 = 0 then (
                      f_X2_run_j111 q26.2)
                    else (
                      f_X2_run_j112 1 q26.2))))))))))))))))))) q50))
def f_X6_judge (u : St) : Option (Int32 × St) :=
  (f_X2_run u).bind fun q1 => (
  chk 29 q1.1 (
  chk 29 q1.1 (
  some (q1.1, (up (up q1.2 20 (Int32.toNatClampNeg q1.1) (((q1.2 20) (Int32.toNatClampNeg q1.1)) + 1)) 0 0 ((q1.2 0 0) + 1))))))
def f_X6_place_j27 (z0 : Int32) (u : St) : Option (Int32) :=
  some z0
def f_X6_place (u : St) : Option (Int32) :=
  if (u 2 0) = 0 then (
    f_X6_place_j27 (-1) u)
  else (
    f_X6_place_j27 (u 3 0) u)
def f_X6_shrink_j129_41 (x1 : Int32) (x2 : Int32) (x3 : Int32) (x4 : Int32) (u : St) : Option (((Int32 × St) ⊕ (St)) ⊕ (Int32 × St)) :=
  some (.inr ((x4 + (-1)), u))
def f_X6_shrink_b41 (x1 : Int32) (x2 : Int32) (x3 : Int32) (a : Int32 × St) : Option (((Int32 × St) ⊕ (St)) ⊕ (Int32 × St)) :=
  if a.1 < 0 then (
    some (.inl (.inr a.2)))
  else (
    (f_X1_holds a.1 x3 a.2).bind fun q5 => (
    if q5 = 0 then (
      f_X6_shrink_j129_41 x1 x2 x3 a.1 a.2)
    else (
      cchk a.1 0 x3 400 32 (
      (f_X1_close a.1 x3 (upA a.2 21 (va_cpy (a.2 22) (a.2 21) (Int32.toNatClampNeg a.1) (Int32.toNatClampNeg 0) (Int32.toNatClampNeg x3)))).bind fun q8 => (
      (f_X2_run q8).bind fun q9 => (
      if q9.1 = x2 then (
        f_X6_shrink_j129_41 x1 x2 x3 a.1 q9.2)
      else (
        (f_X1_open a.1 x3 q9.2).bind fun q11 => (
        cchk 0 a.1 x3 32 400 (
        f_X6_shrink_j129_41 x1 x2 x3 a.1 (upA q11 22 (va_cpy (q11 21) (q11 22) (Int32.toNatClampNeg 0) (Int32.toNatClampNeg a.1) (Int32.toNatClampNeg x3))))))))))))
def f_X6_shrink_b25 (x1 : Int32) (x2 : Int32) (a : Int32 × St) : Option (((Int32 × St) ⊕ (St)) ⊕ (Int32 × St)) :=
  if a.1 < 1 then (
    some (.inl (.inr a.2)))
  else (
    (loopF (f_X6_shrink_b41 x1 x2 a.1) FU (((a.2 1 0) - a.1), a.2)).bind fun q130 => Sum.elim (fun q13 => some (.inl (.inl q13))) (fun q13 =>
      some (.inr ((a.1 / 2), q13))) q130)
def f_X6_shrink (u : St) : Option (Int32 × St) :=
  (f_X2_run u).bind fun q1 => (
  if q1.1 = 0 then (
    some (0, q1.2))
  else (
    (loopF (f_X6_shrink_b25 (u 1 0) q1.1) FU (32, q1.2)).bind fun q140 => Sum.elim (fun q14 => some q14) (fun q14 =>
      (f_X2_run q14).bind fun q15 => (
      some (((u 1 0) - (q15.2 1 0)), q15.2))) q140))
def f_X6_at_j25 (z0 : Int32) (u : St) : Option (Int32) :=
  some z0
def f_X6_at (p0 : Int32) (u : St) : Option (Int32) :=
  (f_X1_holds p0 1 u).bind fun q1 => (
  if q1 = 0 then (
    f_X6_at_j25 (-1) u)
  else (
    chk 400 p0 (
    f_X6_at_j25 ((u 22) (Int32.toNatClampNeg p0)) u)))
def f_X6_read_j10 (u : St) : Option (Int32) :=
  some (-1)
def f_X6_read (p0 : Int32) (u : St) : Option (Int32) :=
  if p0 < 0 then (
    f_X6_read_j10 u)
  else (
    if p0 < 7 then (
      chk 7 p0 (
      some ((u 23) (Int32.toNatClampNeg p0))))
    else (
      f_X6_read_j10 u))
def f_X6_found_j20 (z0 : Int32) (u : St) : Option (Int32) :=
  some z0
def f_X6_found_j10 (u : St) : Option (Int32) :=
  f_X6_found_j20 (-1) u
def f_X6_found (p0 : Int32) (u : St) : Option (Int32) :=
  if p0 < 0 then (
    f_X6_found_j10 u)
  else (
    if p0 ≤ 28 then (
      chk 29 p0 (
      f_X6_found_j20 ((u 20) (Int32.toNatClampNeg p0)) u))
    else (
      f_X6_found_j10 u))
def f_X6_rulesFound_j22_4 (x1 : Int32) (x2 : Int32) (u : St) : Option (((Int32) ⊕ (Int32)) ⊕ (Int32 × Int32)) :=
  some (.inr (x1, (x2 + 1)))
def f_X6_rulesFound_b4 (u : St) (a : Int32 × Int32) : Option (((Int32) ⊕ (Int32)) ⊕ (Int32 × Int32)) :=
  if 28 < a.2 then (
    some (.inl (.inr a.1)))
  else (
    chk 29 a.2 (
    if ((u 20) (Int32.toNatClampNeg a.2)) ≤ 0 then (
      f_X6_rulesFound_j22_4 a.1 a.2 u)
    else (
      f_X6_rulesFound_j22_4 (a.1 + 1) a.2 u)))
def f_X6_rulesFound (u : St) : Option (Int32) :=
  (loopF (f_X6_rulesFound_b4 u) FU (0, 1)).bind fun q40 => Sum.elim (fun q4 => some q4) (fun q4 =>
    some q4) q40
def f_X6_count (p0 : Int32) (u : St) : Option (Int32) :=
  if p0 = 0 then (
    some (u 1 0))
  else (
  if p0 = 1 then (
    (f_X6_rulesFound u).bind fun q2 => (
    some q2))
  else (
  if p0 = 2 then (
    some (u 0 0))
  else (
    some (-1))))
