def f_X7_put_b36 (x2 : Int32) (a : Int32 × St) : Option (((Int32 × St) ⊕ (St)) ⊕ (Int32 × St)) :=
  if a.1 < 0 then (
    some (.inl (.inr a.2)))
  else (
    chk 400 (a.2 0 0) (
    some (.inr ((a.1 + (-1)), (up (up a.2 30 (Int32.toNatClampNeg (a.2 0 0)) ((x2 >>> (((8 * a.1) : Int32) &&& 31)) &&& 255)) 0 0 ((a.2 0 0) + 1))))))
def f_X7_put_j17 (x1 : Int32) (x2 : Int32) (u : St) : Option (Int32 × St) :=
  if ((u 0 0) + x1) ≤ 400 then (
    (loopF (f_X7_put_b36 x2) FU ((x1 - 1), u)).bind fun q50 => Sum.elim (fun q5 => some q5) (fun q5 =>
      some ((q5 0 0), q5)) q50)
  else (
    some ((-2), u))
def f_X7_put (p0 : Int32) (p1 : Int32) (u : St) : Option (Int32 × St) :=
  if p0 = 1 then (
    f_X7_put_j17 p0 p1 u)
  else (
    if p0 = 2 then (
      f_X7_put_j17 p0 p1 u)
    else (
      if p0 = 4 then (
        f_X7_put_j17 p0 p1 u)
      else (
        some ((-1), u))))
def f_X7_text_j10 (u : St) : Option (Int32 × St) :=
  some ((-1), u)
def f_X7_text_b66 (x1 : Int32) (x2 : Int64) (a : Int32 × St) : Option (((Int32 × St) ⊕ (St)) ⊕ (Int32 × St)) :=
  if x1 ≤ a.1 then (
    some (.inl (.inr a.2)))
  else (
    chk 400 (((a.2 0 0) + 3) + a.1) (
    some (.inr ((a.1 + 1), (up a.2 30 (Int32.toNatClampNeg (((a.2 0 0) + 3) + a.1)) (((x2 >>> ((Int32.toInt64 (8 * a.1)) &&& 63)).toInt32) &&& 255))))))
def f_X7_text (p0 : Int32) (p1 : Int64) (u : St) : Option (Int32 × St) :=
  if p0 < 0 then (
    f_X7_text_j10 u)
  else (
    if p0 ≤ 8 then (
      if (((u 0 0) + 3) + p0) ≤ 400 then (
        chk 400 (u 0 0) (
        chk 400 ((u 0 0) + 1) (
        chk 400 ((u 0 0) + 2) (
        (loopF (f_X7_text_b66 p0 p1) FU (0, (up (up (up u 30 (Int32.toNatClampNeg (u 0 0)) 1) 30 (Int32.toNatClampNeg ((u 0 0) + 1)) 0) 30 (Int32.toNatClampNeg ((u 0 0) + 2)) p0))).bind fun q90 => Sum.elim (fun q9 => some q9) (fun q9 =>
          some (((q9 0 0) + (3 + p0)), (up q9 0 0 ((q9 0 0) + (3 + p0))))) q90))))
      else (
        some ((-2), u)))
    else (
      f_X7_text_j10 u))
def f_X7_patch_j12 (u : St) : Option (Int32 × St) :=
  some ((-1), u)
def f_X7_patch (p0 : Int32) (p1 : Int32) (u : St) : Option (Int32 × St) :=
  if p0 < 0 then (
    f_X7_patch_j12 u)
  else (
    if p0 < (u 0 0) then (
      chk 400 p0 (
      chk 400 p0 (
      some (((u 30) (Int32.toNatClampNeg p0)), (up u 30 (Int32.toNatClampNeg p0) (p1 &&& 255))))))
    else (
      f_X7_patch_j12 u))
def f_X7_missing_j24 (z0 : Int32) (u : St) : Option (Int32) :=
  bchk z0 (
  some z0)
def f_X7_missing_j19 (u : St) : Option (Int32) :=
  f_X7_missing_j24 1 u
def f_X7_missing (p0 : Int32) (p1 : Int32) (u : St) : Option (Int32) :=
  if p0 < 0 then (
    f_X7_missing_j19 u)
  else (
    if p1 < 1 then (
      f_X7_missing_j19 u)
    else (
      if p0 ≤ ((u 0 0) - p1) then (
        f_X7_missing_j24 0 u)
      else (
        f_X7_missing_j19 u)))
def f_X7_take_b12 (x2 : Int32) (a : Int32 × St) : Option (((St) ⊕ (St)) ⊕ (Int32 × St)) :=
  if (a.2 0 0) ≤ a.1 then (
    some (.inl (.inr a.2)))
  else (
    chk 400 (a.1 + x2) (
    chk 400 a.1 (
    some (.inr ((a.1 + 1), (up a.2 30 (Int32.toNatClampNeg a.1) ((a.2 30) (Int32.toNatClampNeg (a.1 + x2)))))))))
def f_X7_take (p0 : Int32) (p1 : Int32) (u : St) : Option (St) :=
  (loopF (f_X7_take_b12 p1) FU (p0, (up u 0 0 ((u 0 0) - p1)))).bind fun q40 => Sum.elim (fun q4 => some q4) (fun q4 =>
    some q4) q40
def f_X7_cut (p0 : Int32) (p1 : Int32) (u : St) : Option (Int32 × St) :=
  (f_X7_missing p0 p1 u).bind fun q1 => (
  if q1 = 0 then (
    (f_X7_take p0 p1 u).bind fun q3 => (
    some ((q3 0 0), q3)))
  else (
    some ((-1), u)))
def f_X7_twice_b33 (x1 : Int32) (x2 : Int32) (a : Int32 × St) : Option (((Int32 × St) ⊕ (St)) ⊕ (Int32 × St)) :=
  if a.1 < (x1 + x2) then (
    some (.inl (.inr a.2)))
  else (
    chk 400 a.1 (
    chk 400 (a.1 + x2) (
    some (.inr ((a.1 + (-1)), (up a.2 30 (Int32.toNatClampNeg (a.1 + x2)) ((a.2 30) (Int32.toNatClampNeg a.1))))))))
def f_X7_twice_b62 (x1 : Int32) (x2 : Int32) (a : Int32 × St) : Option (((Int32 × St) ⊕ (St)) ⊕ (Int32 × St)) :=
  if x2 ≤ a.1 then (
    some (.inl (.inr a.2)))
  else (
    chk 400 (x1 + a.1) (
    chk 400 ((x1 + x2) + a.1) (
    some (.inr ((a.1 + 1), (up a.2 30 (Int32.toNatClampNeg ((x1 + x2) + a.1)) ((a.2 30) (Int32.toNatClampNeg (x1 + a.1)))))))))
def f_X7_twice (p0 : Int32) (p1 : Int32) (u : St) : Option (Int32 × St) :=
  (f_X7_missing p0 p1 u).bind fun q1 => (
  if q1 = 0 then (
    if ((u 0 0) + p1) ≤ 400 then (
      (loopF (f_X7_twice_b33 p0 p1) FU (((u 0 0) - 1), u)).bind fun q70 => Sum.elim (fun q7 => some q7) (fun q7 =>
        (loopF (f_X7_twice_b62 p0 p1) FU (0, q7)).bind fun q110 => Sum.elim (fun q11 => some q11) (fun q11 =>
          some (((q11 0 0) + p1), (up q11 0 0 ((q11 0 0) + p1)))) q110) q70)
    else (
      some ((-2), u)))
  else (
    some ((-1), u)))
def f_X7_clear (u : St) : Option (Int32 × St) :=
  some ((u 0 0), (up u 0 0 0))
def f_X7_fail_j17 (u : St) : Option (Int32 × St) :=
  some (0, u)
def f_X7_fail (p0 : Int32) (p1 : Int32) (u : St) : Option (Int32 × St) :=
  if (u 7 0) = 0 then (
    f_X7_fail_j17 (up (up u 7 0 p0) 8 0 p1))
  else (
    f_X7_fail_j17 u)
def f_X7_u_b5 (x1 : Int32) (a : Int64 × Int32 × St) : Option (((Int64 × St) ⊕ (Int64 × St)) ⊕ (Int64 × Int32 × St)) :=
  if x1 ≤ a.2.1 then (
    some (.inl (.inr (a.1, a.2.2))))
  else (
    if (a.2.2 7 0) = 0 then (
      if (a.2.2 3 0) < (a.2.2 4 0) then (
        chk 400 (a.2.2 3 0) (
        some (.inr (((256 * a.1) + (((a.2.2 30) (Int32.toNatClampNeg (a.2.2 3 0))).toInt64)), (a.2.1 + 1), (up a.2.2 3 0 ((a.2.2 3 0) + 1))))))
      else (
        (f_X7_fail (a.2.2 5 0) (a.2.2 6 0) a.2.2).bind fun q5 => (
        some (.inl (.inl (0, q5.2))))))
    else (
      some (.inl (.inr (a.1, a.2.2)))))
def f_X7_u_j89 (z0 : Int64) (u : St) : Option (Int64 × St) :=
  some (z0, u)
def f_X7_u_j77 (x2 : Int64) (u : St) : Option (Int64 × St) :=
  if (u 7 0) = 0 then (
    f_X7_u_j89 x2 u)
  else (
    f_X7_u_j89 0 u)
def f_X7_u (p0 : Int32) (u : St) : Option (Int64 × St) :=
  (loopF (f_X7_u_b5 p0) FU (0, 0, u)).bind fun q60 => Sum.elim (fun q6 => some q6) (fun q6 =>
    f_X7_u_j77 q6.1 q6.2) q60
def f_X7_u1 (u : St) : Option (Int32 × St) :=
  (f_X7_u 1 u).bind fun q1 => (
  some ((q1.1.toInt32), q1.2))
def f_X7_u2 (u : St) : Option (Int32 × St) :=
  (f_X7_u 2 u).bind fun q1 => (
  some ((q1.1.toInt32), q1.2))
def f_X7_skip_j56 (u : St) : Option (St) :=
  some u
def f_X7_skip_j38 (x1 : Int64) (u : St) : Option (St) :=
  if (u 7 0) = 0 then (
    f_X7_skip_j56 (up u 3 0 ((u 3 0) + (x1.toInt32))))
  else (
    f_X7_skip_j56 u)
def f_X7_skip (p0 : Int64) (u : St) : Option (St) :=
  if (u 7 0) = 0 then (
    if (lg_cmp p0 (((u 4 0) - (u 3 0)).toInt64)) ≤ 0 then (
      f_X7_skip_j38 p0 u)
    else (
      (f_X7_fail (u 5 0) (u 6 0) u).bind fun q4 => (
      f_X7_skip_j56 q4.2)))
  else (
    f_X7_skip_j38 p0 u)
def f_X7_is_j27 (z0 : Int32) (u : St) : Option (Int32) :=
  bchk z0 (
  some z0)
def f_X7_is_j26 (u : St) : Option (Int32) :=
  f_X7_is_j27 0 u
def f_X7_is (p0 : Int32) (p1 : Int32) (u : St) : Option (Int32) :=
  if p0 ≤ 0 then (
    f_X7_is_j26 u)
  else (
    if (u 9 0) ≤ p0 then (
      f_X7_is_j26 u)
    else (
      chk 420 p0 (
      if ((u 33) (Int32.toNatClampNeg p0)) = p1 then (
        f_X7_is_j27 1 u)
      else (
        f_X7_is_j26 u))))
def f_X7_letter (p0 : Int32) (p1 : Int32) (u : St) : Option (Int32) :=
  chk 420 p0 (
  chk 400 (((u 35) (Int32.toNatClampNeg p0)) + p1) (
  some ((u 30) (Int32.toNatClampNeg (((u 35) (Int32.toNatClampNeg p0)) + p1)))))
def f_X7_equal_b19 (x1 : Int32) (x2 : Int32) (u : St) (a : Int32) : Option (((Int32) ⊕ (Unit)) ⊕ (Int32)) :=
  chk 420 x1 (
  if ((u 36) (Int32.toNatClampNeg x1)) ≤ a then (
    some (.inl (.inr ())))
  else (
    (f_X7_letter x1 a u).bind fun q6 => (
    (f_X7_letter x2 a u).bind fun q7 => (
    if q6 = q7 then (
      some (.inr (a + 1)))
    else (
      some (.inl (.inl 0)))))))
def f_X7_equal (p0 : Int32) (p1 : Int32) (u : St) : Option (Int32) :=
  chk 420 p0 (
  chk 420 p1 (
  if ((u 36) (Int32.toNatClampNeg p0)) = ((u 36) (Int32.toNatClampNeg p1)) then (
    (loopF (f_X7_equal_b19 p0 p1 u) FU 0).bind fun q90 => Sum.elim (fun q9 => some q9) (fun q9 =>
      some 1) q90)
  else (
    some 0)))
def f_X7_fieldName_j43_2 (x1 : Int32) (u : St) : Option (((Int32) ⊕ (Unit)) ⊕ (Int32)) :=
  some (.inl (.inl 0))
def f_X7_fieldName_b2 (x1 : Int32) (u : St) (a : Int32) : Option (((Int32) ⊕ (Unit)) ⊕ (Int32)) :=
  chk 420 x1 (
  if ((u 36) (Int32.toNatClampNeg x1)) ≤ a then (
    some (.inl (.inr ())))
  else (
    (f_X7_letter x1 a u).bind fun q3 => (
    if q3 = 46 then (
      f_X7_fieldName_j43_2 x1 u)
    else (
      if q3 = 59 then (
        f_X7_fieldName_j43_2 x1 u)
      else (
        if q3 = 91 then (
          f_X7_fieldName_j43_2 x1 u)
        else (
          if q3 = 47 then (
            f_X7_fieldName_j43_2 x1 u)
          else (
            some (.inr (a + 1)))))))))
def f_X7_fieldName_j65 (z0 : Int32) (u : St) : Option (Int32) :=
  bchk z0 (
  some z0)
def f_X7_fieldName (p0 : Int32) (u : St) : Option (Int32) :=
  (loopF (f_X7_fieldName_b2 p0 u) FU 0).bind fun q80 => Sum.elim (fun q8 => some q8) (fun q8 =>
    chk 420 p0 (
    if ((u 36) (Int32.toNatClampNeg p0)) ≤ 0 then (
      f_X7_fieldName_j65 0 u)
    else (
      f_X7_fieldName_j65 1 u))) q80
def f_X7_spells_a12_b15 (x1 : Int32) (u : St) (a : Int32) : Option (((Int32) ⊕ (Unit)) ⊕ (Int32)) :=
  if 6 ≤ a then (
    some (.inl (.inr ())))
  else (
    (f_X7_letter x1 a u).bind fun q4 => (
    chk 6 a (
    if q4 = ((u 41) (Int32.toNatClampNeg a)) then (
      some (.inr (a + 1)))
    else (
      some (.inl (.inl 0))))))
def f_X7_spells_a12 (p0 : Int32) (u : St) : Option (Int32) :=
  chk 420 p0 (
  if ((u 36) (Int32.toNatClampNeg p0)) = 6 then (
    (loopF (f_X7_spells_a12_b15 p0 u) FU 0).bind fun q70 => Sum.elim (fun q7 => some q7) (fun q7 =>
      some 1) q70)
  else (
    some 0))
def f_X7_spells_a13_b15 (x1 : Int32) (u : St) (a : Int32) : Option (((Int32) ⊕ (Unit)) ⊕ (Int32)) :=
  if 8 ≤ a then (
    some (.inl (.inr ())))
  else (
    (f_X7_letter x1 a u).bind fun q4 => (
    chk 8 a (
    if q4 = ((u 42) (Int32.toNatClampNeg a)) then (
      some (.inr (a + 1)))
    else (
      some (.inl (.inl 0))))))
def f_X7_spells_a13 (p0 : Int32) (u : St) : Option (Int32) :=
  chk 420 p0 (
  if ((u 36) (Int32.toNatClampNeg p0)) = 8 then (
    (loopF (f_X7_spells_a13_b15 p0 u) FU 0).bind fun q70 => Sum.elim (fun q7 => some q7) (fun q7 =>
      some 1) q70)
  else (
    some 0))
def f_X7_memberName_j24 (u : St) : Option (Int32) :=
  some 1
def f_X7_memberName_j60_28 (x1 : Int32) (u : St) : Option (((Int32) ⊕ (Unit)) ⊕ (Int32)) :=
  some (.inl (.inl 0))
def f_X7_memberName_b28 (x1 : Int32) (u : St) (a : Int32) : Option (((Int32) ⊕ (Unit)) ⊕ (Int32)) :=
  chk 420 x1 (
  if ((u 36) (Int32.toNatClampNeg x1)) ≤ a then (
    some (.inl (.inr ())))
  else (
    (f_X7_letter x1 a u).bind fun q7 => (
    if q7 = 60 then (
      f_X7_memberName_j60_28 x1 u)
    else (
      (f_X7_letter x1 a u).bind fun q9 => (
      if q9 = 62 then (
        f_X7_memberName_j60_28 x1 u)
      else (
        some (.inr (a + 1))))))))
def f_X7_memberName (p0 : Int32) (u : St) : Option (Int32) :=
  (f_X7_spells_a12 p0 u).bind fun q1 => (
  if q1 = 0 then (
    (f_X7_spells_a13 p0 u).bind fun q3 => (
    if q3 = 0 then (
      (loopF (f_X7_memberName_b28 p0 u) FU 0).bind fun q110 => Sum.elim (fun q11 => some q11) (fun q11 =>
        (f_X7_fieldName p0 u).bind fun q12 => (
        bchk q12 (
        some q12))) q110)
    else (
      f_X7_memberName_j24 u)))
  else (
    f_X7_memberName_j24 u))
def f_X7_className_j54_6 (x1 : Int32) (x3 : Int32) (u : St) : Option (((Int32) ⊕ (Int32)) ⊕ (Int32 × Int32)) :=
  some (.inl (.inl 0))
def f_X7_className_j71_6 (x1 : Int32) (x3 : Int32) (x5 : Int32) (z0 : Int32) (u : St) : Option (((Int32) ⊕ (Int32)) ⊕ (Int32 × Int32)) :=
  some (.inr (z0, (x5 + 1)))
def f_X7_className_j56_6 (x1 : Int32) (x3 : Int32) (x4 : Int32) (x5 : Int32) (x6 : Int32) (u : St) : Option (((Int32) ⊕ (Int32)) ⊕ (Int32 × Int32)) :=
  if x6 = 47 then (
    f_X7_className_j71_6 x1 x3 x5 0 u)
  else (
    f_X7_className_j71_6 x1 x3 x5 (x4 + 1) u)
def f_X7_className_b6 (x1 : Int32) (x3 : Int32) (u : St) (a : Int32 × Int32) : Option (((Int32) ⊕ (Int32)) ⊕ (Int32 × Int32)) :=
  if x3 ≤ a.2 then (
    some (.inl (.inr a.1)))
  else (
    (f_X7_letter x1 a.2 u).bind fun q2 => (
    if q2 = 46 then (
      f_X7_className_j54_6 x1 x3 u)
    else (
      if q2 = 59 then (
        f_X7_className_j54_6 x1 x3 u)
      else (
        if q2 = 91 then (
          f_X7_className_j54_6 x1 x3 u)
        else (
          if q2 = 47 then (
            if a.1 = 0 then (
              f_X7_className_j54_6 x1 x3 u)
            else (
              f_X7_className_j56_6 x1 x3 a.1 a.2 q2 u))
          else (
            f_X7_className_j56_6 x1 x3 a.1 a.2 q2 u))))))
def f_X7_className_j89 (z0 : Int32) (u : St) : Option (Int32) :=
  bchk z0 (
  some z0)
def f_X7_className (p0 : Int32) (p1 : Int32) (p2 : Int32) (u : St) : Option (Int32) :=
  (loopF (f_X7_className_b6 p0 p2 u) FU (0, p1)).bind fun q90 => Sum.elim (fun q9 => some q9) (fun q9 =>
    if q9 ≤ 0 then (
      f_X7_className_j89 0 u)
    else (
      f_X7_className_j89 1 u)) q90
def f_X7_base_j53 (z0 : Int32) (u : St) : Option (Int32) :=
  bchk z0 (
  some z0)
def f_X7_base_j48 (u : St) : Option (Int32) :=
  f_X7_base_j53 1 u
def f_X7_base (p0 : Int32) (u : St) : Option (Int32) :=
  if p0 = 66 then (
    f_X7_base_j48 u)
  else (
    if p0 = 67 then (
      f_X7_base_j48 u)
    else (
      if p0 = 68 then (
        f_X7_base_j48 u)
      else (
        if p0 = 70 then (
          f_X7_base_j48 u)
        else (
          if p0 = 73 then (
            f_X7_base_j48 u)
          else (
            if p0 = 74 then (
              f_X7_base_j48 u)
            else (
              if p0 = 83 then (
                f_X7_base_j48 u)
              else (
                if p0 = 90 then (
                  f_X7_base_j48 u)
                else (
                  f_X7_base_j53 0 u))))))))
def f_X7_brackets_b2 (x1 : Int32) (x2 : Int32) (u : St) (a : Int32) : Option (((Int32) ⊕ (Int32)) ⊕ (Int32)) :=
  chk 420 x1 (
  if ((u 36) (Int32.toNatClampNeg x1)) ≤ a then (
    some (.inl (.inr a)))
  else (
    (f_X7_letter x1 a u).bind fun q3 => (
    if q3 = 91 then (
      some (.inr (a + 1)))
    else (
      some (.inl (.inr a))))))
def f_X7_brackets_j29 (x2 : Int32) (x3 : Int32) (u : St) : Option (Int32) :=
  some (x3 - x2)
def f_X7_brackets (p0 : Int32) (p1 : Int32) (u : St) : Option (Int32) :=
  (loopF (f_X7_brackets_b2 p0 p1 u) FU p1).bind fun q50 => Sum.elim (fun q5 => some q5) (fun q5 =>
    f_X7_brackets_j29 p1 q5 u) q50
def f_X7_typeEnd_j35 (u : St) : Option (Int32) :=
  some (-1)
def f_X7_typeEnd_b75 (x1 : Int32) (x3 : Int32) (x5 : Int32) (u : St) (a : Int32) : Option (((Int32) ⊕ (Int32)) ⊕ (Int32)) :=
  if x3 ≤ a then (
    some (.inl (.inr a)))
  else (
    (f_X7_letter x1 a u).bind fun q11 => (
    if q11 = 59 then (
      some (.inl (.inr a)))
    else (
      some (.inr (a + 1)))))
def f_X7_typeEnd_j127 (z0 : Int32) (u : St) : Option (Int32) :=
  some z0
def f_X7_typeEnd_j126 (u : St) : Option (Int32) :=
  f_X7_typeEnd_j127 (-1) u
def f_X7_typeEnd_j99 (x1 : Int32) (x3 : Int32) (x5 : Int32) (x6 : Int32) (u : St) : Option (Int32) :=
  if x3 ≤ x6 then (
    f_X7_typeEnd_j126 u)
  else (
    (f_X7_className x1 (x5 + 1) x6 u).bind fun q15 => (
    if q15 = 0 then (
      f_X7_typeEnd_j126 u)
    else (
      f_X7_typeEnd_j127 (x6 + 1) u)))
def f_X7_typeEnd (p0 : Int32) (p1 : Int32) (u : St) : Option (Int32) :=
  chk 420 p0 (
  (f_X7_brackets p0 p1 u).bind fun q2 => (
  if 255 < q2 then (
    f_X7_typeEnd_j35 u)
  else (
    if (p1 + q2) < ((u 36) (Int32.toNatClampNeg p0)) then (
      (f_X7_letter p0 (p1 + q2) u).bind fun q5 => (
      (f_X7_base q5 u).bind fun q6 => (
      if q6 = 0 then (
        (f_X7_letter p0 (p1 + q2) u).bind fun q8 => (
        if q8 = 76 then (
          (loopF (f_X7_typeEnd_b75 p0 ((u 36) (Int32.toNatClampNeg p0)) (p1 + q2) u) FU ((p1 + q2) + 1)).bind fun q130 => Sum.elim (fun q13 => some q13) (fun q13 =>
            f_X7_typeEnd_j99 p0 ((u 36) (Int32.toNatClampNeg p0)) (p1 + q2) q13 u) q130)
        else (
          some (-1))))
      else (
        some ((p1 + q2) + 1)))))
    else (
      f_X7_typeEnd_j35 u))))
def f_X7_fieldType_j20 (z0 : Int32) (u : St) : Option (Int32) :=
  bchk z0 (
  some z0)
def f_X7_fieldType (p0 : Int32) (u : St) : Option (Int32) :=
  (f_X7_typeEnd p0 0 u).bind fun q1 => (
  chk 420 p0 (
  if q1 = ((u 36) (Int32.toNatClampNeg p0)) then (
    f_X7_fieldType_j20 1 u)
  else (
    f_X7_fieldType_j20 0 u)))
def f_X7_methodType_j22 (u : St) : Option (Int32) :=
  some 0
def f_X7_methodType_b26 (x1 : Int32) (x2 : Int32) (u : St) (a : Int32) : Option (((Int32) ⊕ (Int32)) ⊕ (Int32)) :=
  if a < 0 then (
    some (.inl (.inr a)))
  else (
    if x2 ≤ a then (
      some (.inl (.inr a)))
    else (
      (f_X7_letter x1 a u).bind fun q7 => (
      if q7 = 41 then (
        some (.inl (.inr a)))
      else (
        (f_X7_typeEnd x1 a u).bind fun q9 => (
        some (.inr q9))))))
def f_X7_methodType_j65 (u : St) : Option (Int32) :=
  some 0
def f_X7_methodType_j105 (z0 : Int32) (u : St) : Option (Int32) :=
  bchk z0 (
  some z0)
def f_X7_methodType_j90 (x1 : Int32) (x2 : Int32) (x3 : Int32) (u : St) : Option (Int32) :=
  (f_X7_typeEnd x1 x3 u).bind fun q14 => (
  if q14 = x2 then (
    f_X7_methodType_j105 1 u)
  else (
    f_X7_methodType_j105 0 u))
def f_X7_methodType_j56 (x1 : Int32) (x2 : Int32) (x3 : Int32) (u : St) : Option (Int32) :=
  if x3 < 0 then (
    f_X7_methodType_j65 u)
  else (
    if x3 < x2 then (
      if (x3 + 1) = (x2 - 1) then (
        (f_X7_letter x1 (x3 + 1) u).bind fun q17 => (
        if q17 = 86 then (
          some 1)
        else (
          f_X7_methodType_j90 x1 x2 (x3 + 1) u)))
      else (
        f_X7_methodType_j90 x1 x2 (x3 + 1) u))
    else (
      f_X7_methodType_j65 u))
def f_X7_methodType (p0 : Int32) (u : St) : Option (Int32) :=
  chk 420 p0 (
  if ((u 36) (Int32.toNatClampNeg p0)) = 0 then (
    f_X7_methodType_j22 u)
  else (
    (f_X7_letter p0 0 u).bind fun q3 => (
    if q3 = 40 then (
      (loopF (f_X7_methodType_b26 p0 ((u 36) (Int32.toNatClampNeg p0)) u) FU 1).bind fun q100 => Sum.elim (fun q10 => some q10) (fun q10 =>
        f_X7_methodType_j56 p0 ((u 36) (Int32.toNatClampNeg p0)) q10 u) q100)
    else (
      f_X7_methodType_j22 u))))
def f_X7_characters_j153_106 (x1 : Int32) (x2 : Int32) (x3 : Int32) (x5 : Int32) (x7 : Int32) (z0 : Int32) (u : St) : Option (((St) ⊕ (Int32 × St)) ⊕ (Int32 × Int32 × St)) :=
  some (.inr (z0, (x7 + 1), u))
def f_X7_characters_j152_106 (x1 : Int32) (x2 : Int32) (x3 : Int32) (x5 : Int32) (x7 : Int32) (u : St) : Option (((St) ⊕ (Int32 × St)) ⊕ (Int32 × Int32 × St)) :=
  f_X7_characters_j153_106 x1 x2 x3 x5 x7 0 u
def f_X7_characters_b106 (x1 : Int32) (x2 : Int32) (x3 : Int32) (x5 : Int32) (a : Int32 × Int32 × St) : Option (((St) ⊕ (Int32 × St)) ⊕ (Int32 × Int32 × St)) :=
  if x5 < a.2.1 then (
    some (.inl (.inr (a.1, a.2.2))))
  else (
    if a.1 = 0 then (
      some (.inl (.inr (a.1, a.2.2))))
    else (
      chk 400 (x3 + a.2.1) (
      if ((a.2.2 30) (Int32.toNatClampNeg (x3 + a.2.1))) < 128 then (
        f_X7_characters_j152_106 x1 x2 x3 x5 a.2.1 a.2.2)
      else (
        chk 400 (x3 + a.2.1) (
        if 192 ≤ ((a.2.2 30) (Int32.toNatClampNeg (x3 + a.2.1))) then (
          f_X7_characters_j152_106 x1 x2 x3 x5 a.2.1 a.2.2)
        else (
          f_X7_characters_j153_106 x1 x2 x3 x5 a.2.1 1 a.2.2))))))
def f_X7_characters_j161_2 (x1 : Int32) (x2 : Int32) (x3 : Int32) (x5 : Int32) (x6 : Int32) (u : St) : Option (((St) ⊕ (St)) ⊕ (Int32 × St)) :=
  if x6 = 0 then (
    (f_X7_fail 6 x3 u).bind fun q15 => (
    some (.inl (.inl q15.2))))
  else (
    some (.inr ((x3 + (1 + x5)), u)))
def f_X7_characters_j101_2 (x1 : Int32) (x2 : Int32) (x3 : Int32) (x5 : Int32) (z0 : Int32) (u : St) : Option (((St) ⊕ (St)) ⊕ (Int32 × St)) :=
  (loopF (f_X7_characters_b106 x1 x2 x3 x5) FU (z0, 1, u)).bind fun q130 => Sum.elim (fun q13 => some (.inl (.inl q13))) (fun q13 =>
    f_X7_characters_j161_2 x1 x2 x3 x5 q13.1 q13.2) q130
def f_X7_characters_j100_2 (x1 : Int32) (x2 : Int32) (x3 : Int32) (x5 : Int32) (u : St) : Option (((St) ⊕ (St)) ⊕ (Int32 × St)) :=
  f_X7_characters_j101_2 x1 x2 x3 x5 0 u
def f_X7_characters_j77_2 (x1 : Int32) (x2 : Int32) (x3 : Int32) (z0 : Int32) (u : St) : Option (((St) ⊕ (St)) ⊕ (Int32 × St)) :=
  if 9 ≤ z0 then (
    f_X7_characters_j100_2 x1 x2 x3 z0 u)
  else (
    if (x1 + x2) ≤ (x3 + z0) then (
      f_X7_characters_j100_2 x1 x2 x3 z0 u)
    else (
      f_X7_characters_j101_2 x1 x2 x3 z0 1 u))
def f_X7_characters_j75_2 (x1 : Int32) (x2 : Int32) (x3 : Int32) (u : St) : Option (((St) ⊕ (St)) ⊕ (Int32 × St)) :=
  f_X7_characters_j77_2 x1 x2 x3 9 u
def f_X7_characters_j55_2 (x1 : Int32) (x2 : Int32) (x3 : Int32) (x4 : Int32) (u : St) : Option (((St) ⊕ (St)) ⊕ (Int32 × St)) :=
  if x4 < 224 then (
    f_X7_characters_j75_2 x1 x2 x3 u)
  else (
    if 240 ≤ x4 then (
      f_X7_characters_j75_2 x1 x2 x3 u)
    else (
      f_X7_characters_j77_2 x1 x2 x3 2 u))
def f_X7_characters_j35_2 (x1 : Int32) (x2 : Int32) (x3 : Int32) (x4 : Int32) (u : St) : Option (((St) ⊕ (St)) ⊕ (Int32 × St)) :=
  if x4 < 192 then (
    f_X7_characters_j55_2 x1 x2 x3 x4 u)
  else (
    if 224 ≤ x4 then (
      f_X7_characters_j55_2 x1 x2 x3 x4 u)
    else (
      f_X7_characters_j77_2 x1 x2 x3 1 u))
def f_X7_characters_b2 (x1 : Int32) (x2 : Int32) (a : Int32 × St) : Option (((St) ⊕ (St)) ⊕ (Int32 × St)) :=
  if (x1 + x2) ≤ a.1 then (
    some (.inl (.inr a.2)))
  else (
    chk 400 a.1 (
    if ((a.2 30) (Int32.toNatClampNeg a.1)) < 1 then (
      f_X7_characters_j35_2 x1 x2 a.1 ((a.2 30) (Int32.toNatClampNeg a.1)) a.2)
    else (
      if 128 ≤ ((a.2 30) (Int32.toNatClampNeg a.1)) then (
        f_X7_characters_j35_2 x1 x2 a.1 ((a.2 30) (Int32.toNatClampNeg a.1)) a.2)
      else (
        f_X7_characters_j77_2 x1 x2 a.1 0 a.2))))
def f_X7_characters (p0 : Int32) (p1 : Int32) (u : St) : Option (St) :=
  (loopF (f_X7_characters_b2 p0 p1) FU (p0, u)).bind fun q200 => Sum.elim (fun q20 => some q20) (fun q20 =>
    some q20) q200
def f_X7_entry_j150 (u : St) : Option (Int32 × St) :=
  some (1, u)
def f_X7_entry_j210 (u : St) : Option (Int32 × St) :=
  some (2, u)
def f_X7_entry_j194 (x1 : Int32) (u : St) : Option (Int32 × St) :=
  if (u 7 0) = 0 then (
    chk 420 (x1 + 1) (
    f_X7_entry_j210 (up u 33 (Int32.toNatClampNeg (x1 + 1)) 0)))
  else (
    f_X7_entry_j210 u)
def f_X7_entry (p0 : Int32) (p1 : Int32) (u : St) : Option (Int32 × St) :=
  (f_X7_u1 u).bind fun q1 => (
  if (q1.2 7 0) = 0 then (
    chk 420 p0 (
    chk 420 p0 (
    if q1.1 = 1 then (
      (f_X7_u2 (up (up q1.2 33 (Int32.toNatClampNeg p0) q1.1) 34 (Int32.toNatClampNeg p0) (u 3 0))).bind fun q6 => (
      chk 420 p0 (
      chk 420 p0 (
      (f_X7_skip (q6.1.toInt64) (up (up q6.2 35 (Int32.toNatClampNeg p0) (q6.2 3 0)) 36 (Int32.toNatClampNeg p0) q6.1)).bind fun q9 => (
      if (q9 7 0) = 0 then (
        chk 420 p0 (
        (f_X7_characters ((q9 35) (Int32.toNatClampNeg p0)) q6.1 q9).bind fun q12 => (
        f_X7_entry_j150 q12)))
      else (
        f_X7_entry_j150 q9))))))
    else (
    if q1.1 = 3 then (
      (f_X7_u 4 (up (up q1.2 33 (Int32.toNatClampNeg p0) q1.1) 34 (Int32.toNatClampNeg p0) (u 3 0))).bind fun q13 => (
      some (1, q13.2)))
    else (
    if q1.1 = 5 then (
      (f_X7_u 4 (up (up q1.2 33 (Int32.toNatClampNeg p0) q1.1) 34 (Int32.toNatClampNeg p0) (u 3 0))).bind fun q14 => (
      (f_X7_u 4 q14.2).bind fun q15 => (
      if (q15.2 7 0) = 0 then (
        if (p0 + 1) < p1 then (
          f_X7_entry_j194 p0 q15.2)
        else (
          (f_X7_fail 7 (u 3 0) q15.2).bind fun q20 => (
          f_X7_entry_j194 p0 q20.2)))
      else (
        f_X7_entry_j194 p0 q15.2))))
    else (
    if q1.1 = 7 ∨ q1.1 = 8 then (
      (f_X7_u2 (up (up q1.2 33 (Int32.toNatClampNeg p0) q1.1) 34 (Int32.toNatClampNeg p0) (u 3 0))).bind fun q21 => (
      chk 420 p0 (
      some (1, (up q21.2 35 (Int32.toNatClampNeg p0) q21.1)))))
    else (
    if q1.1 = 10 ∨ q1.1 = 12 then (
      (f_X7_u2 (up (up q1.2 33 (Int32.toNatClampNeg p0) q1.1) 34 (Int32.toNatClampNeg p0) (u 3 0))).bind fun q23 => (
      chk 420 p0 (
      (f_X7_u2 (up q23.2 35 (Int32.toNatClampNeg p0) q23.1)).bind fun q25 => (
      chk 420 p0 (
      some (1, (up q25.2 36 (Int32.toNatClampNeg p0) q25.1)))))))
    else (
      (f_X7_fail 5 (u 3 0) (up (up q1.2 33 (Int32.toNatClampNeg p0) q1.1) 34 (Int32.toNatClampNeg p0) (u 3 0))).bind fun q27 => (
      some (1, q27.2))))))))))
  else (
    some (1, q1.2)))
def f_X7_readPool_j56_26 (x1 : Int32) (x2 : Int32) (u : St) : Option (((St) ⊕ (Int32 × St)) ⊕ (Int32 × St)) :=
  some (.inr (x2, u))
def f_X7_readPool_b26 (x1 : Int32) (a : Int32 × St) : Option (((St) ⊕ (Int32 × St)) ⊕ (Int32 × St)) :=
  if x1 ≤ a.1 then (
    some (.inl (.inr (a.1, a.2))))
  else (
    if (a.2 7 0) = 0 then (
      (f_X7_entry a.1 x1 a.2).bind fun q5 => (
      if (q5.2 7 0) = 0 then (
        f_X7_readPool_j56_26 x1 (a.1 + q5.1) q5.2)
      else (
        f_X7_readPool_j56_26 x1 a.1 q5.2)))
    else (
      some (.inl (.inr (a.1, a.2)))))
def f_X7_readPool_j85 (x2 : Int32) (u : St) : Option (St) :=
  some (up u 9 0 x2)
def f_X7_readPool_j84 (x2 : Int32) (z1 : Int32) (z2 : Int32) (u : St) : Option (St) :=
  chk 7 z1 (
  f_X7_readPool_j85 x2 (up u 32 (Int32.toNatClampNeg z1) z2))
def f_X7_readPool_j59 (x1 : Int32) (x2 : Int32) (u : St) : Option (St) :=
  if x1 ≤ 0 then (
    f_X7_readPool_j85 x2 u)
  else (
    if (u 7 0) = 7 then (
      f_X7_readPool_j84 x2 0 x2 u)
    else (
      f_X7_readPool_j84 x2 0 (x2 - 1) u))
def f_X7_readPool_j24 (x1 : Int32) (u : St) : Option (St) :=
  (loopF (f_X7_readPool_b26 x1) FU (1, u)).bind fun q70 => Sum.elim (fun q7 => some q7) (fun q7 =>
    f_X7_readPool_j59 x1 q7.1 q7.2) q70
def f_X7_readPool (u : St) : Option (St) :=
  (f_X7_u2 u).bind fun q1 => (
  if (q1.2 7 0) = 0 then (
    if q1.1 = 0 then (
      (f_X7_fail 4 8 q1.2).bind fun q12 => (
      f_X7_readPool_j24 q1.1 q12.2))
    else (
      f_X7_readPool_j24 q1.1 q1.2))
  else (
    f_X7_readPool_j24 q1.1 q1.2))
def f_X7_names_j22 (x1 : Int32) (u : St) : Option (Int32) :=
  chk 420 x1 (
  (f_X7_is ((u 35) (Int32.toNatClampNeg x1)) 1 u).bind fun q4 => (
  bchk q4 (
  some q4)))
def f_X7_names_j125 (z0 : Int32) (u : St) : Option (Int32) :=
  bchk z0 (
  some z0)
def f_X7_names_j120 (u : St) : Option (Int32) :=
  f_X7_names_j125 1 u
def f_X7_names_j124 (u : St) : Option (Int32) :=
  f_X7_names_j125 0 u
def f_X7_names_j80 (z0 : Int32) (u : St) : Option (Int32) :=
  bchk z0 (
  some z0)
def f_X7_names_j79 (u : St) : Option (Int32) :=
  f_X7_names_j80 0 u
def f_X7_names (p0 : Int32) (u : St) : Option (Int32) :=
  chk 420 p0 (
  if ((u 33) (Int32.toNatClampNeg p0)) = 7 then (
    f_X7_names_j22 p0 u)
  else (
    chk 420 p0 (
    if ((u 33) (Int32.toNatClampNeg p0)) = 8 then (
      f_X7_names_j22 p0 u)
    else (
      chk 420 p0 (
      if ((u 33) (Int32.toNatClampNeg p0)) = 10 then (
        chk 420 p0 (
        (f_X7_is ((u 35) (Int32.toNatClampNeg p0)) 7 u).bind fun q20 => (
        if q20 = 0 then (
          f_X7_names_j79 u)
        else (
          chk 420 p0 (
          (f_X7_is ((u 36) (Int32.toNatClampNeg p0)) 12 u).bind fun q24 => (
          if q24 = 0 then (
            f_X7_names_j79 u)
          else (
            f_X7_names_j80 1 u)))))))
      else (
        chk 420 p0 (
        if ((u 33) (Int32.toNatClampNeg p0)) = 12 then (
          chk 420 p0 (
          (f_X7_is ((u 35) (Int32.toNatClampNeg p0)) 1 u).bind fun q14 => (
          if q14 = 0 then (
            f_X7_names_j124 u)
          else (
            chk 420 p0 (
            (f_X7_is ((u 36) (Int32.toNatClampNeg p0)) 1 u).bind fun q17 => (
            if q17 = 0 then (
              f_X7_names_j124 u)
            else (
              f_X7_names_j120 u)))))))
        else (
          f_X7_names_j120 u))))))))
def f_X7_checkPool_j31_2 (x1 : Int32) (u : St) : Option (((St) ⊕ (St)) ⊕ (Int32 × St)) :=
  some (.inr ((x1 + 1), u))
def f_X7_checkPool_b2 (a : Int32 × St) : Option (((St) ⊕ (St)) ⊕ (Int32 × St)) :=
  if (a.2 9 0) ≤ a.1 then (
    some (.inl (.inr a.2)))
  else (
    (f_X7_names a.1 a.2).bind fun q2 => (
    if q2 = 0 then (
      chk 420 a.1 (
      (f_X7_fail 8 ((a.2 34) (Int32.toNatClampNeg a.1)) a.2).bind fun q5 => (
      f_X7_checkPool_j31_2 a.1 q5.2)))
    else (
      f_X7_checkPool_j31_2 a.1 a.2)))
def f_X7_checkPool_j177_39 (x1 : Int32) (u : St) : Option (((St) ⊕ (St)) ⊕ (Int32 × St)) :=
  some (.inr ((x1 + 1), u))
def f_X7_checkPool_j140_39 (x1 : Int32) (u : St) : Option (((St) ⊕ (St)) ⊕ (Int32 × St)) :=
  chk 420 x1 (
  if ((u 33) (Int32.toNatClampNeg x1)) = 12 then (
    chk 420 x1 (
    (f_X7_methodType ((u 36) (Int32.toNatClampNeg x1)) u).bind fun q16 => (
    if q16 = 0 then (
      chk 420 x1 (
      (f_X7_fail 10 ((u 34) (Int32.toNatClampNeg x1)) u).bind fun q19 => (
      f_X7_checkPool_j177_39 x1 q19.2)))
    else (
      f_X7_checkPool_j177_39 x1 u))))
  else (
    f_X7_checkPool_j177_39 x1 u))
def f_X7_checkPool_j103_39 (x1 : Int32) (u : St) : Option (((St) ⊕ (St)) ⊕ (Int32 × St)) :=
  chk 420 x1 (
  if ((u 33) (Int32.toNatClampNeg x1)) = 12 then (
    chk 420 x1 (
    (f_X7_memberName ((u 35) (Int32.toNatClampNeg x1)) u).bind fun q21 => (
    if q21 = 0 then (
      chk 420 x1 (
      (f_X7_fail 9 ((u 34) (Int32.toNatClampNeg x1)) u).bind fun q24 => (
      f_X7_checkPool_j140_39 x1 q24.2)))
    else (
      f_X7_checkPool_j140_39 x1 u))))
  else (
    f_X7_checkPool_j140_39 x1 u))
def f_X7_checkPool_b39 (a : Int32 × St) : Option (((St) ⊕ (St)) ⊕ (Int32 × St)) :=
  if (a.2 9 0) ≤ a.1 then (
    some (.inl (.inr a.2)))
  else (
    if (a.2 7 0) = 0 then (
      chk 420 a.1 (
      if ((a.2 33) (Int32.toNatClampNeg a.1)) = 7 then (
        chk 420 a.1 (
        chk 420 a.1 (
        chk 420 ((a.2 35) (Int32.toNatClampNeg a.1)) (
        (f_X7_className ((a.2 35) (Int32.toNatClampNeg a.1)) 0 ((a.2 36) (Int32.toNatClampNeg ((a.2 35) (Int32.toNatClampNeg a.1)))) a.2).bind fun q28 => (
        if q28 = 0 then (
          chk 420 a.1 (
          (f_X7_fail 9 ((a.2 34) (Int32.toNatClampNeg a.1)) a.2).bind fun q31 => (
          f_X7_checkPool_j103_39 a.1 q31.2)))
        else (
          f_X7_checkPool_j103_39 a.1 a.2))))))
      else (
        f_X7_checkPool_j103_39 a.1 a.2)))
    else (
      some (.inl (.inr a.2))))
def f_X7_checkPool_j183 (u : St) : Option (St) :=
  some u
def f_X7_checkPool (u : St) : Option (St) :=
  (loopF (f_X7_checkPool_b2) FU (1, u)).bind fun q60 => Sum.elim (fun q6 => some q6) (fun q6 =>
    (loopF (f_X7_checkPool_b39) FU (1, q6)).bind fun q320 => Sum.elim (fun q32 => some q32) (fun q32 =>
      f_X7_checkPool_j183 q32) q320) q60
def f_X7_classAt_j35 (u : St) : Option (St) :=
  some u
def f_X7_classAt (u : St) : Option (St) :=
  (f_X7_u2 u).bind fun q1 => (
  if (q1.2 7 0) = 0 then (
    (f_X7_is q1.1 7 q1.2).bind fun q3 => (
    if q3 = 0 then (
      (f_X7_fail 12 (u 3 0) q1.2).bind fun q5 => (
      f_X7_classAt_j35 q5.2))
    else (
      f_X7_classAt_j35 q1.2)))
  else (
    f_X7_classAt_j35 q1.2))
def f_X7_interfaces_j92_59 (x1 : Int32) (x2 : Int32) (x3 : Int32) (x4 : Int32) (x5 : Int32) (u : St) : Option (((St) ⊕ (St)) ⊕ (Int32 × St)) :=
  some (.inr ((x5 + 1), u))
def f_X7_interfaces_b59 (x1 : Int32) (x2 : Int32) (x3 : Int32) (x4 : Int32) (a : Int32 × St) : Option (((St) ⊕ (St)) ⊕ (Int32 × St)) :=
  if x2 ≤ a.1 then (
    some (.inl (.inr a.2)))
  else (
    if (a.2 7 0) = 0 then (
      chk 200 a.1 (
      if ((a.2 37) (Int32.toNatClampNeg a.1)) = x4 then (
        (f_X7_fail 13 x3 a.2).bind fun q10 => (
        f_X7_interfaces_j92_59 x1 x2 x3 x4 a.1 q10.2))
      else (
        f_X7_interfaces_j92_59 x1 x2 x3 x4 a.1 a.2)))
    else (
      some (.inl (.inr a.2))))
def f_X7_interfaces_j113_7 (x1 : Int32) (x2 : Int32) (u : St) : Option (((St) ⊕ (St)) ⊕ (Int32 × St)) :=
  some (.inr ((x2 + 1), u))
def f_X7_interfaces_j98_7 (x1 : Int32) (x2 : Int32) (x4 : Int32) (u : St) : Option (((St) ⊕ (St)) ⊕ (Int32 × St)) :=
  if 200 ≤ x2 then (
    f_X7_interfaces_j113_7 x1 x2 u)
  else (
    chk 200 x2 (
    f_X7_interfaces_j113_7 x1 x2 (up u 37 (Int32.toNatClampNeg x2) x4)))
def f_X7_interfaces_j56_7 (x1 : Int32) (x2 : Int32) (x3 : Int32) (x4 : Int32) (u : St) : Option (((St) ⊕ (St)) ⊕ (Int32 × St)) :=
  (loopF (f_X7_interfaces_b59 x1 x2 x3 x4) FU (0, u)).bind fun q110 => Sum.elim (fun q11 => some (.inl (.inl q11))) (fun q11 =>
    f_X7_interfaces_j98_7 x1 x2 x4 q11) q110
def f_X7_interfaces_b7 (x1 : Int32) (a : Int32 × St) : Option (((St) ⊕ (St)) ⊕ (Int32 × St)) :=
  if x1 ≤ a.1 then (
    some (.inl (.inr a.2)))
  else (
    if (a.2 7 0) = 0 then (
      (f_X7_u2 a.2).bind fun q4 => (
      if (q4.2 7 0) = 0 then (
        (f_X7_is q4.1 7 q4.2).bind fun q14 => (
        if q14 = 0 then (
          (f_X7_fail 12 (a.2 3 0) q4.2).bind fun q16 => (
          f_X7_interfaces_j56_7 x1 a.1 (a.2 3 0) q4.1 q16.2))
        else (
          f_X7_interfaces_j56_7 x1 a.1 (a.2 3 0) q4.1 q4.2)))
      else (
        f_X7_interfaces_j56_7 x1 a.1 (a.2 3 0) q4.1 q4.2)))
    else (
      some (.inl (.inr a.2))))
def f_X7_interfaces_j119 (u : St) : Option (St) :=
  some u
def f_X7_interfaces (u : St) : Option (St) :=
  (f_X7_u2 u).bind fun q1 => (
  (loopF (f_X7_interfaces_b7 q1.1) FU (0, q1.2)).bind fun q170 => Sum.elim (fun q17 => some q17) (fun q17 =>
    f_X7_interfaces_j119 q17) q170)
def f_X7_several_j26 (z0 : Int32) (u : St) : Option (Int32) :=
  bchk z0 (
  some z0)
def f_X7_several (p0 : Int32) (u : St) : Option (Int32) :=
  if (((p0 &&& 1) + ((p0 >>> ((1 : Int32) &&& 31)) &&& 1)) + ((p0 >>> ((2 : Int32) &&& 31)) &&& 1)) ≤ 1 then (
    f_X7_several_j26 0 u)
  else (
    f_X7_several_j26 1 u)
def f_X7_header_j56 (u : St) : Option (St) :=
  some u
def f_X7_header_j48 (u : St) : Option (St) :=
  (f_X7_fail 3 6 u).bind fun q7 => (
  f_X7_header_j56 q7.2)
def f_X7_header_j19 (u : St) : Option (St) :=
  (f_X7_u2 u).bind fun q3 => (
  (f_X7_u2 q3.2).bind fun q4 => (
  if (q4.2 7 0) = 0 then (
    if q4.1 < 45 then (
      f_X7_header_j48 q4.2)
    else (
      if q4.1 ≤ 69 then (
        f_X7_header_j56 q4.2)
      else (
        f_X7_header_j48 q4.2)))
  else (
    f_X7_header_j56 q4.2)))
def f_X7_header (u : St) : Option (St) :=
  (f_X7_u 4 u).bind fun q1 => (
  if (lg_cmp q1.1 3405691582) = 0 then (
    f_X7_header_j19 q1.2)
  else (
    (f_X7_fail 2 0 q1.2).bind fun q9 => (
    f_X7_header_j19 q9.2)))
def f_X7_top_j73 (u : St) : Option (St) :=
  (f_X7_classAt u).bind fun q5 => (
  (f_X7_classAt q5).bind fun q6 => (
  (f_X7_interfaces q6).bind fun q7 => (
  some q7)))
def f_X7_top_j53 (x1 : Int32) (z0 : Int32) (u : St) : Option (St) :=
  if (u 7 0) = 0 then (
    if z0 = 0 then (
      f_X7_top_j73 u)
    else (
      (f_X7_fail 11 x1 u).bind fun q9 => (
      f_X7_top_j73 q9.2)))
  else (
    f_X7_top_j73 u)
def f_X7_top_j52 (x1 : Int32) (u : St) : Option (St) :=
  f_X7_top_j53 x1 0 u
def f_X7_top_j48 (x1 : Int32) (u : St) : Option (St) :=
  f_X7_top_j53 x1 1 u
def f_X7_top_j33 (x1 : Int32) (x2 : Int32) (u : St) : Option (St) :=
  if (x2 &&& 1024) = 0 then (
    f_X7_top_j52 x1 u)
  else (
    if (x2 &&& 16) = 0 then (
      f_X7_top_j52 x1 u)
    else (
      f_X7_top_j48 x1 u))
def f_X7_top (u : St) : Option (St) :=
  (f_X7_u2 u).bind fun q1 => (
  if (q1.1 &&& 512) = 0 then (
    f_X7_top_j33 (u 3 0) q1.1 q1.2)
  else (
    if (q1.1 &&& 1024) = 0 then (
      f_X7_top_j48 (u 3 0) q1.2)
    else (
      if (q1.1 &&& 16) = 0 then (
        f_X7_top_j33 (u 3 0) q1.1 q1.2)
      else (
        f_X7_top_j48 (u 3 0) q1.2))))
def f_X7_member_j307_253 (x1 : Int32) (x3 : Int32) (x6 : Int32) (x7 : Int32) (x9 : Int32) (x10 : Int32) (u : St) : Option (((Int32 × St) ⊕ (St)) ⊕ (Int32 × St)) :=
  some (.inr ((x10 + 1), u))
def f_X7_member_b253 (x1 : Int32) (x3 : Int32) (x6 : Int32) (x7 : Int32) (x9 : Int32) (a : Int32 × St) : Option (((Int32 × St) ⊕ (St)) ⊕ (Int32 × St)) :=
  if x1 ≤ a.1 then (
    some (.inl (.inr a.2)))
  else (
    if (a.2 7 0) = 0 then (
      chk 60 a.1 (
      (f_X7_equal ((a.2 38) (Int32.toNatClampNeg a.1)) x7 a.2).bind fun q14 => (
      if q14 = 0 then (
        f_X7_member_j307_253 x1 x3 x6 x7 x9 a.1 a.2)
      else (
        chk 60 a.1 (
        (f_X7_equal ((a.2 39) (Int32.toNatClampNeg a.1)) x9 a.2).bind fun q17 => (
        if q17 = 0 then (
          f_X7_member_j307_253 x1 x3 x6 x7 x9 a.1 a.2)
        else (
          (f_X7_fail 17 x6 a.2).bind fun q19 => (
          f_X7_member_j307_253 x1 x3 x6 x7 x9 a.1 q19.2))))))))
    else (
      some (.inl (.inr a.2))))
def f_X7_member_j335 (x3 : Int32) (u : St) : Option (Int32 × St) :=
  some (x3, u)
def f_X7_member_j313 (x1 : Int32) (x3 : Int32) (x7 : Int32) (x9 : Int32) (u : St) : Option (Int32 × St) :=
  if 60 ≤ x1 then (
    f_X7_member_j335 x3 u)
  else (
    chk 60 x1 (
    chk 60 x1 (
    f_X7_member_j335 x3 (up (up u 38 (Int32.toNatClampNeg x1) x7) 39 (Int32.toNatClampNeg x1) x9))))
def f_X7_member_j250 (x1 : Int32) (x3 : Int32) (x6 : Int32) (x7 : Int32) (x9 : Int32) (u : St) : Option (Int32 × St) :=
  (loopF (f_X7_member_b253 x1 x3 x6 x7 x9) FU (0, u)).bind fun q200 => Sum.elim (fun q20 => some q20) (fun q20 =>
    f_X7_member_j313 x1 x3 x7 x9 q20) q200
def f_X7_member_j206 (x1 : Int32) (x2 : Int32) (x3 : Int32) (x6 : Int32) (x7 : Int32) (x9 : Int32) (u : St) : Option (Int32 × St) :=
  if (u 7 0) = 0 then (
    if x2 = 0 then (
      (f_X7_brackets x9 0 u).bind fun q24 => (
      chk 7 6 (
      if q24 ≤ ((u 32) (Int32.toNatClampNeg 6)) then (
        f_X7_member_j250 x1 x3 x6 x7 x9 u)
      else (
        (f_X7_brackets x9 0 u).bind fun q27 => (
        chk 7 6 (
        f_X7_member_j250 x1 x3 x6 x7 x9 (up u 32 (Int32.toNatClampNeg 6) q27)))))))
    else (
      f_X7_member_j250 x1 x3 x6 x7 x9 u))
  else (
    some (x3, u))
def f_X7_member_j197 (x1 : Int32) (x2 : Int32) (x3 : Int32) (x6 : Int32) (x7 : Int32) (x8 : Int32) (x9 : Int32) (u : St) : Option (Int32 × St) :=
  (f_X7_fail 16 x8 u).bind fun q31 => (
  f_X7_member_j206 x1 x2 x3 x6 x7 x9 q31.2)
def f_X7_member_j143 (x1 : Int32) (x2 : Int32) (x3 : Int32) (x6 : Int32) (x7 : Int32) (u : St) : Option (Int32 × St) :=
  (f_X7_u2 u).bind fun q7 => (
  if (q7.2 7 0) = 0 then (
    (f_X7_is q7.1 1 q7.2).bind fun q29 => (
    if q29 = 0 then (
      f_X7_member_j197 x1 x2 x3 x6 x7 (u 3 0) q7.1 q7.2)
    else (
      if x2 = 0 then (
        (f_X7_fieldType q7.1 q7.2).bind fun q33 => (
        if q33 = 0 then (
          f_X7_member_j197 x1 x2 x3 x6 x7 (u 3 0) q7.1 q7.2)
        else (
          f_X7_member_j206 x1 x2 x3 x6 x7 q7.1 q7.2)))
      else (
        (f_X7_methodType q7.1 q7.2).bind fun q35 => (
        if q35 = 0 then (
          f_X7_member_j197 x1 x2 x3 x6 x7 (u 3 0) q7.1 q7.2)
        else (
          f_X7_member_j206 x1 x2 x3 x6 x7 q7.1 q7.2))))))
  else (
    f_X7_member_j206 x1 x2 x3 x6 x7 q7.1 q7.2))
def f_X7_member_j134 (x1 : Int32) (x2 : Int32) (x3 : Int32) (x6 : Int32) (x7 : Int32) (u : St) : Option (Int32 × St) :=
  (f_X7_fail 15 x6 u).bind fun q39 => (
  f_X7_member_j143 x1 x2 x3 x6 x7 q39.2)
def f_X7_member_j80 (x1 : Int32) (x2 : Int32) (x3 : Int32) (u : St) : Option (Int32 × St) :=
  (f_X7_u2 u).bind fun q5 => (
  if (q5.2 7 0) = 0 then (
    (f_X7_is q5.1 1 q5.2).bind fun q37 => (
    if q37 = 0 then (
      f_X7_member_j134 x1 x2 x3 (u 3 0) q5.1 q5.2)
    else (
      if x2 = 0 then (
        (f_X7_fieldName q5.1 q5.2).bind fun q41 => (
        if q41 = 0 then (
          f_X7_member_j134 x1 x2 x3 (u 3 0) q5.1 q5.2)
        else (
          f_X7_member_j143 x1 x2 x3 (u 3 0) q5.1 q5.2)))
      else (
        (f_X7_memberName q5.1 q5.2).bind fun q43 => (
        if q43 = 0 then (
          f_X7_member_j134 x1 x2 x3 (u 3 0) q5.1 q5.2)
        else (
          f_X7_member_j143 x1 x2 x3 (u 3 0) q5.1 q5.2))))))
  else (
    f_X7_member_j143 x1 x2 x3 (u 3 0) q5.1 q5.2))
def f_X7_member_j58 (x1 : Int32) (x2 : Int32) (x3 : Int32) (z0 : Int32) (u : St) : Option (Int32 × St) :=
  if (u 7 0) = 0 then (
    if z0 = 0 then (
      f_X7_member_j80 x1 x2 x3 u)
    else (
      (f_X7_fail 14 x3 u).bind fun q46 => (
      f_X7_member_j80 x1 x2 x3 q46.2)))
  else (
    f_X7_member_j80 x1 x2 x3 u)
def f_X7_member_j53 (x1 : Int32) (x2 : Int32) (x3 : Int32) (u : St) : Option (Int32 × St) :=
  f_X7_member_j58 x1 x2 x3 1 u
def f_X7_member_j57 (x1 : Int32) (x2 : Int32) (x3 : Int32) (u : St) : Option (Int32 × St) :=
  f_X7_member_j58 x1 x2 x3 0 u
def f_X7_member (p0 : Int32) (p1 : Int32) (u : St) : Option (Int32 × St) :=
  (f_X7_u2 u).bind fun q1 => (
  (f_X7_several q1.1 q1.2).bind fun q2 => (
  if q2 = 0 then (
    if p1 = 0 then (
      if (q1.1 &&& 80) = 80 then (
        f_X7_member_j53 p0 p1 (u 3 0) q1.2)
      else (
        f_X7_member_j57 p0 p1 (u 3 0) q1.2))
    else (
      if (q1.1 &&& 1024) = 0 then (
        f_X7_member_j57 p0 p1 (u 3 0) q1.2)
      else (
        if (q1.1 &&& 26) = 0 then (
          f_X7_member_j57 p0 p1 (u 3 0) q1.2)
        else (
          f_X7_member_j53 p0 p1 (u 3 0) q1.2))))
  else (
    f_X7_member_j53 p0 p1 (u 3 0) q1.2)))
def f_X7_textAt_j34 (x2 : Int32) (u : St) : Option (Int32 × St) :=
  some (x2, u)
def f_X7_textAt (u : St) : Option (Int32 × St) :=
  (f_X7_u2 u).bind fun q1 => (
  if (q1.2 7 0) = 0 then (
    (f_X7_is q1.1 1 q1.2).bind fun q3 => (
    if q3 = 0 then (
      (f_X7_fail 15 (u 3 0) q1.2).bind fun q5 => (
      f_X7_textAt_j34 q1.1 q5.2))
    else (
      f_X7_textAt_j34 q1.1 q1.2)))
  else (
    f_X7_textAt_j34 q1.1 q1.2))
def f_X7_lengthAt_j34 (x1 : Int64) (u : St) : Option (Int64 × St) :=
  some (x1, u)
def f_X7_lengthAt (u : St) : Option (Int64 × St) :=
  (f_X7_u 4 u).bind fun q1 => (
  if (q1.2 7 0) = 0 then (
    if (lg_cmp q1.1 2147483648) < 0 then (
      f_X7_lengthAt_j34 q1.1 q1.2)
    else (
      (f_X7_fail (q1.2 5 0) (q1.2 6 0) q1.2).bind fun q4 => (
      f_X7_lengthAt_j34 q1.1 q4.2)))
  else (
    f_X7_lengthAt_j34 q1.1 q1.2))
def f_X7_attributes_j49_7 (x1 : Int32) (x2 : Int32) (u : St) : Option (((St) ⊕ (St)) ⊕ (Int32 × St)) :=
  some (.inr ((x2 + 1), u))
def f_X7_attributes_b7 (x1 : Int32) (a : Int32 × St) : Option (((St) ⊕ (St)) ⊕ (Int32 × St)) :=
  if x1 ≤ a.1 then (
    some (.inl (.inr a.2)))
  else (
    if (a.2 7 0) = 0 then (
      (f_X7_textAt a.2).bind fun q4 => (
      (f_X7_lengthAt q4.2).bind fun q5 => (
      (f_X7_skip q5.1 q5.2).bind fun q6 => (
      if (q6 7 0) = 0 then (
        chk 7 5 (
        chk 7 5 (
        f_X7_attributes_j49_7 x1 a.1 (up q6 32 (Int32.toNatClampNeg 5) (((q6 32) (Int32.toNatClampNeg 5)) + 1)))))
      else (
        f_X7_attributes_j49_7 x1 a.1 q6)))))
    else (
      some (.inl (.inr a.2))))
def f_X7_attributes_j55 (u : St) : Option (St) :=
  some u
def f_X7_attributes (u : St) : Option (St) :=
  (f_X7_u2 u).bind fun q1 => (
  (loopF (f_X7_attributes_b7 q1.1) FU (0, q1.2)).bind fun q100 => Sum.elim (fun q10 => some q10) (fun q10 =>
    f_X7_attributes_j55 q10) q100)
def f_X7_constantFits_j76 (z0 : Int32) (u : St) : Option (Int32) :=
  bchk z0 (
  some z0)
def f_X7_constantFits_j75 (u : St) : Option (Int32) :=
  f_X7_constantFits_j76 0 u
def f_X7_constantFits_j62 (x2 : Int32) (u : St) : Option (Int32) :=
  (f_X7_is x2 3 u).bind fun q6 => (
  if q6 = 0 then (
    f_X7_constantFits_j75 u)
  else (
    f_X7_constantFits_j76 1 u))
def f_X7_constantFits (p0 : Int32) (p1 : Int32) (u : St) : Option (Int32) :=
  chk 420 p0 (
  if ((u 36) (Int32.toNatClampNeg p0)) = 1 then (
    (f_X7_letter p0 0 u).bind fun q3 => (
    if q3 = 74 then (
      (f_X7_is p1 5 u).bind fun q13 => (
      bchk q13 (
      some q13)))
    else (
      if q3 = 73 then (
        f_X7_constantFits_j62 p1 u)
      else (
        if q3 = 83 then (
          f_X7_constantFits_j62 p1 u)
        else (
          if q3 = 66 then (
            f_X7_constantFits_j62 p1 u)
          else (
            if q3 = 67 then (
              f_X7_constantFits_j62 p1 u)
            else (
              if q3 = 90 then (
                f_X7_constantFits_j62 p1 u)
              else (
                f_X7_constantFits_j75 u))))))))
  else (
    some 0))
def f_X7_spells_a15_b15 (x1 : Int32) (u : St) (a : Int32) : Option (((Int32) ⊕ (Unit)) ⊕ (Int32)) :=
  if 13 ≤ a then (
    some (.inl (.inr ())))
  else (
    (f_X7_letter x1 a u).bind fun q4 => (
    chk 13 a (
    if q4 = ((u 44) (Int32.toNatClampNeg a)) then (
      some (.inr (a + 1)))
    else (
      some (.inl (.inl 0))))))
def f_X7_spells_a15 (p0 : Int32) (u : St) : Option (Int32) :=
  chk 420 p0 (
  if ((u 36) (Int32.toNatClampNeg p0)) = 13 then (
    (loopF (f_X7_spells_a15_b15 p0 u) FU 0).bind fun q70 => Sum.elim (fun q7 => some q7) (fun q7 =>
      some 1) q70)
  else (
    some 0))
def f_X7_fieldAttributes_j151_7 (x1 : Int32) (x2 : Int32) (x3 : Int32) (u : St) : Option (((St) ⊕ (St)) ⊕ (Int32 × St)) :=
  some (.inr ((x3 + 1), u))
def f_X7_fieldAttributes_j134_7 (x1 : Int32) (x2 : Int32) (x3 : Int32) (u : St) : Option (((St) ⊕ (St)) ⊕ (Int32 × St)) :=
  if (u 7 0) = 0 then (
    chk 7 5 (
    chk 7 5 (
    f_X7_fieldAttributes_j151_7 x1 x2 x3 (up u 32 (Int32.toNatClampNeg 5) (((u 32) (Int32.toNatClampNeg 5)) + 1)))))
  else (
    f_X7_fieldAttributes_j151_7 x1 x2 x3 u)
def f_X7_fieldAttributes_j125_7 (x1 : Int32) (x2 : Int32) (x3 : Int32) (x4 : Int32) (u : St) : Option (((St) ⊕ (St)) ⊕ (Int32 × St)) :=
  (f_X7_fail 18 x4 u).bind fun q15 => (
  f_X7_fieldAttributes_j134_7 x1 x2 x3 q15.2)
def f_X7_fieldAttributes_j104_7 (x1 : Int32) (x2 : Int32) (x3 : Int32) (x4 : Int32) (x6 : Int64) (z0 : Int32) (u : St) : Option (((St) ⊕ (St)) ⊕ (Int32 × St)) :=
  if (lg_cmp x6 2) = 0 then (
    (f_X7_constantFits x1 z0 u).bind fun q16 => (
    if q16 = 0 then (
      f_X7_fieldAttributes_j125_7 x1 x2 x3 x4 u)
    else (
      f_X7_fieldAttributes_j134_7 x1 x2 x3 u)))
  else (
    f_X7_fieldAttributes_j125_7 x1 x2 x3 x4 u)
def f_X7_fieldAttributes_b7 (x1 : Int32) (x2 : Int32) (a : Int32 × St) : Option (((St) ⊕ (St)) ⊕ (Int32 × St)) :=
  if x2 ≤ a.1 then (
    some (.inl (.inr a.2)))
  else (
    if (a.2 7 0) = 0 then (
      (f_X7_textAt a.2).bind fun q4 => (
      (f_X7_lengthAt q4.2).bind fun q5 => (
      (f_X7_skip q5.1 q5.2).bind fun q6 => (
      if (q6 7 0) = 0 then (
        (f_X7_spells_a15 q4.1 q6).bind fun q8 => (
        if q8 = 0 then (
          f_X7_fieldAttributes_j134_7 x1 x2 a.1 q6)
        else (
          if (lg_cmp q5.1 2) = 0 then (
            chk 400 (q5.2 3 0) (
            chk 400 ((q5.2 3 0) + 1) (
            f_X7_fieldAttributes_j104_7 x1 x2 a.1 (a.2 3 0) q5.1 ((256 * ((q6 30) (Int32.toNatClampNeg (q5.2 3 0)))) + ((q6 30) (Int32.toNatClampNeg ((q5.2 3 0) + 1)))) q6)))
          else (
            f_X7_fieldAttributes_j104_7 x1 x2 a.1 (a.2 3 0) q5.1 0 q6))))
      else (
        some (.inl (.inl q6)))))))
    else (
      some (.inl (.inr a.2))))
def f_X7_fieldAttributes_j157 (u : St) : Option (St) :=
  some u
def f_X7_fieldAttributes (p0 : Int32) (u : St) : Option (St) :=
  (f_X7_u2 u).bind fun q1 => (
  (loopF (f_X7_fieldAttributes_b7 p0 q1.1) FU (0, q1.2)).bind fun q200 => Sum.elim (fun q20 => some q20) (fun q20 =>
    f_X7_fieldAttributes_j157 q20) q200)
def f_X7_fields_j60_7 (x1 : Int32) (x2 : Int32) (u : St) : Option (((St) ⊕ (St)) ⊕ (Int32 × St)) :=
  some (.inr ((x2 + 1), u))
def f_X7_fields_j43_7 (x1 : Int32) (x2 : Int32) (u : St) : Option (((St) ⊕ (St)) ⊕ (Int32 × St)) :=
  if (u 7 0) = 0 then (
    chk 7 1 (
    chk 7 1 (
    f_X7_fields_j60_7 x1 x2 (up u 32 (Int32.toNatClampNeg 1) (((u 32) (Int32.toNatClampNeg 1)) + 1)))))
  else (
    f_X7_fields_j60_7 x1 x2 u)
def f_X7_fields_b7 (x1 : Int32) (a : Int32 × St) : Option (((St) ⊕ (St)) ⊕ (Int32 × St)) :=
  if x1 ≤ a.1 then (
    some (.inl (.inr a.2)))
  else (
    if (a.2 7 0) = 0 then (
      (f_X7_member a.1 0 a.2).bind fun q4 => (
      if (q4.2 7 0) = 0 then (
        chk 60 a.1 (
        (f_X7_fieldAttributes ((q4.2 39) (Int32.toNatClampNeg a.1)) q4.2).bind fun q10 => (
        f_X7_fields_j43_7 x1 a.1 q10)))
      else (
        f_X7_fields_j43_7 x1 a.1 q4.2)))
    else (
      some (.inl (.inr a.2))))
def f_X7_fields_j66 (u : St) : Option (St) :=
  some u
def f_X7_fields (u : St) : Option (St) :=
  (f_X7_u2 u).bind fun q1 => (
  (loopF (f_X7_fields_b7 q1.1) FU (0, q1.2)).bind fun q110 => Sum.elim (fun q11 => some q11) (fun q11 =>
    f_X7_fields_j66 q11) q110)
def f_X7_byteAt_j23 (z0 : Int32) (u : St) : Option (Int32) :=
  some z0
def f_X7_byteAt (p0 : Int32) (u : St) : Option (Int32) :=
  if (u 11 0) ≤ p0 then (
    f_X7_byteAt_j23 0 u)
  else (
    chk 400 ((u 10 0) + p0) (
    f_X7_byteAt_j23 ((u 30) (Int32.toNatClampNeg ((u 10 0) + p0))) u))
def f_X7_tableAt (p0 : Int32) (u : St) : Option (Int32) :=
  some ((p0 + 4) - (p0 - p0 / 4 * 4))
def f_X7_shortAt (p0 : Int32) (u : St) : Option (Int32) :=
  (f_X7_byteAt p0 u).bind fun q1 => (
  (f_X7_byteAt (p0 + 1) u).bind fun q2 => (
  some ((256 * q1) + q2)))
def f_X7_wordAt (p0 : Int32) (u : St) : Option (Int32) :=
  (f_X7_shortAt p0 u).bind fun q1 => (
  (f_X7_shortAt (p0 + 2) u).bind fun q2 => (
  some ((q1 <<< ((16 : Int32) &&& 31)) ||| q2)))
def f_X7_size_j304 (z0 : Int32) (u : St) : Option (Int32) :=
  some z0
def f_X7_size_j283 (u : St) : Option (Int32) :=
  f_X7_size_j304 (-1) u
def f_X7_size_j223 (z0 : Int32) (u : St) : Option (Int32) :=
  some z0
def f_X7_size_j206 (u : St) : Option (Int32) :=
  f_X7_size_j223 4 u
def f_X7_size (p0 : Int32) (u : St) : Option (Int32) :=
  (f_X7_byteAt p0 u).bind fun q1 => (
  if q1 = 0 ∨ q1 = 1 ∨ q1 = 3 ∨ q1 = 87 ∨ q1 = 96 ∨ q1 = 172 ∨ q1 = 177 ∨ q1 = 191 then (
    some 1)
  else (
  if q1 = 16 ∨ q1 = 18 ∨ q1 = 21 ∨ q1 = 54 then (
    some 2)
  else (
  if q1 = 17 ∨ q1 = 132 ∨ q1 = 153 ∨ q1 = 167 ∨ q1 = 184 then (
    some 3)
  else (
  if q1 = 170 then (
    (f_X7_tableAt p0 u).bind fun q3 => (
    if (q3 + 12) ≤ (u 11 0) then (
      (f_X7_wordAt (q3 + 4) u).bind fun q5 => (
      (f_X7_wordAt (q3 + 8) u).bind fun q6 => (
      if 0 < (lg_cmp (q5.toInt64) (q6.toInt64)) then (
        f_X7_size_j283 u)
      else (
        if (lg_cmp ((q6.toInt64) - (q5.toInt64)) 7) ≤ 0 then (
          f_X7_size_j304 (((q3 + 12) + (4 * ((((q6.toInt64) - (q5.toInt64)) + 1).toInt32))) - p0) u)
        else (
          f_X7_size_j283 u)))))
    else (
      some (-1))))
  else (
  if q1 = 196 then (
    (f_X7_byteAt (p0 + 1) u).bind fun q9 => (
    if (p0 + 1) < (u 11 0) then (
      if q9 = 21 then (
        f_X7_size_j206 u)
      else (
        if q9 = 54 then (
          f_X7_size_j206 u)
        else (
          if q9 = 132 then (
            f_X7_size_j223 6 u)
          else (
            f_X7_size_j223 (-1) u))))
    else (
      some (-1))))
  else (
    some (-1)))))))
def f_X7_operandFits_j100 (z0 : Int32) (u : St) : Option (Int32) :=
  bchk z0 (
  some z0)
def f_X7_operandFits_j95 (u : St) : Option (Int32) :=
  f_X7_operandFits_j100 1 u
def f_X7_operandFits_j120 (z0 : Int32) (u : St) : Option (Int32) :=
  bchk z0 (
  some z0)
def f_X7_operandFits_j154 (z0 : Int32) (u : St) : Option (Int32) :=
  bchk z0 (
  some z0)
def f_X7_operandFits (p0 : Int32) (u : St) : Option (Int32) :=
  (f_X7_byteAt p0 u).bind fun q1 => (
  if q1 = 18 then (
    (f_X7_byteAt (p0 + 1) u).bind fun q3 => (
    (f_X7_is q3 3 u).bind fun q4 => (
    if q4 = 0 then (
      (f_X7_byteAt (p0 + 1) u).bind fun q7 => (
      (f_X7_is q7 8 u).bind fun q8 => (
      if q8 = 0 then (
        f_X7_operandFits_j100 0 u)
      else (
        f_X7_operandFits_j95 u))))
    else (
      f_X7_operandFits_j95 u))))
  else (
  if q1 = 21 ∨ q1 = 54 ∨ q1 = 132 then (
    (f_X7_byteAt (p0 + 1) u).bind fun q10 => (
    if (u 12 0) ≤ q10 then (
      f_X7_operandFits_j120 0 u)
    else (
      f_X7_operandFits_j120 1 u)))
  else (
  if q1 = 184 then (
    (f_X7_shortAt (p0 + 1) u).bind fun q13 => (
    (f_X7_is q13 10 u).bind fun q14 => (
    bchk q14 (
    some q14))))
  else (
  if q1 = 196 then (
    (f_X7_shortAt (p0 + 2) u).bind fun q16 => (
    if (u 12 0) ≤ q16 then (
      f_X7_operandFits_j154 0 u)
    else (
      f_X7_operandFits_j154 1 u)))
  else (
    some 1)))))
def f_X7_walk_b2 (a : Int32 × St) : Option (((St) ⊕ (St)) ⊕ (Int32 × St)) :=
  if 65 ≤ a.1 then (
    some (.inl (.inr a.2)))
  else (
    chk 65 a.1 (
    some (.inr ((a.1 + 1), (up a.2 40 (Int32.toNatClampNeg a.1) (vp_nar .boolean 0))))))
def f_X7_walk_j100_28 (x1 : Int32) (x2 : Int32) (u : St) : Option (((St) ⊕ (St)) ⊕ (Int32 × St)) :=
  chk 65 x1 (
  some (.inr ((x1 + x2), (up (up (up u 40 (Int32.toNatClampNeg x1) (vp_nar .boolean 1)) 16 0 x1) 15 0 ((u 15 0) + 1)))))
def f_X7_walk_j63_28 (x1 : Int32) (x2 : Int32) (u : St) : Option (((St) ⊕ (St)) ⊕ (Int32 × St)) :=
  (f_X7_fail 23 ((u 10 0) + x1) u).bind fun q8 => (
  f_X7_walk_j100_28 x1 x2 q8.2)
def f_X7_walk_b28 (a : Int32 × St) : Option (((St) ⊕ (St)) ⊕ (Int32 × St)) :=
  if (a.2 11 0) ≤ a.1 then (
    some (.inl (.inr a.2)))
  else (
    if (a.2 7 0) = 0 then (
      (f_X7_size a.1 a.2).bind fun q6 => (
      if q6 < 0 then (
        f_X7_walk_j63_28 a.1 q6 a.2)
      else (
        if (a.1 + q6) ≤ (a.2 11 0) then (
          (f_X7_operandFits a.1 a.2).bind fun q11 => (
          if q11 = 0 then (
            (f_X7_fail 24 ((a.2 10 0) + a.1) a.2).bind fun q13 => (
            f_X7_walk_j100_28 a.1 q6 q13.2))
          else (
            f_X7_walk_j100_28 a.1 q6 a.2)))
        else (
          f_X7_walk_j63_28 a.1 q6 a.2))))
    else (
      some (.inl (.inr a.2))))
def f_X7_walk_j129 (u : St) : Option (St) :=
  some u
def f_X7_walk (u : St) : Option (St) :=
  (loopF (f_X7_walk_b2) FU (0, u)).bind fun q30 => Sum.elim (fun q3 => some q3) (fun q3 =>
    (loopF (f_X7_walk_b28) FU (0, (up q3 15 0 0))).bind fun q140 => Sum.elim (fun q14 => some q14) (fun q14 =>
      f_X7_walk_j129 q14) q140) q30
def f_X7_isStart_j31 (z0 : Int32) (u : St) : Option (Int32) :=
  bchk z0 (
  some z0)
def f_X7_isStart_j30 (u : St) : Option (Int32) :=
  f_X7_isStart_j31 0 u
def f_X7_isStart (p0 : Int64) (u : St) : Option (Int32) :=
  if (lg_cmp p0 0) < 0 then (
    f_X7_isStart_j30 u)
  else (
    if 0 ≤ (lg_cmp p0 ((u 11 0).toInt64)) then (
      f_X7_isStart_j30 u)
    else (
      chk 65 (p0.toInt32) (
      if ((u 40) (Int32.toNatClampNeg (p0.toInt32))) = 0 then (
        f_X7_isStart_j30 u)
      else (
        f_X7_isStart_j31 1 u))))
def f_X7_jumpsFit_j20 (x1 : Int32) (u : St) : Option (Int32) :=
  (f_X7_shortAt (x1 + 1) u).bind fun q3 => (
  (f_X7_isStart ((x1 + (q3.toInt16.toInt32)).toInt64) u).bind fun q4 => (
  bchk q4 (
  some q4)))
def f_X7_jumpsFit_j122_88 (x1 : Int32) (x3 : Int32) (x4 : Int32) (x5 : Int32) (x6 : Int32) (u : St) : Option (((Int32) ⊕ (Int32)) ⊕ (Int32 × Int32)) :=
  some (.inr (x5, (x6 + 1)))
def f_X7_jumpsFit_b88 (x1 : Int32) (x3 : Int32) (x4 : Int32) (u : St) (a : Int32 × Int32) : Option (((Int32) ⊕ (Int32)) ⊕ (Int32 × Int32)) :=
  if x4 ≤ a.2 then (
    some (.inl (.inr a.1)))
  else (
    (f_X7_wordAt ((x3 + 12) + (4 * a.2)) u).bind fun q14 => (
    (f_X7_isStart ((x1.toInt64) + (q14.toInt64)) u).bind fun q15 => (
    if q15 = 0 then (
      f_X7_jumpsFit_j122_88 x1 x3 x4 0 a.2 u)
    else (
      f_X7_jumpsFit_j122_88 x1 x3 x4 a.1 a.2 u))))
def f_X7_jumpsFit (p0 : Int32) (u : St) : Option (Int32) :=
  (f_X7_byteAt p0 u).bind fun q1 => (
  if q1 = 153 then (
    f_X7_jumpsFit_j20 p0 u)
  else (
    if q1 = 167 then (
      f_X7_jumpsFit_j20 p0 u)
    else (
      if q1 = 170 then (
        (f_X7_tableAt p0 u).bind fun q8 => (
        (f_X7_wordAt (q8 + 8) u).bind fun q9 => (
        (f_X7_wordAt (q8 + 4) u).bind fun q10 => (
        (f_X7_wordAt q8 u).bind fun q11 => (
        (f_X7_isStart ((p0.toInt64) + (q11.toInt64)) u).bind fun q12 => (
        (loopF (f_X7_jumpsFit_b88 p0 q8 ((q9 - q10) + 1) u) FU (q12, 0)).bind fun q170 => Sum.elim (fun q17 => some q17) (fun q17 =>
          bchk q17 (
          some q17)) q170))))))
      else (
        some 1))))
def f_X7_handlerFits_j178 (z0 : Int32) (u : St) : Option (Int32) :=
  bchk z0 (
  some z0)
def f_X7_handlerFits_j177 (u : St) : Option (Int32) :=
  f_X7_handlerFits_j178 0 u
def f_X7_handlerFits_j173 (u : St) : Option (Int32) :=
  f_X7_handlerFits_j178 1 u
def f_X7_handlerFits_j150 (x6 : Int32) (z0 : Int32) (u : St) : Option (Int32) :=
  if z0 = 0 then (
    f_X7_handlerFits_j177 u)
  else (
    if x6 = 0 then (
      f_X7_handlerFits_j173 u)
    else (
      (f_X7_is x6 7 u).bind fun q14 => (
      if q14 = 0 then (
        f_X7_handlerFits_j177 u)
      else (
        f_X7_handlerFits_j173 u))))
def f_X7_handlerFits_j149 (x6 : Int32) (u : St) : Option (Int32) :=
  f_X7_handlerFits_j150 x6 0 u
def f_X7_handlerFits_j129 (x3 : Int32) (x4 : Int32) (x5 : Int32) (x6 : Int32) (u : St) : Option (Int32) :=
  (f_X7_isStart (x5.toInt64) u).bind fun q17 => (
  if q17 = 0 then (
    f_X7_handlerFits_j149 x6 u)
  else (
    if x4 ≤ x3 then (
      f_X7_handlerFits_j149 x6 u)
    else (
      f_X7_handlerFits_j150 x6 1 u)))
def f_X7_handlerFits (p0 : Int32) (u : St) : Option (Int32) :=
  chk 400 ((u 13 0) + (8 * p0)) (
  chk 400 (((u 13 0) + (8 * p0)) + 1) (
  chk 400 (((u 13 0) + (8 * p0)) + 2) (
  chk 400 (((u 13 0) + (8 * p0)) + 3) (
  chk 400 (((u 13 0) + (8 * p0)) + 4) (
  chk 400 (((u 13 0) + (8 * p0)) + 5) (
  chk 400 (((u 13 0) + (8 * p0)) + 6) (
  chk 400 (((u 13 0) + (8 * p0)) + 7) (
  (f_X7_isStart (((256 * ((u 30) (Int32.toNatClampNeg ((u 13 0) + (8 * p0))))) + ((u 30) (Int32.toNatClampNeg (((u 13 0) + (8 * p0)) + 1)))).toInt64) u).bind fun q9 => (
  if q9 = 0 then (
    f_X7_handlerFits_j149 ((256 * ((u 30) (Int32.toNatClampNeg (((u 13 0) + (8 * p0)) + 6)))) + ((u 30) (Int32.toNatClampNeg (((u 13 0) + (8 * p0)) + 7)))) u)
  else (
    if ((256 * ((u 30) (Int32.toNatClampNeg (((u 13 0) + (8 * p0)) + 2)))) + ((u 30) (Int32.toNatClampNeg (((u 13 0) + (8 * p0)) + 3)))) = (u 11 0) then (
      f_X7_handlerFits_j129 ((256 * ((u 30) (Int32.toNatClampNeg ((u 13 0) + (8 * p0))))) + ((u 30) (Int32.toNatClampNeg (((u 13 0) + (8 * p0)) + 1)))) ((256 * ((u 30) (Int32.toNatClampNeg (((u 13 0) + (8 * p0)) + 2)))) + ((u 30) (Int32.toNatClampNeg (((u 13 0) + (8 * p0)) + 3)))) ((256 * ((u 30) (Int32.toNatClampNeg (((u 13 0) + (8 * p0)) + 4)))) + ((u 30) (Int32.toNatClampNeg (((u 13 0) + (8 * p0)) + 5)))) ((256 * ((u 30) (Int32.toNatClampNeg (((u 13 0) + (8 * p0)) + 6)))) + ((u 30) (Int32.toNatClampNeg (((u 13 0) + (8 * p0)) + 7)))) u)
    else (
      (f_X7_isStart (((256 * ((u 30) (Int32.toNatClampNeg (((u 13 0) + (8 * p0)) + 2)))) + ((u 30) (Int32.toNatClampNeg (((u 13 0) + (8 * p0)) + 3)))).toInt64) u).bind fun q20 => (
      if q20 = 0 then (
        f_X7_handlerFits_j149 ((256 * ((u 30) (Int32.toNatClampNeg (((u 13 0) + (8 * p0)) + 6)))) + ((u 30) (Int32.toNatClampNeg (((u 13 0) + (8 * p0)) + 7)))) u)
      else (
        f_X7_handlerFits_j129 ((256 * ((u 30) (Int32.toNatClampNeg ((u 13 0) + (8 * p0))))) + ((u 30) (Int32.toNatClampNeg (((u 13 0) + (8 * p0)) + 1)))) ((256 * ((u 30) (Int32.toNatClampNeg (((u 13 0) + (8 * p0)) + 2)))) + ((u 30) (Int32.toNatClampNeg (((u 13 0) + (8 * p0)) + 3)))) ((256 * ((u 30) (Int32.toNatClampNeg (((u 13 0) + (8 * p0)) + 4)))) + ((u 30) (Int32.toNatClampNeg (((u 13 0) + (8 * p0)) + 5)))) ((256 * ((u 30) (Int32.toNatClampNeg (((u 13 0) + (8 * p0)) + 6)))) + ((u 30) (Int32.toNatClampNeg (((u 13 0) + (8 * p0)) + 7)))) u)))))))))))))
def f_X7_judgeCode_j51_6 (x1 : Int32) (u : St) : Option (((St) ⊕ (St)) ⊕ (Int32 × St)) :=
  some (.inr ((x1 + 1), u))
def f_X7_judgeCode_b6 (a : Int32 × St) : Option (((St) ⊕ (St)) ⊕ (Int32 × St)) :=
  if (a.2 11 0) ≤ a.1 then (
    some (.inl (.inr a.2)))
  else (
    if (a.2 7 0) = 0 then (
      chk 65 a.1 (
      if ((a.2 40) (Int32.toNatClampNeg a.1)) = 0 then (
        f_X7_judgeCode_j51_6 a.1 a.2)
      else (
        (f_X7_jumpsFit a.1 a.2).bind fun q6 => (
        if q6 = 0 then (
          (f_X7_fail 25 ((a.2 10 0) + a.1) a.2).bind fun q8 => (
          f_X7_judgeCode_j51_6 a.1 q8.2))
        else (
          f_X7_judgeCode_j51_6 a.1 a.2)))))
    else (
      some (.inl (.inr a.2))))
def f_X7_judgeCode_j166_127 (x2 : Int32) (u : St) : Option (((St) ⊕ (St)) ⊕ (Int32 × St)) :=
  some (.inr ((x2 + 1), u))
def f_X7_judgeCode_b127 (a : Int32 × St) : Option (((St) ⊕ (St)) ⊕ (Int32 × St)) :=
  if (a.2 14 0) ≤ a.1 then (
    some (.inl (.inr a.2)))
  else (
    if (a.2 7 0) = 0 then (
      (f_X7_handlerFits a.1 a.2).bind fun q15 => (
      if q15 = 0 then (
        (f_X7_fail 27 ((a.2 13 0) + (8 * a.1)) a.2).bind fun q17 => (
        f_X7_judgeCode_j166_127 a.1 q17.2))
      else (
        f_X7_judgeCode_j166_127 a.1 a.2)))
    else (
      some (.inl (.inr a.2))))
def f_X7_judgeCode_j172 (u : St) : Option (St) :=
  some u
def f_X7_judgeCode_j125 (u : St) : Option (St) :=
  (loopF (f_X7_judgeCode_b127) FU (0, u)).bind fun q180 => Sum.elim (fun q18 => some q18) (fun q18 =>
    f_X7_judgeCode_j172 q18) q180
def f_X7_judgeCode_j57 (u : St) : Option (St) :=
  if (u 7 0) = 0 then (
    (f_X7_byteAt (u 16 0) u).bind fun q11 => (
    if q11 = 167 then (
      f_X7_judgeCode_j125 u)
    else (
      if q11 = 170 then (
        f_X7_judgeCode_j125 u)
      else (
        if q11 = 172 then (
          f_X7_judgeCode_j125 u)
        else (
          if q11 = 177 then (
            f_X7_judgeCode_j125 u)
          else (
            if q11 = 191 then (
              f_X7_judgeCode_j125 u)
            else (
              (f_X7_fail 26 ((u 10 0) + (u 16 0)) u).bind fun q23 => (
              f_X7_judgeCode_j125 q23.2))))))))
  else (
    some u)
def f_X7_judgeCode (u : St) : Option (St) :=
  (f_X7_walk u).bind fun q1 => (
  (loopF (f_X7_judgeCode_b6) FU (0, q1)).bind fun q90 => Sum.elim (fun q9 => some q9) (fun q9 =>
    f_X7_judgeCode_j57 q9) q90)
def f_X7_readCode_j188 (u : St) : Option (St) :=
  if (u 7 0) = 0 then (
    chk 7 3 (
    chk 7 3 (
    chk 7 4 (
    chk 7 4 (
    some (up (up u 32 (Int32.toNatClampNeg 3) (((u 32) (Int32.toNatClampNeg 3)) + (u 15 0))) 32 (Int32.toNatClampNeg 4) ((((up u 32 (Int32.toNatClampNeg 3) (((u 32) (Int32.toNatClampNeg 3)) + (u 15 0))) 32) (Int32.toNatClampNeg 4)) + (u 14 0))))))))
  else (
    some u)
def f_X7_readCode_j156 (u : St) : Option (St) :=
  if (u 7 0) = 0 then (
    (f_X7_judgeCode (up (up (up u 4 0 (u 0 0)) 5 0 1) 6 0 (u 0 0))).bind fun q16 => (
    f_X7_readCode_j188 q16))
  else (
    f_X7_readCode_j188 (up (up (up u 4 0 (u 0 0)) 5 0 1) 6 0 (u 0 0)))
def f_X7_readCode_j79 (x2 : Int32) (x3 : Int32) (x5 : Int64) (u : St) : Option (St) :=
  (f_X7_skip x5 (up (up u 11 0 (x5.toInt32)) 10 0 (u 3 0))).bind fun q5 => (
  (f_X7_u2 q5).bind fun q6 => (
  (f_X7_skip (8 * (q6.1.toInt64)) (up (up q6.2 14 0 q6.1) 13 0 (q6.2 3 0))).bind fun q7 => (
  (f_X7_attributes q7).bind fun q8 => (
  if (q8 7 0) = 0 then (
    if (q8 3 0) = x2 then (
      f_X7_readCode_j156 q8)
    else (
      (f_X7_fail 20 x3 q8).bind fun q18 => (
      f_X7_readCode_j156 q18.2)))
  else (
    f_X7_readCode_j156 q8)))))
def f_X7_readCode_j70 (x2 : Int32) (x3 : Int32) (x4 : Int32) (x5 : Int64) (u : St) : Option (St) :=
  (f_X7_fail 22 x4 u).bind fun q20 => (
  f_X7_readCode_j79 x2 x3 x5 q20.2)
def f_X7_readCode (p0 : Int32) (p1 : Int32) (p2 : Int32) (u : St) : Option (St) :=
  (f_X7_u2 (up (up (up (up u 4 0 p1) 5 0 20) 6 0 p2) 3 0 p0)).bind fun q1 => (
  (f_X7_u2 q1.2).bind fun q2 => (
  (f_X7_u 4 (up q2.2 12 0 q2.1)).bind fun q3 => (
  if (q3.2 7 0) = 0 then (
    if (lg_cmp q3.1 1) < 0 then (
      f_X7_readCode_j70 p1 p2 (q2.2 3 0) q3.1 q3.2)
    else (
      if (lg_cmp q3.1 64) ≤ 0 then (
        f_X7_readCode_j79 p1 p2 q3.1 q3.2)
      else (
        f_X7_readCode_j70 p1 p2 (q2.2 3 0) q3.1 q3.2)))
  else (
    f_X7_readCode_j79 p1 p2 q3.1 q3.2))))
def f_X7_spells_a14_b15 (x1 : Int32) (u : St) (a : Int32) : Option (((Int32) ⊕ (Unit)) ⊕ (Int32)) :=
  if 4 ≤ a then (
    some (.inl (.inr ())))
  else (
    (f_X7_letter x1 a u).bind fun q4 => (
    chk 4 a (
    if q4 = ((u 43) (Int32.toNatClampNeg a)) then (
      some (.inr (a + 1)))
    else (
      some (.inl (.inl 0))))))
def f_X7_spells_a14 (p0 : Int32) (u : St) : Option (Int32) :=
  chk 420 p0 (
  if ((u 36) (Int32.toNatClampNeg p0)) = 4 then (
    (loopF (f_X7_spells_a14_b15 p0 u) FU 0).bind fun q70 => Sum.elim (fun q7 => some q7) (fun q7 =>
      some 1) q70)
  else (
    some 0))
def f_X7_methodAttributes_j144_9 (x1 : Int32) (x2 : Int32) (x3 : Int32) (u : St) : Option (((Int32 × St) ⊕ (Int32 × St)) ⊕ (Int32 × Int32 × St)) :=
  some (.inr (x1, (x3 + 1), u))
def f_X7_methodAttributes_j127_9 (x1 : Int32) (x2 : Int32) (x3 : Int32) (u : St) : Option (((Int32 × St) ⊕ (Int32 × St)) ⊕ (Int32 × Int32 × St)) :=
  if (u 7 0) = 0 then (
    chk 7 5 (
    chk 7 5 (
    f_X7_methodAttributes_j144_9 x1 x2 x3 (up u 32 (Int32.toNatClampNeg 5) (((u 32) (Int32.toNatClampNeg 5)) + 1)))))
  else (
    f_X7_methodAttributes_j144_9 x1 x2 x3 u)
def f_X7_methodAttributes_j120_9 (x1 : Int32) (x2 : Int32) (x3 : Int32) (x6 : Int32) (u : St) : Option (((Int32 × St) ⊕ (Int32 × St)) ⊕ (Int32 × Int32 × St)) :=
  if x6 = 0 then (
    f_X7_methodAttributes_j127_9 x1 x2 x3 u)
  else (
    f_X7_methodAttributes_j127_9 1 x2 x3 u)
def f_X7_methodAttributes_j78_9 (x1 : Int32) (x2 : Int32) (x3 : Int32) (x4 : Int32) (x6 : Int32) (u : St) : Option (((Int32 × St) ⊕ (Int32 × St)) ⊕ (Int32 × Int32 × St)) :=
  (f_X7_lengthAt u).bind fun q7 => (
  (f_X7_skip q7.1 q7.2).bind fun q8 => (
  if (q8 7 0) = 0 then (
    if x6 = 0 then (
      f_X7_methodAttributes_j120_9 x1 x2 x3 x6 q8)
    else (
      (f_X7_readCode (q7.2 3 0) (q8 3 0) x4 q8).bind fun q15 => (
      f_X7_methodAttributes_j120_9 x1 x2 x3 x6 q15)))
  else (
    f_X7_methodAttributes_j120_9 x1 x2 x3 x6 q8)))
def f_X7_methodAttributes_j58_9 (x1 : Int32) (x2 : Int32) (x3 : Int32) (x4 : Int32) (z0 : Int32) (u : St) : Option (((Int32 × St) ⊕ (Int32 × St)) ⊕ (Int32 × Int32 × St)) :=
  if z0 = 0 then (
    f_X7_methodAttributes_j78_9 x1 x2 x3 x4 z0 u)
  else (
    if x1 = 0 then (
      f_X7_methodAttributes_j78_9 x1 x2 x3 x4 z0 u)
    else (
      (f_X7_fail 19 x4 u).bind fun q17 => (
      f_X7_methodAttributes_j78_9 x1 x2 x3 x4 z0 q17.2)))
def f_X7_methodAttributes_j57_9 (x1 : Int32) (x2 : Int32) (x3 : Int32) (x4 : Int32) (u : St) : Option (((Int32 × St) ⊕ (Int32 × St)) ⊕ (Int32 × Int32 × St)) :=
  f_X7_methodAttributes_j58_9 x1 x2 x3 x4 0 u
def f_X7_methodAttributes_b9 (x2 : Int32) (a : Int32 × Int32 × St) : Option (((Int32 × St) ⊕ (Int32 × St)) ⊕ (Int32 × Int32 × St)) :=
  if x2 ≤ a.2.1 then (
    some (.inl (.inr (a.1, a.2.2))))
  else (
    if (a.2.2 7 0) = 0 then (
      (f_X7_textAt a.2.2).bind fun q4 => (
      if (q4.2 7 0) = 0 then (
        (f_X7_spells_a14 q4.1 q4.2).bind fun q18 => (
        if q18 = 0 then (
          f_X7_methodAttributes_j57_9 a.1 x2 a.2.1 (a.2.2 3 0) q4.2)
        else (
          f_X7_methodAttributes_j58_9 a.1 x2 a.2.1 (a.2.2 3 0) 1 q4.2)))
      else (
        f_X7_methodAttributes_j57_9 a.1 x2 a.2.1 (a.2.2 3 0) q4.2)))
    else (
      some (.inl (.inr (a.1, a.2.2)))))
def f_X7_methodAttributes_j150 (x1 : Int32) (u : St) : Option (Int32 × St) :=
  bchk x1 (
  some (x1, u))
def f_X7_methodAttributes (u : St) : Option (Int32 × St) :=
  (f_X7_u2 u).bind fun q1 => (
  (loopF (f_X7_methodAttributes_b9 q1.1) FU (0, 0, q1.2)).bind fun q200 => Sum.elim (fun q20 => some q20) (fun q20 =>
    f_X7_methodAttributes_j150 q20.1 q20.2) q200)
def f_X7_methods_j120_7 (x1 : Int32) (x2 : Int32) (u : St) : Option (((St) ⊕ (St)) ⊕ (Int32 × St)) :=
  some (.inr ((x2 + 1), u))
def f_X7_methods_j103_7 (x1 : Int32) (x2 : Int32) (u : St) : Option (((St) ⊕ (St)) ⊕ (Int32 × St)) :=
  if (u 7 0) = 0 then (
    chk 7 2 (
    chk 7 2 (
    f_X7_methods_j120_7 x1 x2 (up u 32 (Int32.toNatClampNeg 2) (((u 32) (Int32.toNatClampNeg 2)) + 1)))))
  else (
    f_X7_methods_j120_7 x1 x2 u)
def f_X7_methods_j92_7 (x1 : Int32) (x2 : Int32) (x3 : Int32) (z0 : Int32) (z1 : Int32) (u : St) : Option (((St) ⊕ (St)) ⊕ (Int32 × St)) :=
  if z0 = z1 then (
    (f_X7_fail 21 x3 u).bind fun q14 => (
    f_X7_methods_j103_7 x1 x2 q14.2))
  else (
    f_X7_methods_j103_7 x1 x2 u)
def f_X7_methods_j45_7 (x1 : Int32) (x2 : Int32) (x3 : Int32) (z0 : Int32) (u : St) : Option (((St) ⊕ (St)) ⊕ (Int32 × St)) :=
  if (u 7 0) = 0 then (
    chk 400 x3 (
    chk 400 (x3 + 1) (
    if (((256 * ((u 30) (Int32.toNatClampNeg x3))) + ((u 30) (Int32.toNatClampNeg (x3 + 1)))) &&& 1280) = 0 then (
      f_X7_methods_j92_7 x1 x2 x3 z0 0 u)
    else (
      f_X7_methods_j92_7 x1 x2 x3 z0 1 u))))
  else (
    some (.inl (.inl u)))
def f_X7_methods_j44_7 (x1 : Int32) (x2 : Int32) (x3 : Int32) (u : St) : Option (((St) ⊕ (St)) ⊕ (Int32 × St)) :=
  f_X7_methods_j45_7 x1 x2 x3 0 u
def f_X7_methods_b7 (x1 : Int32) (a : Int32 × St) : Option (((St) ⊕ (St)) ⊕ (Int32 × St)) :=
  if x1 ≤ a.1 then (
    some (.inl (.inr a.2)))
  else (
    if (a.2 7 0) = 0 then (
      (f_X7_member a.1 1 a.2).bind fun q4 => (
      if (q4.2 7 0) = 0 then (
        (f_X7_methodAttributes q4.2).bind fun q15 => (
        if q15.1 = 0 then (
          f_X7_methods_j44_7 x1 a.1 q4.1 q15.2)
        else (
          f_X7_methods_j45_7 x1 a.1 q4.1 1 q15.2)))
      else (
        f_X7_methods_j44_7 x1 a.1 q4.1 q4.2)))
    else (
      some (.inl (.inr a.2))))
def f_X7_methods_j126 (u : St) : Option (St) :=
  some u
def f_X7_methods (u : St) : Option (St) :=
  (f_X7_u2 u).bind fun q1 => (
  (loopF (f_X7_methods_b7 q1.1) FU (0, q1.2)).bind fun q170 => Sum.elim (fun q17 => some q17) (fun q17 =>
    f_X7_methods_j126 q17) q170)
def f_X7_run_b43 (a : Int32 × St) : Option (((Int32 × St) ⊕ (St)) ⊕ (Int32 × St)) :=
  if 7 ≤ a.1 then (
    some (.inl (.inr a.2)))
  else (
    chk 7 a.1 (
    some (.inr ((a.1 + 1), (up a.2 32 (Int32.toNatClampNeg a.1) 0)))))
def f_X7_run_j161 (u : St) : Option (Int32 × St) :=
  some ((u 7 0), u)
def f_X7_run_j132 (u : St) : Option (Int32 × St) :=
  if (u 7 0) = 0 then (
    if (u 0 0) ≤ (u 3 0) then (
      f_X7_run_j161 u)
    else (
      (f_X7_fail 28 (u 3 0) u).bind fun q13 => (
      f_X7_run_j161 q13.2)))
  else (
    f_X7_run_j161 u)
def f_X7_run_j121 (u : St) : Option (Int32 × St) :=
  if (u 7 0) = 0 then (
    (f_X7_attributes u).bind fun q14 => (
    f_X7_run_j132 q14))
  else (
    f_X7_run_j132 u)
def f_X7_run_j110 (u : St) : Option (Int32 × St) :=
  if (u 7 0) = 0 then (
    (f_X7_methods u).bind fun q15 => (
    f_X7_run_j121 q15))
  else (
    f_X7_run_j121 u)
def f_X7_run_j99 (u : St) : Option (Int32 × St) :=
  if (u 7 0) = 0 then (
    (f_X7_fields u).bind fun q16 => (
    f_X7_run_j110 q16))
  else (
    f_X7_run_j110 u)
def f_X7_run_j88 (u : St) : Option (Int32 × St) :=
  if (u 7 0) = 0 then (
    (f_X7_top u).bind fun q17 => (
    f_X7_run_j99 q17))
  else (
    f_X7_run_j99 u)
def f_X7_run_j77 (u : St) : Option (Int32 × St) :=
  if (u 7 0) = 0 then (
    (f_X7_checkPool u).bind fun q18 => (
    f_X7_run_j88 q18))
  else (
    f_X7_run_j88 u)
def f_X7_run (u : St) : Option (Int32 × St) :=
  (loopF (f_X7_run_b43) FU (0, (up (up (up (up (up (up (up u 2 0 1) 7 0 0) 3 0 0) 4 0 (u 0 0)) 5 0 1) 6 0 (u 0 0)) 9 0 0))).bind fun q30 => Sum.elim (fun q3 => some q3) (fun q3 =>
    (f_X7_header q3).bind fun q4 => (
    if (q4 7 0) = 0 then (
      (f_X7_readPool q4).bind fun q19 => (
      f_X7_run_j77 q19))
    else (
      f_X7_run_j77 q4))) q30
def f_X7_judge (u : St) : Option (Int32 × St) :=
  (f_X7_run u).bind fun q1 => (
  chk 29 q1.1 (
  chk 29 q1.1 (
  some (q1.1, (up (up q1.2 1 0 ((q1.2 1 0) + 1)) 31 (Int32.toNatClampNeg q1.1) (((q1.2 31) (Int32.toNatClampNeg q1.1)) + 1))))))
def f_X7_place_j22 (z0 : Int32) (u : St) : Option (Int32) :=
  some z0
def f_X7_place_j14 (u : St) : Option (Int32) :=
  f_X7_place_j22 (-1) u
def f_X7_place (u : St) : Option (Int32) :=
  if (u 2 0) = 0 then (
    f_X7_place_j14 u)
  else (
    if (u 7 0) = 0 then (
      f_X7_place_j14 u)
    else (
      f_X7_place_j22 (u 8 0) u))
def f_X7_without_b3 (x1 : Int32) (x2 : Int32) (x3 : Int32) (a : Int32 × St) : Option (((Int32 × St) ⊕ (St)) ⊕ (Int32 × St)) :=
  if x2 ≤ a.1 then (
    some (.inl (.inr a.2)))
  else (
    chk 400 (x1 + a.1) (
    chk 32 a.1 (
    some (.inr ((a.1 + 1), (up a.2 45 (Int32.toNatClampNeg a.1) ((a.2 30) (Int32.toNatClampNeg (x1 + a.1)))))))))
def f_X7_without_b55 (x1 : Int32) (x2 : Int32) (a : Int32 × St) : Option (((Int32 × St) ⊕ (St)) ⊕ (Int32 × St)) :=
  if a.1 < x1 then (
    some (.inl (.inr a.2)))
  else (
    chk 400 a.1 (
    chk 400 (a.1 + x2) (
    some (.inr ((a.1 + (-1)), (up a.2 30 (Int32.toNatClampNeg (a.1 + x2)) ((a.2 30) (Int32.toNatClampNeg a.1))))))))
def f_X7_without_b86 (x1 : Int32) (x2 : Int32) (a : Int32 × St) : Option (((Int32 × St) ⊕ (St)) ⊕ (Int32 × St)) :=
  if x2 ≤ a.1 then (
    some (.inl (.inr a.2)))
  else (
    chk 32 a.1 (
    chk 400 (x1 + a.1) (
    some (.inr ((a.1 + 1), (up a.2 30 (Int32.toNatClampNeg (x1 + a.1)) ((a.2 45) (Int32.toNatClampNeg a.1))))))))
def f_X7_without (p0 : Int32) (p1 : Int32) (p2 : Int32) (u : St) : Option (Int32 × St) :=
  (loopF (f_X7_without_b3 p0 p1 p2) FU (0, u)).bind fun q40 => Sum.elim (fun q4 => some q4) (fun q4 =>
    (f_X7_take p0 p1 q4).bind fun q5 => (
    (f_X7_run q5).bind fun q6 => (
    if q6.1 = p2 then (
      some (1, q6.2))
    else (
      (loopF (f_X7_without_b55 p0 p1) FU (((q6.2 0 0) - 1), q6.2)).bind fun q110 => Sum.elim (fun q11 => some q11) (fun q11 =>
        (loopF (f_X7_without_b86 p0 p1) FU (0, q11)).bind fun q150 => Sum.elim (fun q15 => some q15) (fun q15 =>
          some (0, (up q15 0 0 ((q15 0 0) + p1)))) q150) q110)))) q40
def f_X7_shrink_j56_31 (x1 : Int32) (x2 : Int32) (x3 : Int32) (x4 : Int32) (u : St) : Option (((Int32 × St) ⊕ (St)) ⊕ (Int32 × St)) :=
  some (.inr ((x4 + (-1)), u))
def f_X7_shrink_b31 (x1 : Int32) (x2 : Int32) (x3 : Int32) (a : Int32 × St) : Option (((Int32 × St) ⊕ (St)) ⊕ (Int32 × St)) :=
  if a.1 < 0 then (
    some (.inl (.inr a.2)))
  else (
    if (a.2 0 0) < (a.1 + x3) then (
      f_X7_shrink_j56_31 x1 x2 x3 a.1 a.2)
    else (
      (f_X7_without a.1 x3 x2 a.2).bind fun q6 => (
      f_X7_shrink_j56_31 x1 x2 x3 a.1 q6.2)))
def f_X7_shrink_b19 (x1 : Int32) (x2 : Int32) (a : Int32 × St) : Option (((Int32 × St) ⊕ (St)) ⊕ (Int32 × St)) :=
  if a.1 ≤ 0 then (
    some (.inl (.inr a.2)))
  else (
    (loopF (f_X7_shrink_b31 x1 x2 a.1) FU (((a.2 0 0) - a.1), a.2)).bind fun q70 => Sum.elim (fun q7 => some (.inl (.inl q7))) (fun q7 =>
      some (.inr ((a.1 / 2), q7))) q70)
def f_X7_shrink (u : St) : Option (Int32 × St) :=
  (f_X7_run u).bind fun q1 => (
  if q1.1 = 0 then (
    some (0, q1.2))
  else (
    (loopF (f_X7_shrink_b19 (u 0 0) q1.1) FU (32, q1.2)).bind fun q80 => Sum.elim (fun q8 => some q8) (fun q8 =>
      (f_X7_run q8).bind fun q9 => (
      some (((u 0 0) - (q9.2 0 0)), q9.2))) q80))
def f_X7_at_j22 (z0 : Int32) (u : St) : Option (Int32) :=
  some z0
def f_X7_at_j12 (u : St) : Option (Int32) :=
  f_X7_at_j22 (-1) u
def f_X7_at (p0 : Int32) (u : St) : Option (Int32) :=
  if p0 < 0 then (
    f_X7_at_j12 u)
  else (
    if p0 < (u 0 0) then (
      chk 400 p0 (
      f_X7_at_j22 ((u 30) (Int32.toNatClampNeg p0)) u))
    else (
      f_X7_at_j12 u))
def f_X7_read_j20 (z0 : Int32) (u : St) : Option (Int32) :=
  some z0
def f_X7_read_j10 (u : St) : Option (Int32) :=
  f_X7_read_j20 (-1) u
def f_X7_read (p0 : Int32) (u : St) : Option (Int32) :=
  if p0 < 0 then (
    f_X7_read_j10 u)
  else (
    if p0 ≤ 6 then (
      chk 7 p0 (
      f_X7_read_j20 ((u 32) (Int32.toNatClampNeg p0)) u))
    else (
      f_X7_read_j10 u))
def f_X7_found_j20 (z0 : Int32) (u : St) : Option (Int32) :=
  some z0
def f_X7_found_j10 (u : St) : Option (Int32) :=
  f_X7_found_j20 (-1) u
def f_X7_found (p0 : Int32) (u : St) : Option (Int32) :=
  if p0 < 0 then (
    f_X7_found_j10 u)
  else (
    if p0 ≤ 28 then (
      chk 29 p0 (
      f_X7_found_j20 ((u 31) (Int32.toNatClampNeg p0)) u))
    else (
      f_X7_found_j10 u))
def f_X7_count_j48_30 (x2 : Int32) (x3 : Int32) (u : St) : Option (((Int32) ⊕ (Int32)) ⊕ (Int32 × Int32)) :=
  some (.inr (x2, (x3 + 1)))
def f_X7_count_b30 (u : St) (a : Int32 × Int32) : Option (((Int32) ⊕ (Int32)) ⊕ (Int32 × Int32)) :=
  if 29 ≤ a.2 then (
    some (.inl (.inr a.1)))
  else (
    chk 29 a.2 (
    if ((u 31) (Int32.toNatClampNeg a.2)) ≤ 0 then (
      f_X7_count_j48_30 a.1 a.2 u)
    else (
      f_X7_count_j48_30 (a.1 + 1) a.2 u)))
def f_X7_count (p0 : Int32) (u : St) : Option (Int32) :=
  if p0 = 0 then (
    some (u 0 0))
  else (
    if p0 = 2 then (
      some (u 1 0))
    else (
      if p0 = 1 then (
        (loopF (f_X7_count_b30 u) FU (0, 1)).bind fun q70 => Sum.elim (fun q7 => some q7) (fun q7 =>
          some q7) q70)
      else (
        some (-1))))
