/-! the reference as pure functions: ghosts, no bytecode of it is in this claim -/
def f_X4_isIn (p0 : Int32) (p1 : Int32) (p2 : Int32) : Option Int32 :=
  if p0 < p1 then
    some (0 : Int32)
  else
    if p2 < p0 then
      some (0 : Int32)
    else
      some (1 : Int32)
def f_X4_greatestTop (v_w : (Nat → Int32)) (v_rows : Int32) : Option Int32 :=
  if (v_w 1) ≤ v_rows then
    some ((100 : Int32) * (v_rows - (v_w 1)))
  else
    some (0 : Int32)
def f_X4_limited (p1 : Int32) (v_w : (Nat → Int32)) (v_rows : Int32) : Option Int32 :=
  if (0 : Int32) ≤ p1 then
    (f_X4_greatestTop v_w v_rows).bind fun q10 =>
    if p1 ≤ q10 then
      some p1
    else
      (f_X4_greatestTop v_w v_rows).bind fun q17 =>
      some q17
  else
    some (0 : Int32)
def f_X4_isWord (p1 : Int32) (v_w : (Nat → Int32)) : Option Int32 :=
  (f_X4_isIn p1 (0 : Int32) ((v_w 9) - (1 : Int32))).bind fun q11 =>
  if q11 &&& 1 = q11 then some q11 else none
def f_X4_isLetter (p0 : Int32) : Option Int32 :=
  (f_X4_isIn p0 (97 : Int32) (122 : Int32)).bind fun q5 =>
  if q5 &&& 1 = q5 then some q5 else none
def f_X4_scoreOf_2 (v_w : (Nat → Int32)) (x1 : Int32) : Nat → Int32 → Option Int32
  | 0, _ => none
  | n + 1, x2 =>
    if (3 : Int32) < x2 then
      some x2
    else
      if (v_w 20) < x2 then
        some x2
      else
        if (x1 - x2) < (0 : Int32) then
          some x2
        else
          if (((150 : Int32) + x1) - x2) < 0 ∨ 510 ≤ ((((150 : Int32) + x1) - x2)).toNatClampNeg then none else
          if (((21 : Int32) + x2) - (1 : Int32)) < 0 ∨ 510 ≤ ((((21 : Int32) + x2) - (1 : Int32))).toNatClampNeg then none else
          if (v_w (((((150 : Int32) + x1) - x2)).toNatClampNeg)) = (v_w (((((21 : Int32) + x2) - (1 : Int32))).toNatClampNeg)) then
            f_X4_scoreOf_2 v_w x1 n (x2 + 1)
          else
            some x2
def f_X4_scoreOf (p1 : Int32) (v_w : (Nat → Int32)) : Option Int32 :=
  f_X4_scoreOf_2 v_w p1 gas (1 : Int32)
def f_X4_far (p1 : Int32) (v_w : (Nat → Int32)) : Option Int32 :=
  if p1 ≤ (v_w 11) then
    some ((v_w 11) - p1)
  else
    some (p1 - (v_w 11))
def f_X4_bestOf_108 (k5 : Int32 → Int32 → Option Int32) (x2 : Int32) (x3 : Int32) (s0 : Int32) : Option Int32 :=
  if s0 = (0 : Int32) then
      k5 x2 (x3 + 1)
    else
      k5 x3 (x3 + 1)
def f_X4_bestOf_103 (k5 : Int32 → Int32 → Option Int32) (x2 : Int32) (x3 : Int32) : Option Int32 :=
  f_X4_bestOf_108 k5 x2 x3 (1 : Int32)
def f_X4_bestOf_107 (k5 : Int32 → Int32 → Option Int32) (x2 : Int32) (x3 : Int32) : Option Int32 :=
  f_X4_bestOf_108 k5 x2 x3 (0 : Int32)
def f_X4_bestOf_5 (v_w : (Nat → Int32)) (x1 : Int32) : Nat → Int32 → Int32 → Option Int32
  | 0, _, _ => none
  | n + 1, x2, x3 =>
    if (v_w 9) ≤ x3 then
      some x2
    else
      if ((150 : Int32) + x3) < 0 ∨ 510 ≤ (((150 : Int32) + x3)).toNatClampNeg then none else
      if (v_w ((((150 : Int32) + x3)).toNatClampNeg)) = x1 then
        (f_X4_isIn (x3 - (v_w 11)) (-(v_w 3)) (v_w 4)).bind fun q52 =>
        if q52 = (0 : Int32) then
          f_X4_bestOf_5 v_w x1 n x2 (x3 + 1)
        else
          if x2 = (-9 : Int32) then
            f_X4_bestOf_103 (f_X4_bestOf_5 v_w x1 n) x2 x3
          else
            (f_X4_scoreOf x3 v_w).bind fun q66 =>
            (f_X4_scoreOf x2 v_w).bind fun q71 =>
            if q71 < q66 then
              f_X4_bestOf_103 (f_X4_bestOf_5 v_w x1 n) x2 x3
            else
              (f_X4_scoreOf x3 v_w).bind fun q79 =>
              (f_X4_scoreOf x2 v_w).bind fun q84 =>
              if q79 = q84 then
                (f_X4_far x3 v_w).bind fun q92 =>
                (f_X4_far x2 v_w).bind fun q97 =>
                if q97 ≤ q92 then
                  f_X4_bestOf_107 (f_X4_bestOf_5 v_w x1 n) x2 x3
                else
                  f_X4_bestOf_103 (f_X4_bestOf_5 v_w x1 n) x2 x3
              else
                f_X4_bestOf_107 (f_X4_bestOf_5 v_w x1 n) x2 x3
      else
        f_X4_bestOf_5 v_w x1 n x2 (x3 + 1)
def f_X4_bestOf (p1 : Int32) (v_w : (Nat → Int32)) : Option Int32 :=
  f_X4_bestOf_5 v_w p1 gas (-9 : Int32) (0 : Int32)
def f_X4_isAccepted (p1 : Int32) (v_w : (Nat → Int32)) : Option Int32 :=
  if p1 = (v_w 11) then
    some (1 : Int32)
  else
    (f_X4_scoreOf p1 v_w).bind fun q13 =>
    if q13 < (v_w 5) then
      some (0 : Int32)
    else
      some (1 : Int32)
def f_X4_nextCue_2 (v_w : (Nat → Int32)) : Nat → Int32 → Option Int32
  | 0, _ => none
  | n + 1, x1 =>
    if (v_w 9) ≤ x1 then
      some (-9 : Int32)
    else
      if ((270 : Int32) + x1) < 0 ∨ 510 ≤ (((270 : Int32) + x1)).toNatClampNeg then none else
      if (v_w ((((270 : Int32) + x1)).toNatClampNeg)) = (1 : Int32) then
        some x1
      else
        f_X4_nextCue_2 v_w n (x1 + 1)
def f_X4_nextCue (v_w : (Nat → Int32)) : Option Int32 :=
  f_X4_nextCue_2 v_w gas (0 : Int32)
def f_X4_estimated_67 (v_w : (Nat → Int32)) (s0 : Int32) : Option Int32 :=
  if ((v_w 9) - (1 : Int32)) ≤ s0 then
      some ((v_w 9) - (1 : Int32))
    else
      some s0
def f_X4_estimated_66 (v_w : (Nat → Int32)) (x1 : Int32) : Option Int32 :=
  f_X4_estimated_67 v_w x1
def f_X4_estimated (v_w : (Nat → Int32)) : Option Int32 :=
  (f_X4_nextCue v_w).bind fun q47 =>
  if q47 = (-9 : Int32) then
    f_X4_estimated_66 v_w ((((100 : Int32) * (v_w 11)) + ((v_w 12) * (((v_w 10) - (v_w 13)) + (v_w 8)))) / (100 : Int32))
  else
    if ((((100 : Int32) * (v_w 11)) + ((v_w 12) * (((v_w 10) - (v_w 13)) + (v_w 8)))) / (100 : Int32)) ≤ q47 then
      f_X4_estimated_66 v_w ((((100 : Int32) * (v_w 11)) + ((v_w 12) * (((v_w 10) - (v_w 13)) + (v_w 8)))) / (100 : Int32))
    else
      f_X4_estimated_67 v_w q47
def f_X4_desired_34 (v_w : (Nat → Int32)) (v_rowOf : (Nat → Int32)) (v_rows : Int32) (s0 : Int32) : Option Int32 :=
  (f_X4_estimated v_w).bind fun q43 =>
    if q43 < 0 ∨ 120 ≤ q43.toNatClampNeg then none else
    (f_X4_limited ((100 : Int32) * ((v_rowOf q43.toNatClampNeg) - s0)) v_w v_rows).bind fun q50 =>
    some q50
def f_X4_desired (v_w : (Nat → Int32)) (v_rowOf : (Nat → Int32)) (v_rows : Int32) : Option Int32 :=
  if ((v_w 1) - (1 : Int32)) ≤ (v_w 2) then
    f_X4_desired_34 v_w v_rowOf v_rows ((v_w 1) - (1 : Int32))
  else
    f_X4_desired_34 v_w v_rowOf v_rows (v_w 2)
def f_X4_isShown (p1 : Int32) (v_w : (Nat → Int32)) : Option Int32 :=
  if ((100 : Int32) * p1) < (v_w 14) then
    some (0 : Int32)
  else
    if ((v_w 14) + ((100 : Int32) * ((v_w 1) - (1 : Int32)))) < ((100 : Int32) * p1) then
      some (0 : Int32)
    else
      some (1 : Int32)
def f_X4_hasWord (v_readWords : Int32) (v_readPassages : Int32) (v_readPassage : (Nat → Int32)) : Option Int32 :=
  if v_readWords ≤ (0 : Int32) then
    some (0 : Int32)
  else
    if (v_readWords - (1 : Int32)) < 0 ∨ 120 ≤ ((v_readWords - (1 : Int32))).toNatClampNeg then none else
    if (v_readPassage (((v_readWords - (1 : Int32))).toNatClampNeg)) = v_readPassages then
      some (1 : Int32)
    else
      some (0 : Int32)
def f_X4_fault (p1 : Int32) (v_faultKind : Int32) (v_faultPlace : Int32) : Option Int32 :=
  if p1 = (0 : Int32) then
    some v_faultKind
  else
    if p1 = (1 : Int32) then
      some v_faultPlace
    else
      some (-1 : Int32)
def f_X4_isOf (p0 : Int32) (p1 : Int32) : Option Int32 :=
  if p0 = (0 : Int32) then
    (f_X4_isIn p1 (1 : Int32) (12 : Int32)).bind fun q52 =>
    if q52 &&& 1 = q52 then some q52 else none
  else if p0 = (1 : Int32) then
    (f_X4_isIn p1 (1 : Int32) (8 : Int32)).bind fun q60 =>
    if q60 &&& 1 = q60 then some q60 else none
  else if p0 = (2 : Int32) then
    (f_X4_isIn p1 (0 : Int32) (7 : Int32)).bind fun q68 =>
    if q68 &&& 1 = q68 then some q68 else none
  else if p0 = (3 : Int32) then
    (f_X4_isIn p1 (0 : Int32) (30 : Int32)).bind fun q76 =>
    if q76 &&& 1 = q76 then some q76 else none
  else if p0 = (4 : Int32) then
    (f_X4_isIn p1 (1 : Int32) (60 : Int32)).bind fun q84 =>
    if q84 &&& 1 = q84 then some q84 else none
  else if p0 = (5 : Int32) then
    (f_X4_isIn p1 (1 : Int32) (4 : Int32)).bind fun q91 =>
    if q91 &&& 1 = q91 then some q91 else none
  else if p0 = (6 : Int32) then
    (f_X4_isIn p1 (1 : Int32) (60 : Int32)).bind fun q84 =>
    if q84 &&& 1 = q84 then some q84 else none
  else if p0 = (7 : Int32) then
    (f_X4_isIn p1 (1 : Int32) (100 : Int32)).bind fun q99 =>
    if q99 &&& 1 = q99 then some q99 else none
  else if p0 = (8 : Int32) then
      (f_X4_isIn p1 (0 : Int32) (10 : Int32)).bind fun q113 =>
      if q113 = (0 : Int32) then
        some (0 : Int32)
      else
        some (1 : Int32)
    else
      some (0 : Int32)
def f_X4_cues_4 (v_w : (Nat → Int32)) : Nat → Int32 → Int32 → Option Int32
  | 0, _, _ => none
  | n + 1, x1, x2 =>
    if (v_w 9) ≤ x2 then
      some x1
    else
      if ((270 : Int32) + x2) < 0 ∨ 510 ≤ (((270 : Int32) + x2)).toNatClampNeg then none else
      if (v_w ((((270 : Int32) + x2)).toNatClampNeg)) = (0 : Int32) then
        f_X4_cues_4 v_w n (x1 + (0 : Int32)) (x2 + 1)
      else
        f_X4_cues_4 v_w n (x1 + (1 : Int32)) (x2 + 1)
def f_X4_cues (v_w : (Nat → Int32)) : Option Int32 :=
  f_X4_cues_4 v_w gas (0 : Int32) (0 : Int32)
def f_X4_told (p1 : Int32) (v_w : (Nat → Int32)) (v_pastMany : Int32) (v_rowOf : (Nat → Int32)) (v_rows : Int32) : Option Int32 :=
  if p1 = (0 : Int32) then
    some (v_w 9)
  else if p1 = (1 : Int32) then
    some v_rows
  else if p1 = (2 : Int32) then
    if (((390 : Int32) + (v_w 9)) - (1 : Int32)) < 0 ∨ 510 ≤ ((((390 : Int32) + (v_w 9)) - (1 : Int32))).toNatClampNeg then none else
    some ((v_w (((((390 : Int32) + (v_w 9)) - (1 : Int32))).toNatClampNeg)) + (1 : Int32))
  else if p1 = (3 : Int32) then
    (f_X4_cues v_w).bind fun q127 =>
    some q127
  else if p1 = (4 : Int32) then
    some (v_w 10)
  else if p1 = (5 : Int32) then
    some (v_w 11)
  else if p1 = (6 : Int32) then
    some (v_w 12)
  else if p1 = (7 : Int32) then
    (f_X4_estimated v_w).bind fun q156 =>
    some q156
  else if p1 = (8 : Int32) then
    some (v_w 14)
  else if p1 = (9 : Int32) then
    (f_X4_desired v_w v_rowOf v_rows).bind fun q169 =>
    some q169
  else if p1 = (10 : Int32) then
    if (((15 : Int32) + p1) - (10 : Int32)) < 0 ∨ 510 ≤ ((((15 : Int32) + p1) - (10 : Int32))).toNatClampNeg then none else
    some (v_w (((((15 : Int32) + p1) - (10 : Int32))).toNatClampNeg))
  else if p1 = (11 : Int32) then
    if (((15 : Int32) + p1) - (10 : Int32)) < 0 ∨ 510 ≤ ((((15 : Int32) + p1) - (10 : Int32))).toNatClampNeg then none else
    some (v_w (((((15 : Int32) + p1) - (10 : Int32))).toNatClampNeg))
  else if p1 = (12 : Int32) then
    if (((15 : Int32) + p1) - (10 : Int32)) < 0 ∨ 510 ≤ ((((15 : Int32) + p1) - (10 : Int32))).toNatClampNeg then none else
    some (v_w (((((15 : Int32) + p1) - (10 : Int32))).toNatClampNeg))
  else if p1 = (13 : Int32) then
    if (((15 : Int32) + p1) - (10 : Int32)) < 0 ∨ 510 ≤ ((((15 : Int32) + p1) - (10 : Int32))).toNatClampNeg then none else
    some (v_w (((((15 : Int32) + p1) - (10 : Int32))).toNatClampNeg))
  else if p1 = (14 : Int32) then
    if (((15 : Int32) + p1) - (10 : Int32)) < 0 ∨ 510 ≤ ((((15 : Int32) + p1) - (10 : Int32))).toNatClampNeg then none else
    some (v_w (((((15 : Int32) + p1) - (10 : Int32))).toNatClampNeg))
  else if p1 = (15 : Int32) then
    some (v_w 25)
  else if p1 = (16 : Int32) then
    (f_X4_nextCue v_w).bind fun q195 =>
    some q195
  else if p1 = (17 : Int32) then
    some (v_w 20)
  else if p1 = (18 : Int32) then
    some v_pastMany
  else some (-1 : Int32)
def f_X4_setting (p1 : Int32) (v_w : (Nat → Int32)) : Option Int32 :=
  (f_X4_isIn p1 (0 : Int32) (8 : Int32)).bind fun q4 =>
  if q4 = (0 : Int32) then
    some (-1 : Int32)
  else
    if p1 < 0 ∨ 510 ≤ p1.toNatClampNeg then none else
    some (v_w p1.toNatClampNeg)
def f_X4_word (p1 : Int32) (p2 : Int32) (v_w : (Nat → Int32)) (v_rowOf : (Nat → Int32)) : Option Int32 :=
  (f_X4_isWord p1 v_w).bind fun q2 =>
  if q2 = (0 : Int32) then
    some (-1 : Int32)
  else
    if p2 = (0 : Int32) then
      if ((150 : Int32) + p1) < 0 ∨ 510 ≤ (((150 : Int32) + p1)).toNatClampNeg then none else
      some (v_w ((((150 : Int32) + p1)).toNatClampNeg))
    else if p2 = (1 : Int32) then
      if p1 < 0 ∨ 120 ≤ p1.toNatClampNeg then none else
      some (v_rowOf p1.toNatClampNeg)
    else if p2 = (2 : Int32) then
      if ((390 : Int32) + p1) < 0 ∨ 510 ≤ (((390 : Int32) + p1)).toNatClampNeg then none else
      some (v_w ((((390 : Int32) + p1)).toNatClampNeg))
    else if p2 = (3 : Int32) then
      if ((270 : Int32) + p1) < 0 ∨ 510 ≤ (((270 : Int32) + p1)).toNatClampNeg then none else
      some (v_w ((((270 : Int32) + p1)).toNatClampNeg))
    else if p2 = (4 : Int32) then
      if p1 < 0 ∨ 120 ≤ p1.toNatClampNeg then none else
      (f_X4_isShown (v_rowOf p1.toNatClampNeg) v_w).bind fun q91 =>
      if q91 = (0 : Int32) then
        some (0 : Int32)
      else
        some (1 : Int32)
    else some (-1 : Int32)
def f_X4_row_34 (v_w : (Nat → Int32)) (v_rowOf : (Nat → Int32)) (x1 : Int32) (x2 : Int32) : Nat → Int32 → Int32 → Int32 → Option Int32
  | 0, _, _, _ => none
  | n + 1, x3, x4, x5 =>
    if (v_w 9) ≤ x5 then
      if x2 = (0 : Int32) then
        some x3
      else
        some x4
    else
      if x5 < 0 ∨ 120 ≤ x5.toNatClampNeg then none else
      if (v_rowOf x5.toNatClampNeg) = x1 then
        if x3 = (-9 : Int32) then
          f_X4_row_34 v_w v_rowOf x1 x2 n x5 (x4 + 1) (x5 + 1)
        else
          f_X4_row_34 v_w v_rowOf x1 x2 n x3 (x4 + 1) (x5 + 1)
      else
        f_X4_row_34 v_w v_rowOf x1 x2 n x3 x4 (x5 + 1)
def f_X4_row (p1 : Int32) (p2 : Int32) (v_w : (Nat → Int32)) (v_rowOf : (Nat → Int32)) (v_rows : Int32) : Option Int32 :=
  (f_X4_isIn p1 (0 : Int32) (v_rows - (1 : Int32))).bind fun q8 =>
  if q8 = (0 : Int32) then
    some (-1 : Int32)
  else
    (f_X4_isIn p2 (0 : Int32) (1 : Int32)).bind fun q17 =>
    if q17 = (0 : Int32) then
      some (-1 : Int32)
    else
      f_X4_row_34 v_w v_rowOf p1 p2 gas (-9 : Int32) (0 : Int32) (0 : Int32)
def f_X4_heard (p1 : Int32) (v_w : (Nat → Int32)) : Option Int32 :=
  if (0 : Int32) ≤ p1 then
    if (v_w 20) ≤ p1 then
      some (-9 : Int32)
    else
      if ((21 : Int32) + p1) < 0 ∨ 510 ≤ (((21 : Int32) + p1)).toNatClampNeg then none else
      some (v_w ((((21 : Int32) + p1)).toNatClampNeg))
  else
    some (-1 : Int32)
def f_X4_trail (p1 : Int32) (p2 : Int32) (v_w : (Nat → Int32)) : Option Int32 :=
  if p1 < (0 : Int32) then
    some (-1 : Int32)
  else
    (f_X4_isIn p2 (0 : Int32) (1 : Int32)).bind fun q7 =>
    if q7 = (0 : Int32) then
      some (-1 : Int32)
    else
      if (v_w 25) ≤ p1 then
        some (-9 : Int32)
      else
        if (((26 : Int32) + ((2 : Int32) * p1)) + p2) < 0 ∨ 510 ≤ ((((26 : Int32) + ((2 : Int32) * p1)) + p2)).toNatClampNeg then none else
        some (v_w (((((26 : Int32) + ((2 : Int32) * p1)) + p2)).toNatClampNeg))
def f_X4_score (p1 : Int32) (v_w : (Nat → Int32)) : Option Int32 :=
  (f_X4_isWord p1 v_w).bind fun q2 =>
  if q2 = (0 : Int32) then
    some (-1 : Int32)
  else
    (f_X4_scoreOf p1 v_w).bind fun q10 =>
    some q10
def f_X4_best (p1 : Int32) (p2 : Int32) (v_w : (Nat → Int32)) : Option Int32 :=
  (f_X4_isLetter p1).bind fun q1 =>
  if q1 = (0 : Int32) then
    some (-1 : Int32)
  else
    (f_X4_isIn p2 (0 : Int32) (2 : Int32)).bind fun q10 =>
    if q10 = (0 : Int32) then
      some (-1 : Int32)
    else
      (f_X4_bestOf p1 v_w).bind fun q20 =>
      if q20 = (-9 : Int32) then
        some (-9 : Int32)
      else
        if p2 = (0 : Int32) then
          some q20
        else
          if p2 = (1 : Int32) then
            (f_X4_scoreOf q20 v_w).bind fun q48 =>
            some q48
          else
            (f_X4_isAccepted q20 v_w).bind fun q56 =>
            if q56 = (0 : Int32) then
              some (0 : Int32)
            else
              some (1 : Int32)
def f_X4_isElsewhere_83 (k4 : Int32 → Option Int32) (x3 : Int32) (x4 : Int32) : Option Int32 :=
  if x4 = (0 : Int32) then
      k4 (x3 + 1)
    else
      some (1 : Int32)
def f_X4_isElsewhere_30 (k4 : Int32 → Option Int32) (v_w : (Nat → Int32)) (x1 : Int32) (x2 : Int32) (x3 : Int32) : Nat → Int32 → Int32 → Option Int32
  | 0, _, _ => none
  | n + 1, x4, x5 =>
    if x2 ≤ x5 then
      f_X4_isElsewhere_83 k4 x3 x4
    else
      if x4 = (0 : Int32) then
        f_X4_isElsewhere_83 k4 x3 x4
      else
        if (((150 : Int32) + x3) - x5) < 0 ∨ 510 ≤ ((((150 : Int32) + x3) - x5)).toNatClampNeg then none else
        if (((150 : Int32) + x1) - x5) < 0 ∨ 510 ≤ ((((150 : Int32) + x1) - x5)).toNatClampNeg then none else
        if (v_w (((((150 : Int32) + x3) - x5)).toNatClampNeg)) = (v_w (((((150 : Int32) + x1) - x5)).toNatClampNeg)) then
          f_X4_isElsewhere_30 k4 v_w x1 x2 x3 n (1 : Int32) (x5 + 1)
        else
          f_X4_isElsewhere_30 k4 v_w x1 x2 x3 n (0 : Int32) (x5 + 1)
def f_X4_isElsewhere_4 (v_w : (Nat → Int32)) (x1 : Int32) (x2 : Int32) : Nat → Int32 → Option Int32
  | 0, _ => none
  | n + 1, x3 =>
    if (v_w 9) ≤ x3 then
      some (0 : Int32)
    else
      if x3 = x1 then
        f_X4_isElsewhere_30 (f_X4_isElsewhere_4 v_w x1 x2 n) v_w x1 x2 x3 gas (0 : Int32) (0 : Int32)
      else
        f_X4_isElsewhere_30 (f_X4_isElsewhere_4 v_w x1 x2 n) v_w x1 x2 x3 gas (1 : Int32) (0 : Int32)
def f_X4_isElsewhere (p1 : Int32) (p2 : Int32) (v_w : (Nat → Int32)) : Option Int32 :=
  f_X4_isElsewhere_4 v_w p1 p2 gas (p2 - (1 : Int32))
def f_X4_unique_12 (v_w : (Nat → Int32)) (x1 : Int32) : Nat → Int32 → Option Int32
  | 0, _ => none
  | n + 1, x2 =>
    if (4 : Int32) < x2 then
      some (-9 : Int32)
    else
      if (x1 + (1 : Int32)) < x2 then
        some (-9 : Int32)
      else
        (f_X4_isElsewhere x1 x2 v_w).bind fun q27 =>
        if q27 = (0 : Int32) then
          some x2
        else
          f_X4_unique_12 v_w x1 n (x2 + 1)
def f_X4_unique (p1 : Int32) (v_w : (Nat → Int32)) : Option Int32 :=
  (f_X4_isWord p1 v_w).bind fun q2 =>
  if q2 = (0 : Int32) then
    some (-1 : Int32)
  else
    f_X4_unique_12 v_w p1 gas (1 : Int32)
def f_X4_mean (v_w : (Nat → Int32)) (v_rows : Int32) : Option UInt32 :=
  if ¬ ((FP.fdiv (FP.i2f (v_w 9)) (FP.i2f v_rows)) &&& 0x7fffffff ≤ 0x7f800000) then none else
  some (FP.fdiv (FP.i2f (v_w 9)) (FP.i2f v_rows))
def f_X4_isImage (p0 : Int32) : Option Int32 :=
  (f_X4_isIn p0 (0 : Int32) (1 : Int32)).bind fun q3 =>
  if q3 &&& 1 = q3 then some q3 else none
def f_X4_layRows_94 (k9 : Int32 → Int32 → (Nat → Int32) → Int32 → Option ((Nat → Int32) × Int32)) (x2 : Int32) (s0 : Int32) (v_rowOf : (Nat → Int32)) (v_rows : Int32) : Option ((Nat → Int32) × Int32) :=
  if x2 < 0 ∨ 120 ≤ x2.toNatClampNeg then none else
    k9 s0 (x2 + 1) (upd v_rowOf x2.toNatClampNeg (v_rows - (1 : Int32))) v_rows
def f_X4_layRows_79 (k9 : Int32 → Int32 → (Nat → Int32) → Int32 → Option ((Nat → Int32) × Int32)) (x1 : Int32) (x2 : Int32) (x3 : Int32) (s1 : Int32) (s2 : Int32) (v_rowOf : (Nat → Int32)) (v_rows : Int32) : Option ((Nat → Int32) × Int32) :=
  if x3 = (0 : Int32) then
      f_X4_layRows_94 k9 x2 (x1 + (1 : Int32)) v_rowOf (s1 + s2)
    else
      f_X4_layRows_94 k9 x2 (1 : Int32) v_rowOf (s1 + s2)
def f_X4_layRows_64 (k9 : Int32 → Int32 → (Nat → Int32) → Int32 → Option ((Nat → Int32) × Int32)) (x1 : Int32) (x2 : Int32) (s0 : Int32) (v_rowOf : (Nat → Int32)) (v_rows : Int32) : Option ((Nat → Int32) × Int32) :=
  if s0 = (0 : Int32) then
      f_X4_layRows_79 k9 x1 x2 s0 v_rows (0 : Int32) v_rowOf v_rows
    else
      f_X4_layRows_79 k9 x1 x2 s0 v_rows (1 : Int32) v_rowOf v_rows
def f_X4_layRows_59 (k9 : Int32 → Int32 → (Nat → Int32) → Int32 → Option ((Nat → Int32) × Int32)) (x1 : Int32) (x2 : Int32) (v_rowOf : (Nat → Int32)) (v_rows : Int32) : Option ((Nat → Int32) × Int32) :=
  f_X4_layRows_64 k9 x1 x2 (1 : Int32) v_rowOf v_rows
def f_X4_layRows_9 (v_w : (Nat → Int32)) : Nat → Int32 → Int32 → (Nat → Int32) → Int32 → Option ((Nat → Int32) × Int32)
  | 0, _, _, _, _ => none
  | n + 1, x1, x2, v_rowOf, v_rows =>
    if (v_w 9) ≤ x2 then
      some (v_rowOf, v_rows)
    else
      if x2 = (0 : Int32) then
        f_X4_layRows_59 (f_X4_layRows_9 v_w n) x1 x2 v_rowOf v_rows
      else
        if ((390 : Int32) + x2) < 0 ∨ 510 ≤ (((390 : Int32) + x2)).toNatClampNeg then none else
        if (((390 : Int32) + x2) - (1 : Int32)) < 0 ∨ 510 ≤ ((((390 : Int32) + x2) - (1 : Int32))).toNatClampNeg then none else
        if (v_w ((((390 : Int32) + x2)).toNatClampNeg)) = (v_w (((((390 : Int32) + x2) - (1 : Int32))).toNatClampNeg)) then
          if x1 = (v_w 0) then
            f_X4_layRows_59 (f_X4_layRows_9 v_w n) x1 x2 v_rowOf v_rows
          else
            f_X4_layRows_64 (f_X4_layRows_9 v_w n) x1 x2 (0 : Int32) v_rowOf v_rows
        else
          f_X4_layRows_59 (f_X4_layRows_9 v_w n) x1 x2 v_rowOf v_rows
def f_X4_layRows (v_w : (Nat → Int32)) (v_rowOf : (Nat → Int32)) (v_rows : Int32) : Option ((Nat → Int32) × Int32) :=
  f_X4_layRows_9 v_w gas (0 : Int32) (0 : Int32) v_rowOf (0 : Int32)
def f_X4_remember_52 (v_w : (Nat → Int32)) (v_pastMany : Int32) : Nat → Int32 → (Nat → Int32) → Option ((Nat → Int32) × Int32)
  | 0, _, _ => none
  | n + 1, x1, v_past =>
    if (510 : Int32) ≤ x1 then
      some (v_past, (v_pastMany + (1 : Int32)))
    else
      if x1 < 0 ∨ 510 ≤ x1.toNatClampNeg then none else
      if (((510 : Int32) * v_pastMany) + x1) < 0 ∨ 4080 ≤ ((((510 : Int32) * v_pastMany) + x1)).toNatClampNeg then none else
      (some (upd v_past (((((510 : Int32) * v_pastMany) + x1)).toNatClampNeg) (v_w x1.toNatClampNeg))).bind fun a79 =>
      f_X4_remember_52 v_w v_pastMany n (x1 + 1) a79
def f_X4_remember_11 (v_w : (Nat → Int32)) (v_pastMany : Int32) : Nat → Int32 → (Nat → Int32) → Option ((Nat → Int32) × Int32)
  | 0, _, _ => none
  | n + 1, x1, v_past =>
    if (3570 : Int32) ≤ x1 then
      f_X4_remember_52 v_w (v_pastMany - (1 : Int32)) gas (0 : Int32) v_past
    else
      if (x1 + (510 : Int32)) < 0 ∨ 4080 ≤ ((x1 + (510 : Int32))).toNatClampNeg then none else
      if x1 < 0 ∨ 4080 ≤ x1.toNatClampNeg then none else
      (some (upd v_past x1.toNatClampNeg (v_past (((x1 + (510 : Int32))).toNatClampNeg)))).bind fun a33 =>
      f_X4_remember_11 v_w v_pastMany n (x1 + 1) a33
def f_X4_remember (v_w : (Nat → Int32)) (v_past : (Nat → Int32)) (v_pastMany : Int32) : Option ((Nat → Int32) × Int32) :=
  if v_pastMany = (8 : Int32) then
    f_X4_remember_11 v_w v_pastMany gas (0 : Int32) v_past
  else
    f_X4_remember_52 v_w v_pastMany gas (0 : Int32) v_past
def f_X4_keepWord_2 (x1 : Int32) : Nat → Int32 → (Nat → Int32) → Option (Nat → Int32)
  | 0, _, _ => none
  | n + 1, x2, v_w =>
    if x2 ≤ (0 : Int32) then
      (some (upd v_w 21 x1)).bind fun a39 =>
      if (4 : Int32) ≤ (a39 20) then
        (some (upd a39 20 ((a39 20) + (0 : Int32)))).bind fun a65 =>
        some a65
      else
        (some (upd a39 20 ((a39 20) + (1 : Int32)))).bind fun a65 =>
        some a65
    else
      if (((21 : Int32) + x2) - (1 : Int32)) < 0 ∨ 510 ≤ ((((21 : Int32) + x2) - (1 : Int32))).toNatClampNeg then none else
      if ((21 : Int32) + x2) < 0 ∨ 510 ≤ (((21 : Int32) + x2)).toNatClampNeg then none else
      (some (upd v_w ((((21 : Int32) + x2)).toNatClampNeg) (v_w (((((21 : Int32) + x2) - (1 : Int32))).toNatClampNeg)))).bind fun a25 =>
      f_X4_keepWord_2 x1 n (x2 + (-1)) a25
def f_X4_keepWord (p1 : Int32) (v_w : (Nat → Int32)) : Option (Nat → Int32) :=
  f_X4_keepWord_2 p1 gas (3 : Int32) v_w
def f_X4_leaveTrail_144 (k116 : (Nat → Int32) → Option (Nat → Int32)) : Nat → Int32 → (Nat → Int32) → Option (Nat → Int32)
  | 0, _, _ => none
  | n + 1, x2, v_w =>
    if (((26 : Int32) + ((2 : Int32) * (v_w 25))) - (2 : Int32)) ≤ x2 then
      (some (upd v_w 25 ((v_w 25) - (1 : Int32)))).bind fun a192 =>
      k116 a192
    else
      if (x2 + (2 : Int32)) < 0 ∨ 510 ≤ ((x2 + (2 : Int32))).toNatClampNeg then none else
      if x2 < 0 ∨ 510 ≤ x2.toNatClampNeg then none else
      (some (upd v_w x2.toNatClampNeg (v_w (((x2 + (2 : Int32))).toNatClampNeg)))).bind fun a175 =>
      f_X4_leaveTrail_144 k116 n (x2 + 1) a175
def f_X4_leaveTrail_116  : Nat → (Nat → Int32) → Option (Nat → Int32)
  | 0, _ => none
  | n + 1, v_w =>
    if ((v_w 10) - (v_w 6)) ≤ (v_w 26) then
      if (v_w 25) ≤ (1 : Int32) then
        some v_w
      else
        if ((((26 : Int32) + ((2 : Int32) * (v_w 25))) - (2 : Int32)) + (1 : Int32)) < 0 ∨ 510 ≤ (((((26 : Int32) + ((2 : Int32) * (v_w 25))) - (2 : Int32)) + (1 : Int32))).toNatClampNeg then none else
        if (((26 : Int32) + ((2 : Int32) * (v_w 25))) - (2 : Int32)) < 0 ∨ 510 ≤ ((((26 : Int32) + ((2 : Int32) * (v_w 25))) - (2 : Int32))).toNatClampNeg then none else
        if ((v_w (((((26 : Int32) + ((2 : Int32) * (v_w 25))) - (2 : Int32))).toNatClampNeg)) - (v_w 26)) = (0 : Int32) then none else
        (some (upd v_w 12 (((100 : Int32) * ((v_w ((((((26 : Int32) + ((2 : Int32) * (v_w 25))) - (2 : Int32)) + (1 : Int32))).toNatClampNeg)) - (v_w 27))) / ((v_w (((((26 : Int32) + ((2 : Int32) * (v_w 25))) - (2 : Int32))).toNatClampNeg)) - (v_w 26))))).bind fun a262 =>
        some a262
    else
      f_X4_leaveTrail_144 (f_X4_leaveTrail_116 n) gas (26 : Int32) v_w
def f_X4_leaveTrail_62 (s1 : Int32) (s2 : Int32) (s3 : Int32) (v_w : (Nat → Int32)) : Option (Nat → Int32) :=
  if s1 < 0 ∨ 510 ≤ s1.toNatClampNeg then none else
    (some (upd v_w s1.toNatClampNeg (s2 + s3))).bind fun a63 =>
    if (((26 : Int32) + ((2 : Int32) * (a63 25))) - (2 : Int32)) < 0 ∨ 510 ≤ ((((26 : Int32) + ((2 : Int32) * (a63 25))) - (2 : Int32))).toNatClampNeg then none else
    (some (upd a63 (((((26 : Int32) + ((2 : Int32) * (a63 25))) - (2 : Int32))).toNatClampNeg) (a63 10))).bind fun a89 =>
    if (((26 : Int32) + ((2 : Int32) * (a89 25))) - (1 : Int32)) < 0 ∨ 510 ≤ ((((26 : Int32) + ((2 : Int32) * (a89 25))) - (1 : Int32))).toNatClampNeg then none else
    (some (upd a89 (((((26 : Int32) + ((2 : Int32) * (a89 25))) - (1 : Int32))).toNatClampNeg) (a89 11))).bind fun a115 =>
    f_X4_leaveTrail_116 gas a115
def f_X4_leaveTrail_44 (s0 : Int32) (v_w : (Nat → Int32)) : Option (Nat → Int32) :=
  if s0 = (0 : Int32) then
      f_X4_leaveTrail_62 (25 : Int32) (v_w 25) (1 : Int32) v_w
    else
      f_X4_leaveTrail_62 (25 : Int32) (v_w 25) (0 : Int32) v_w
def f_X4_leaveTrail_43 (v_w : (Nat → Int32)) : Option (Nat → Int32) :=
  f_X4_leaveTrail_44 (0 : Int32) v_w
def f_X4_leaveTrail (v_w : (Nat → Int32)) : Option (Nat → Int32) :=
  if (v_w 25) ≤ (0 : Int32) then
    f_X4_leaveTrail_43 v_w
  else
    if (((26 : Int32) + ((2 : Int32) * (v_w 25))) - (2 : Int32)) < 0 ∨ 510 ≤ ((((26 : Int32) + ((2 : Int32) * (v_w 25))) - (2 : Int32))).toNatClampNeg then none else
    if (v_w (((((26 : Int32) + ((2 : Int32) * (v_w 25))) - (2 : Int32))).toNatClampNeg)) = (v_w 10) then
      f_X4_leaveTrail_44 (1 : Int32) v_w
    else
      f_X4_leaveTrail_43 v_w
def f_X4_follow_97 (x1 : Int32) : Nat → Int32 → (Nat → Int32) → Option (Nat → Int32)
  | 0, _, _ => none
  | n + 1, x2, v_w =>
    if x1 ≤ x2 then
      (f_X4_leaveTrail v_w).bind fun q145 =>
      some q145
    else
      if ((270 : Int32) + x2) < 0 ∨ 510 ≤ (((270 : Int32) + x2)).toNatClampNeg then none else
      if (v_w ((((270 : Int32) + x2)).toNatClampNeg)) = (1 : Int32) then
        if ((270 : Int32) + x2) < 0 ∨ 510 ≤ (((270 : Int32) + x2)).toNatClampNeg then none else
        (some (upd v_w ((((270 : Int32) + x2)).toNatClampNeg) (3 : Int32))).bind fun a126 =>
        (some (upd a126 19 ((a126 19) + (1 : Int32)))).bind fun a137 =>
        f_X4_follow_97 x1 n (x2 + 1) a137
      else
        f_X4_follow_97 x1 n (x2 + 1) v_w
def f_X4_follow_71 (x1 : Int32) (v_w : (Nat → Int32)) : Option (Nat → Int32) :=
  (some (upd v_w 11 (x1 + (1 : Int32)))).bind fun a80 =>
    (some (upd a80 13 (a80 10))).bind fun a94 =>
    f_X4_follow_97 x1 gas (0 : Int32) a94
def f_X4_follow_61 (x1 : Int32) (s1 : Int32) (s2 : Int32) (s3 : Int32) (v_w : (Nat → Int32)) : Option (Nat → Int32) :=
  if s1 < 0 ∨ 510 ≤ s1.toNatClampNeg then none else
    (some (upd v_w s1.toNatClampNeg (s2 + s3))).bind fun a62 =>
    (some (upd a62 25 (0 : Int32))).bind fun a70 =>
    f_X4_follow_71 x1 a70
def f_X4_follow_35 (x1 : Int32) (s1 : Int32) (s2 : Int32) (s3 : Int32) (v_w : (Nat → Int32)) : Option (Nat → Int32) :=
  if s1 < 0 ∨ 510 ≤ s1.toNatClampNeg then none else
    (some (upd v_w s1.toNatClampNeg (s2 + s3))).bind fun a36 =>
    if (a36 11) ≤ x1 then
      f_X4_follow_61 x1 (16 : Int32) (a36 16) (0 : Int32) a36
    else
      f_X4_follow_61 x1 (16 : Int32) (a36 16) (1 : Int32) a36
def f_X4_follow (p1 : Int32) (v_w : (Nat → Int32)) : Option (Nat → Int32) :=
  if p1 = (v_w 11) then
    f_X4_follow_71 p1 v_w
  else
    if p1 ≤ (v_w 11) then
      f_X4_follow_35 p1 (15 : Int32) (v_w 15) (0 : Int32) v_w
    else
      f_X4_follow_35 p1 (15 : Int32) (v_w 15) (1 : Int32) v_w
def f_X4_hearNow_49 (x1 : Int32) (x3 : Int32) (v_w : (Nat → Int32)) : Option (Int32 × (Nat → Int32)) :=
  (f_X4_keepWord x1 v_w).bind fun q51 =>
    if x3 = (0 : Int32) then
      some ((-9 : Int32), q51)
    else
      some ((q51 11), q51)
def f_X4_hearNow_25 (x1 : Int32) (x2 : Int32) (s0 : Int32) (v_w : (Nat → Int32)) : Option (Int32 × (Nat → Int32)) :=
  if s0 = (0 : Int32) then
      f_X4_hearNow_49 x1 s0 (upd v_w 17 ((v_w 17) + (1 : Int32)))
    else
      (f_X4_follow x2 v_w).bind fun q32 =>
      f_X4_hearNow_49 x1 s0 q32
def f_X4_hearNow_24 (x1 : Int32) (x2 : Int32) (v_w : (Nat → Int32)) : Option (Int32 × (Nat → Int32)) :=
  f_X4_hearNow_25 x1 x2 (0 : Int32) v_w
def f_X4_hearNow (p1 : Int32) (v_w : (Nat → Int32)) : Option (Int32 × (Nat → Int32)) :=
  (f_X4_bestOf p1 v_w).bind fun q2 =>
  if q2 = (-9 : Int32) then
    f_X4_hearNow_24 p1 q2 v_w
  else
    (f_X4_isAccepted q2 v_w).bind fun q14 =>
    if q14 = (0 : Int32) then
      f_X4_hearNow_24 p1 q2 v_w
    else
      f_X4_hearNow_25 p1 q2 (1 : Int32) v_w
def f_X4_tickOnce_77 (v_rowOf : (Nat → Int32)) (s1 : Int32) (s2 : Int32) (s3 : Int32) (v_w : (Nat → Int32)) : Option (Nat → Int32) :=
  if s1 < 0 ∨ 510 ≤ s1.toNatClampNeg then none else
    (some (upd v_w s1.toNatClampNeg (s2 + s3))).bind fun a78 =>
    (f_X4_estimated a78).bind fun q84 =>
    if q84 < 0 ∨ 120 ≤ q84.toNatClampNeg then none else
    (f_X4_isShown (v_rowOf q84.toNatClampNeg) a78).bind fun q91 =>
    if q91 = (0 : Int32) then
      if (a78 14) ≤ ((100 : Int32) * (v_rowOf q84.toNatClampNeg)) then
        (some (upd a78 14 (((100 : Int32) * (v_rowOf q84.toNatClampNeg)) - ((100 : Int32) * ((a78 1) - (1 : Int32)))))).bind fun a140 =>
        (some (upd a140 18 ((a140 18) + (1 : Int32)))).bind fun a151 =>
        some a151
      else
        (some (upd a78 14 ((100 : Int32) * (v_rowOf q84.toNatClampNeg)))).bind fun a140 =>
        (some (upd a140 18 ((a140 18) + (1 : Int32)))).bind fun a151 =>
        some a151
    else
      some a78
def f_X4_tickOnce (v_w : (Nat → Int32)) (v_rowOf : (Nat → Int32)) (v_rows : Int32) : Option (Nat → Int32) :=
  (some (upd v_w 10 ((v_w 10) + (1 : Int32)))).bind fun a10 =>
  (f_X4_desired a10 v_rowOf v_rows).bind fun q12 =>
  if (q12 - (a10 14)) ≤ (a10 7) then
    if (-(a10 7)) ≤ (q12 - (a10 14)) then
      f_X4_tickOnce_77 v_rowOf (14 : Int32) (a10 14) (q12 - (a10 14)) a10
    else
      f_X4_tickOnce_77 v_rowOf (14 : Int32) (a10 14) (-(a10 7)) a10
  else
    f_X4_tickOnce_77 v_rowOf (14 : Int32) (a10 14) (a10 7) a10
def f_X4_releaseNext (v_w : (Nat → Int32)) : Option (Int32 × (Nat → Int32)) :=
  (f_X4_nextCue v_w).bind fun q1 =>
  if ((270 : Int32) + q1) < 0 ∨ 510 ≤ (((270 : Int32) + q1)).toNatClampNeg then none else
  some (q1, (upd v_w ((((270 : Int32) + q1)).toNatClampNeg) (2 : Int32)))
def f_X4_fails (p1 : Int32) (p2 : Int32) (v_wrongKind : Int32) (v_wrongPlace : Int32) : Option (Int32 × Int32) :=
  some (p1, p2)
def f_X4_readWord (p1 : Int32) (v_text : (Nat → Int32)) (v_wrongKind : Int32) (v_wrongPlace : Int32) (v_readWords : Int32) (v_readPassages : Int32) (v_readLetter : (Nat → Int32)) (v_readCue : (Nat → Int32)) (v_readPassage : (Nat → Int32)) : Option (Int32 × Int32 × Int32 × (Nat → Int32) × (Nat → Int32) × (Nat → Int32)) :=
  if v_readWords = (120 : Int32) then
    (f_X4_fails (4 : Int32) p1 v_wrongKind v_wrongPlace).bind fun q12 =>
    some (q12.1, q12.2, v_readWords, v_readLetter, v_readCue, v_readPassage)
  else
    if p1 < 0 ∨ 140 ≤ p1.toNatClampNeg then none else
    if v_readWords < 0 ∨ 120 ≤ v_readWords.toNatClampNeg then none else
    (some (upd v_readLetter v_readWords.toNatClampNeg (v_text p1.toNatClampNeg))).bind fun a30 =>
    if v_readWords < 0 ∨ 120 ≤ v_readWords.toNatClampNeg then none else
    (some (upd v_readCue v_readWords.toNatClampNeg (0 : Int32))).bind fun a40 =>
    if v_readWords < 0 ∨ 120 ≤ v_readWords.toNatClampNeg then none else
    (some (upd v_readPassage v_readWords.toNatClampNeg v_readPassages)).bind fun a53 =>
    some (v_wrongKind, v_wrongPlace, (v_readWords + (1 : Int32)), a30, a40, a53)
def f_X4_readByte_61 (x1 : Int32) (v_wrongKind : Int32) (v_wrongPlace : Int32) (v_readWords : Int32) (v_readPassages : Int32) (v_readLetter : (Nat → Int32)) (v_readCue : (Nat → Int32)) (v_readPassage : (Nat → Int32)) : Option (Int32 × Int32 × Int32 × Int32 × (Nat → Int32) × (Nat → Int32) × (Nat → Int32)) :=
  (f_X4_fails (2 : Int32) x1 v_wrongKind v_wrongPlace).bind fun q64 =>
    some (q64.1, q64.2, v_readWords, v_readPassages, v_readLetter, v_readCue, v_readPassage)
def f_X4_readByte (p1 : Int32) (v_text : (Nat → Int32)) (v_wrongKind : Int32) (v_wrongPlace : Int32) (v_readWords : Int32) (v_readPassages : Int32) (v_readLetter : (Nat → Int32)) (v_readCue : (Nat → Int32)) (v_readPassage : (Nat → Int32)) : Option (Int32 × Int32 × Int32 × Int32 × (Nat → Int32) × (Nat → Int32) × (Nat → Int32)) :=
  if p1 < 0 ∨ 140 ≤ p1.toNatClampNeg then none else
  (f_X4_isLetter (v_text p1.toNatClampNeg)).bind fun q8 =>
  if q8 = (0 : Int32) then
    if (v_text p1.toNatClampNeg) = (47 : Int32) then
      if p1 ≤ (0 : Int32) then
        f_X4_readByte_61 p1 v_wrongKind v_wrongPlace v_readWords v_readPassages v_readLetter v_readCue v_readPassage
      else
        if (p1 - (1 : Int32)) < 0 ∨ 140 ≤ ((p1 - (1 : Int32))).toNatClampNeg then none else
        (f_X4_isLetter (v_text (((p1 - (1 : Int32))).toNatClampNeg))).bind fun q40 =>
        if q40 = (0 : Int32) then
          f_X4_readByte_61 p1 v_wrongKind v_wrongPlace v_readWords v_readPassages v_readLetter v_readCue v_readPassage
        else
          if (v_readWords - (1 : Int32)) < 0 ∨ 120 ≤ ((v_readWords - (1 : Int32))).toNatClampNeg then none else
          some (v_wrongKind, v_wrongPlace, v_readWords, v_readPassages, v_readLetter, (upd v_readCue (((v_readWords - (1 : Int32))).toNatClampNeg) (1 : Int32)), v_readPassage)
    else
      if (v_text p1.toNatClampNeg) = (124 : Int32) then
        (f_X4_hasWord v_readWords v_readPassages v_readPassage).bind fun q77 =>
        if q77 = (0 : Int32) then
          (f_X4_fails (3 : Int32) p1 v_wrongKind v_wrongPlace).bind fun q99 =>
          some (q99.1, q99.2, v_readWords, v_readPassages, v_readLetter, v_readCue, v_readPassage)
        else
          some (v_wrongKind, v_wrongPlace, v_readWords, (v_readPassages + (1 : Int32)), v_readLetter, v_readCue, v_readPassage)
      else
        if (v_text p1.toNatClampNeg) = (32 : Int32) then
          some (v_wrongKind, v_wrongPlace, v_readWords, v_readPassages, v_readLetter, v_readCue, v_readPassage)
        else
          (f_X4_fails (1 : Int32) p1 v_wrongKind v_wrongPlace).bind fun q114 =>
          some (q114.1, q114.2, v_readWords, v_readPassages, v_readLetter, v_readCue, v_readPassage)
  else
    (f_X4_readWord p1 v_text v_wrongKind v_wrongPlace v_readWords v_readPassages v_readLetter v_readCue v_readPassage).bind fun q16 =>
    some (q16.1, q16.2.1, q16.2.2.1, v_readPassages, q16.2.2.2.1, q16.2.2.2.2.1, q16.2.2.2.2.2)
def f_X4_readText_48 (v_length : Int32) (v_wrongKind : Int32) (v_wrongPlace : Int32) (v_readWords : Int32) (v_readPassages : Int32) (v_readLetter : (Nat → Int32)) (v_readCue : (Nat → Int32)) (v_readPassage : (Nat → Int32)) : Option (Int32 × Int32 × Int32 × Int32 × (Nat → Int32) × (Nat → Int32) × (Nat → Int32)) :=
  if v_wrongKind = (-9 : Int32) then
      (f_X4_hasWord v_readWords v_readPassages v_readPassage).bind fun q58 =>
      if q58 = (0 : Int32) then
        (f_X4_fails (5 : Int32) v_length v_wrongKind v_wrongPlace).bind fun q70 =>
        some (q70.1, q70.2, v_readWords, v_readPassages, v_readLetter, v_readCue, v_readPassage)
      else
        some (v_wrongKind, v_wrongPlace, v_readWords, v_readPassages, v_readLetter, v_readCue, v_readPassage)
    else
      some (v_wrongKind, v_wrongPlace, v_readWords, v_readPassages, v_readLetter, v_readCue, v_readPassage)
def f_X4_readText_20 (v_text : (Nat → Int32)) (v_length : Int32) : Nat → Int32 → Int32 → Int32 → Int32 → Int32 → (Nat → Int32) → (Nat → Int32) → (Nat → Int32) → Option (Int32 × Int32 × Int32 × Int32 × (Nat → Int32) × (Nat → Int32) × (Nat → Int32))
  | 0, _, _, _, _, _, _, _, _ => none
  | n + 1, x1, v_wrongKind, v_wrongPlace, v_readWords, v_readPassages, v_readLetter, v_readCue, v_readPassage =>
    if v_length ≤ x1 then
      f_X4_readText_48 v_length v_wrongKind v_wrongPlace v_readWords v_readPassages v_readLetter v_readCue v_readPassage
    else
      if v_wrongKind = (-9 : Int32) then
        (f_X4_readByte x1 v_text v_wrongKind v_wrongPlace v_readWords v_readPassages v_readLetter v_readCue v_readPassage).bind fun q39 =>
        f_X4_readText_20 v_text v_length n (x1 + 1) q39.1 q39.2.1 q39.2.2.1 q39.2.2.2.1 q39.2.2.2.2.1 q39.2.2.2.2.2.1 q39.2.2.2.2.2.2
      else
        f_X4_readText_48 v_length v_wrongKind v_wrongPlace v_readWords v_readPassages v_readLetter v_readCue v_readPassage
def f_X4_readText (v_text : (Nat → Int32)) (v_length : Int32) (v_wrongKind : Int32) (v_wrongPlace : Int32) (v_readWords : Int32) (v_readPassages : Int32) (v_readLetter : (Nat → Int32)) (v_readCue : (Nat → Int32)) (v_readPassage : (Nat → Int32)) : Option (Int32 × Int32 × Int32 × Int32 × (Nat → Int32) × (Nat → Int32) × (Nat → Int32)) :=
  (f_X4_fails (-9 : Int32) (-9 : Int32) v_wrongKind v_wrongPlace).bind fun q15 =>
  f_X4_readText_20 v_text v_length gas (0 : Int32) q15.1 q15.2 (0 : Int32) (0 : Int32) v_readLetter v_readCue v_readPassage
def f_X4_load_72 (v_past : (Nat → Int32)) (v_pastMany : Int32) (v_faultKind : Int32) (v_faultPlace : Int32) (v_rowOf : (Nat → Int32)) (v_rows : Int32) (v_wrongKind : Int32) (v_wrongPlace : Int32) (v_readWords : Int32) (v_readPassages : Int32) (v_readLetter : (Nat → Int32)) (v_readCue : (Nat → Int32)) (v_readPassage : (Nat → Int32)) : Nat → Int32 → (Nat → Int32) → Option (Int32 × (Nat → Int32) × (Nat → Int32) × Int32 × Int32 × Int32 × (Nat → Int32) × Int32 × Int32 × Int32 × Int32 × Int32 × (Nat → Int32) × (Nat → Int32) × (Nat → Int32))
  | 0, _, _ => none
  | n + 1, x1, v_w =>
    if v_readWords ≤ x1 then
      (f_X4_layRows v_w v_rowOf v_rows).bind fun q135 =>
      some (v_readWords, v_w, v_past, v_pastMany, v_faultKind, v_faultPlace, q135.1, q135.2, v_wrongKind, v_wrongPlace, v_readWords, v_readPassages, v_readLetter, v_readCue, v_readPassage)
    else
      if x1 < 0 ∨ 120 ≤ x1.toNatClampNeg then none else
      if ((150 : Int32) + x1) < 0 ∨ 510 ≤ (((150 : Int32) + x1)).toNatClampNeg then none else
      (some (upd v_w ((((150 : Int32) + x1)).toNatClampNeg) (v_readLetter x1.toNatClampNeg))).bind fun a95 =>
      if x1 < 0 ∨ 120 ≤ x1.toNatClampNeg then none else
      if ((270 : Int32) + x1) < 0 ∨ 510 ≤ (((270 : Int32) + x1)).toNatClampNeg then none else
      (some (upd a95 ((((270 : Int32) + x1)).toNatClampNeg) (v_readCue x1.toNatClampNeg))).bind fun a111 =>
      if x1 < 0 ∨ 120 ≤ x1.toNatClampNeg then none else
      if ((390 : Int32) + x1) < 0 ∨ 510 ≤ (((390 : Int32) + x1)).toNatClampNeg then none else
      (some (upd a111 ((((390 : Int32) + x1)).toNatClampNeg) (v_readPassage x1.toNatClampNeg))).bind fun a127 =>
      f_X4_load_72 v_past v_pastMany v_faultKind v_faultPlace v_rowOf v_rows v_wrongKind v_wrongPlace v_readWords v_readPassages v_readLetter v_readCue v_readPassage n (x1 + 1) a127
def f_X4_load_39 (v_past : (Nat → Int32)) (v_pastMany : Int32) (v_faultKind : Int32) (v_faultPlace : Int32) (v_rowOf : (Nat → Int32)) (v_rows : Int32) (v_wrongKind : Int32) (v_wrongPlace : Int32) (v_readWords : Int32) (v_readPassages : Int32) (v_readLetter : (Nat → Int32)) (v_readCue : (Nat → Int32)) (v_readPassage : (Nat → Int32)) : Nat → Int32 → (Nat → Int32) → Option (Int32 × (Nat → Int32) × (Nat → Int32) × Int32 × Int32 × Int32 × (Nat → Int32) × Int32 × Int32 × Int32 × Int32 × Int32 × (Nat → Int32) × (Nat → Int32) × (Nat → Int32))
  | 0, _, _ => none
  | n + 1, x1, v_w =>
    if (510 : Int32) ≤ x1 then
      (some (upd v_w 9 v_readWords)).bind fun a69 =>
      f_X4_load_72 v_past v_pastMany v_faultKind v_faultPlace v_rowOf v_rows v_wrongKind v_wrongPlace v_readWords v_readPassages v_readLetter v_readCue v_readPassage gas (0 : Int32) a69
    else
      if x1 < 0 ∨ 510 ≤ x1.toNatClampNeg then none else
      (some (upd v_w x1.toNatClampNeg (0 : Int32))).bind fun a52 =>
      f_X4_load_39 v_past v_pastMany v_faultKind v_faultPlace v_rowOf v_rows v_wrongKind v_wrongPlace v_readWords v_readPassages v_readLetter v_readCue v_readPassage n (x1 + 1) a52
def f_X4_load (v_w : (Nat → Int32)) (v_past : (Nat → Int32)) (v_pastMany : Int32) (v_text : (Nat → Int32)) (v_length : Int32) (v_faultKind : Int32) (v_faultPlace : Int32) (v_rowOf : (Nat → Int32)) (v_rows : Int32) (v_wrongKind : Int32) (v_wrongPlace : Int32) (v_readWords : Int32) (v_readPassages : Int32) (v_readLetter : (Nat → Int32)) (v_readCue : (Nat → Int32)) (v_readPassage : (Nat → Int32)) : Option (Int32 × (Nat → Int32) × (Nat → Int32) × Int32 × Int32 × Int32 × (Nat → Int32) × Int32 × Int32 × Int32 × Int32 × Int32 × (Nat → Int32) × (Nat → Int32) × (Nat → Int32)) :=
  (f_X4_readText v_text v_length v_wrongKind v_wrongPlace v_readWords v_readPassages v_readLetter v_readCue v_readPassage).bind fun q1 =>
  if q1.1 = (-9 : Int32) then
    (f_X4_remember v_w v_past v_pastMany).bind fun q33 =>
    f_X4_load_39 q33.1 q33.2 v_faultKind v_faultPlace v_rowOf v_rows q1.1 q1.2.1 q1.2.2.1 q1.2.2.2.1 q1.2.2.2.2.1 q1.2.2.2.2.2.1 q1.2.2.2.2.2.2 gas (10 : Int32) v_w
  else
    some ((-2 : Int32), v_w, v_past, v_pastMany, q1.1, q1.2.1, v_rowOf, v_rows, q1.1, q1.2.1, q1.2.2.1, q1.2.2.2.1, q1.2.2.2.2.1, q1.2.2.2.2.2.1, q1.2.2.2.2.2.2)
def f_X4_write (p1 : Int32) (v_text : (Nat → Int32)) (v_length : Int32) : Option (Int32 × (Nat → Int32) × Int32) :=
  (f_X4_isIn p1 (32 : Int32) (126 : Int32)).bind fun q5 =>
  if q5 = (0 : Int32) then
    some ((-1 : Int32), v_text, v_length)
  else
    if v_length = (140 : Int32) then
      some ((-3 : Int32), v_text, v_length)
    else
      if v_length < 0 ∨ 140 ≤ v_length.toNatClampNeg then none else
      some ((v_length + (1 : Int32)), (upd v_text v_length.toNatClampNeg p1), (v_length + (1 : Int32)))
def f_X4_wipe (v_length : Int32) : Option (Int32 × Int32) :=
  some (v_length, (0 : Int32))
def f_X4_set (p1 : Int32) (p2 : Int32) (v_w : (Nat → Int32)) (v_past : (Nat → Int32)) (v_pastMany : Int32) (v_rowOf : (Nat → Int32)) (v_rows : Int32) : Option (Int32 × (Nat → Int32) × (Nat → Int32) × Int32 × (Nat → Int32) × Int32) :=
  (f_X4_isOf p1 p2).bind fun q2 =>
  if q2 = (0 : Int32) then
    some ((-1 : Int32), v_w, v_past, v_pastMany, v_rowOf, v_rows)
  else
    (f_X4_remember v_w v_past v_pastMany).bind fun q11 =>
    if p1 < 0 ∨ 510 ≤ p1.toNatClampNeg then none else
    if p1 < 0 ∨ 510 ≤ p1.toNatClampNeg then none else
    (some (upd v_w p1.toNatClampNeg p2)).bind fun a27 =>
    (f_X4_layRows a27 v_rowOf v_rows).bind fun q29 =>
    (f_X4_limited (a27 14) a27 q29.2).bind fun q46 =>
    (some (upd a27 14 q46)).bind fun a49 =>
    some ((v_w p1.toNatClampNeg), a49, q11.1, q11.2, q29.1, q29.2)
def f_X4_hear (p1 : Int32) (v_w : (Nat → Int32)) (v_past : (Nat → Int32)) (v_pastMany : Int32) : Option (Int32 × (Nat → Int32) × (Nat → Int32) × Int32) :=
  (f_X4_isLetter p1).bind fun q1 =>
  if q1 = (0 : Int32) then
    some ((-1 : Int32), v_w, v_past, v_pastMany)
  else
    (f_X4_remember v_w v_past v_pastMany).bind fun q10 =>
    (f_X4_hearNow p1 v_w).bind fun q15 =>
    some (q15.1, q15.2, q10.1, q10.2)
def f_X4_tick_26 (v_rowOf : (Nat → Int32)) (v_rows : Int32) (x1 : Int32) (x2 : Int32) (v_past : (Nat → Int32)) (v_pastMany : Int32) : Nat → Int32 → (Nat → Int32) → Option (Int32 × (Nat → Int32) × (Nat → Int32) × Int32)
  | 0, _, _ => none
  | n + 1, x3, v_w =>
    if x1 ≤ x3 then
      some (((v_w 18) - x2), v_w, v_past, v_pastMany)
    else
      (f_X4_tickOnce v_w v_rowOf v_rows).bind fun q32 =>
      f_X4_tick_26 v_rowOf v_rows x1 x2 v_past v_pastMany n (x3 + 1) q32
def f_X4_tick (p1 : Int32) (v_w : (Nat → Int32)) (v_past : (Nat → Int32)) (v_pastMany : Int32) (v_rowOf : (Nat → Int32)) (v_rows : Int32) : Option (Int32 × (Nat → Int32) × (Nat → Int32) × Int32) :=
  (f_X4_isIn p1 (1 : Int32) (100 : Int32)).bind fun q4 =>
  if q4 = (0 : Int32) then
    some ((-1 : Int32), v_w, v_past, v_pastMany)
  else
    (f_X4_remember v_w v_past v_pastMany).bind fun q13 =>
    f_X4_tick_26 v_rowOf v_rows p1 (v_w 18) q13.1 q13.2 gas (0 : Int32) v_w
def f_X4_release (v_w : (Nat → Int32)) (v_past : (Nat → Int32)) (v_pastMany : Int32) : Option (Int32 × (Nat → Int32) × (Nat → Int32) × Int32) :=
  (f_X4_nextCue v_w).bind fun q1 =>
  if q1 = (-9 : Int32) then
    some ((-2 : Int32), v_w, v_past, v_pastMany)
  else
    (f_X4_remember v_w v_past v_pastMany).bind fun q13 =>
    (f_X4_releaseNext v_w).bind fun q17 =>
    some (q17.1, q17.2, q13.1, q13.2)
def f_X4_place_62 (x1 : Int32) (x2 : Int32) (v_past : (Nat → Int32)) (v_pastMany : Int32) : Nat → Int32 → (Nat → Int32) → Option (Int32 × (Nat → Int32) × (Nat → Int32) × Int32)
  | 0, _, _ => none
  | n + 1, x3, v_w =>
    if (v_w 9) ≤ x3 then
      some (x2, v_w, v_past, v_pastMany)
    else
      if ((270 : Int32) + x3) < 0 ∨ 510 ≤ (((270 : Int32) + x3)).toNatClampNeg then none else
      if (v_w ((((270 : Int32) + x3)).toNatClampNeg)) = (0 : Int32) then
        if ((270 : Int32) + x3) < 0 ∨ 510 ≤ (((270 : Int32) + x3)).toNatClampNeg then none else
        (some (upd v_w ((((270 : Int32) + x3)).toNatClampNeg) (0 : Int32))).bind fun a109 =>
        f_X4_place_62 x1 x2 v_past v_pastMany n (x3 + 1) a109
      else
        if x3 < x1 then
          if ((270 : Int32) + x3) < 0 ∨ 510 ≤ (((270 : Int32) + x3)).toNatClampNeg then none else
          (some (upd v_w ((((270 : Int32) + x3)).toNatClampNeg) (3 : Int32))).bind fun a109 =>
          f_X4_place_62 x1 x2 v_past v_pastMany n (x3 + 1) a109
        else
          if ((270 : Int32) + x3) < 0 ∨ 510 ≤ (((270 : Int32) + x3)).toNatClampNeg then none else
          (some (upd v_w ((((270 : Int32) + x3)).toNatClampNeg) (1 : Int32))).bind fun a109 =>
          f_X4_place_62 x1 x2 v_past v_pastMany n (x3 + 1) a109
def f_X4_place (p1 : Int32) (v_w : (Nat → Int32)) (v_past : (Nat → Int32)) (v_pastMany : Int32) : Option (Int32 × (Nat → Int32) × (Nat → Int32) × Int32) :=
  (f_X4_isWord p1 v_w).bind fun q2 =>
  if q2 = (0 : Int32) then
    some ((-1 : Int32), v_w, v_past, v_pastMany)
  else
    (f_X4_remember v_w v_past v_pastMany).bind fun q11 =>
    (some (upd v_w 11 p1)).bind fun a29 =>
    (some (upd a29 20 (0 : Int32))).bind fun a37 =>
    (some (upd a37 25 (0 : Int32))).bind fun a45 =>
    (some (upd a45 13 (a45 10))).bind fun a59 =>
    f_X4_place_62 p1 (v_w 11) q11.1 q11.2 gas (0 : Int32) a59
def f_X4_undo_22 (v_past : (Nat → Int32)) (v_pastMany : Int32) (v_rowOf : (Nat → Int32)) (v_rows : Int32) : Nat → Int32 → (Nat → Int32) → Option (Int32 × (Nat → Int32) × Int32 × (Nat → Int32) × Int32)
  | 0, _, _ => none
  | n + 1, x1, v_w =>
    if (510 : Int32) ≤ x1 then
      (f_X4_layRows v_w v_rowOf v_rows).bind fun q57 =>
      some (v_pastMany, v_w, v_pastMany, q57.1, q57.2)
    else
      if (((510 : Int32) * v_pastMany) + x1) < 0 ∨ 4080 ≤ ((((510 : Int32) * v_pastMany) + x1)).toNatClampNeg then none else
      if x1 < 0 ∨ 510 ≤ x1.toNatClampNeg then none else
      f_X4_undo_22 v_past v_pastMany v_rowOf v_rows n (x1 + 1) (upd v_w x1.toNatClampNeg (v_past (((((510 : Int32) * v_pastMany) + x1)).toNatClampNeg)))
def f_X4_undo (v_w : (Nat → Int32)) (v_past : (Nat → Int32)) (v_pastMany : Int32) (v_rowOf : (Nat → Int32)) (v_rows : Int32) : Option (Int32 × (Nat → Int32) × Int32 × (Nat → Int32) × Int32) :=
  if v_pastMany = (0 : Int32) then
    some ((-2 : Int32), v_w, v_pastMany, v_rowOf, v_rows)
  else
    f_X4_undo_22 v_past (v_pastMany - (1 : Int32)) v_rowOf v_rows gas (0 : Int32) v_w
def f_X4_hold_2 (v_w : (Nat → Int32)) : Nat → Int32 → (Nat → Int32) → Option (Nat → Int32)
  | 0, _, _ => none
  | n + 1, x1, v_held =>
    if (510 : Int32) ≤ x1 then
      some v_held
    else
      if x1 < 0 ∨ 510 ≤ x1.toNatClampNeg then none else
      if x1 < 0 ∨ 510 ≤ x1.toNatClampNeg then none else
      f_X4_hold_2 v_w n (x1 + 1) (upd v_held x1.toNatClampNeg (v_w x1.toNatClampNeg))
def f_X4_hold (v_w : (Nat → Int32)) (v_held : (Nat → Int32)) : Option (Nat → Int32) :=
  f_X4_hold_2 v_w gas (0 : Int32) v_held
def f_X4_restore_2 (v_held : (Nat → Int32)) : Nat → Int32 → (Nat → Int32) → Option (Nat → Int32)
  | 0, _, _ => none
  | n + 1, x1, v_w =>
    if (510 : Int32) ≤ x1 then
      some v_w
    else
      if x1 < 0 ∨ 510 ≤ x1.toNatClampNeg then none else
      if x1 < 0 ∨ 510 ≤ x1.toNatClampNeg then none else
      f_X4_restore_2 v_held n (x1 + 1) (upd v_w x1.toNatClampNeg (v_held x1.toNatClampNeg))
def f_X4_restore (v_w : (Nat → Int32)) (v_held : (Nat → Int32)) : Option (Nat → Int32) :=
  f_X4_restore_2 v_held gas (0 : Int32) v_w
def f_X4_reached_65 (x2 : Int32) (x3 : Int32) (s0 : Int32) (v_w : (Nat → Int32)) : Option (Int32 × (Nat → Int32)) :=
  (some (upd v_w 10 x2)).bind fun a74 =>
    if s0 = (0 : Int32) then
      some ((-9 : Int32), a74)
    else
      some (x3, a74)
def f_X4_reached_52 (x1 : Int32) (x2 : Int32) (x3 : Int32) (v_w : (Nat → Int32)) : Option (Int32 × (Nat → Int32)) :=
  (f_X4_estimated v_w).bind fun q53 =>
    if q53 < x1 then
      f_X4_reached_65 x2 x3 (0 : Int32) v_w
    else
      f_X4_reached_65 x2 x3 (1 : Int32) v_w
def f_X4_reached_20 (x1 : Int32) (x2 : Int32) : Nat → Int32 → (Nat → Int32) → Option (Int32 × (Nat → Int32))
  | 0, _, _ => none
  | n + 1, x3, v_w =>
    if (500 : Int32) ≤ x3 then
      f_X4_reached_52 x1 x2 x3 v_w
    else
      (f_X4_estimated v_w).bind fun q28 =>
      if x1 ≤ q28 then
        f_X4_reached_52 x1 x2 x3 v_w
      else
        (some (upd v_w 10 ((v_w 10) + (1 : Int32)))).bind fun a45 =>
        f_X4_reached_20 x1 x2 n (x3 + 1) a45
def f_X4_reached (p1 : Int32) (v_w : (Nat → Int32)) : Option (Int32 × (Nat → Int32)) :=
  (f_X4_isWord p1 v_w).bind fun q2 =>
  if q2 = (0 : Int32) then
    some ((-1 : Int32), v_w)
  else
    f_X4_reached_20 p1 (v_w 10) gas (0 : Int32) v_w
def f_X4_rehearse_47 (k33 : Int32 → (Nat → Int32) → Option (Int32 × (Nat → Int32) × (Nat → Int32))) (v_rowOf : (Nat → Int32)) (v_rows : Int32) (x1 : Int32) (x3 : Int32) (v_held : (Nat → Int32)) : Nat → Int32 → (Nat → Int32) → Option (Int32 × (Nat → Int32) × (Nat → Int32))
  | 0, _, _ => none
  | n + 1, x4, v_w =>
    if x1 ≤ x4 then
      if ((150 : Int32) + x3) < 0 ∨ 510 ≤ (((150 : Int32) + x3)).toNatClampNeg then none else
      (f_X4_hearNow (v_w ((((150 : Int32) + x3)).toNatClampNeg)) v_w).bind fun q74 =>
      (f_X4_nextCue q74.2).bind fun q80 =>
      if q80 = x3 then
        (f_X4_releaseNext q74.2).bind fun q88 =>
        k33 (x3 + 1) q88.2
      else
        k33 (x3 + 1) q74.2
    else
      (f_X4_tickOnce v_w v_rowOf v_rows).bind fun q54 =>
      f_X4_rehearse_47 k33 v_rowOf v_rows x1 x3 v_held n (x4 + 1) q54
def f_X4_rehearse_33 (v_rowOf : (Nat → Int32)) (v_rows : Int32) (x1 : Int32) (x2 : Int32) (v_held : (Nat → Int32)) : Nat → Int32 → (Nat → Int32) → Option (Int32 × (Nat → Int32) × (Nat → Int32))
  | 0, _, _ => none
  | n + 1, x3, v_w =>
    if (v_w 9) ≤ x3 then
      (f_X4_restore v_w v_held).bind fun q175 =>
      if x2 = (0 : Int32) then
        some (((v_w 18) - (v_held 18)), q175, v_held)
      else
        if x2 = (1 : Int32) then
          some (((((v_w 15) - (v_held 15)) + (v_w 16)) - (v_held 16)), q175, v_held)
        else
          if x2 = (2 : Int32) then
            some (((v_w 17) - (v_held 17)), q175, v_held)
          else
            some ((v_w 11), q175, v_held)
    else
      f_X4_rehearse_47 (f_X4_rehearse_33 v_rowOf v_rows x1 x2 v_held n) v_rowOf v_rows x1 x3 v_held gas (0 : Int32) v_w
def f_X4_rehearse (p1 : Int32) (p2 : Int32) (v_w : (Nat → Int32)) (v_rowOf : (Nat → Int32)) (v_rows : Int32) (v_held : (Nat → Int32)) : Option (Int32 × (Nat → Int32) × (Nat → Int32)) :=
  (f_X4_isIn p1 (1 : Int32) (10 : Int32)).bind fun q4 =>
  if q4 = (0 : Int32) then
    some ((-1 : Int32), v_w, v_held)
  else
    (f_X4_isIn p2 (0 : Int32) (3 : Int32)).bind fun q13 =>
    if q13 = (0 : Int32) then
      some ((-1 : Int32), v_w, v_held)
    else
      (f_X4_hold v_w v_held).bind fun q22 =>
      f_X4_rehearse_33 v_rowOf v_rows p1 p2 q22 gas (q22 11) v_w
def f_X4_keep_11 (v_w : (Nat → Int32)) (x1 : Int32) (v_filled : Int32) : Nat → Int32 → (Nat → Int32) → Option (Int32 × (Nat → Int32) × Int32)
  | 0, _, _ => none
  | n + 1, x2, v_images =>
    if (510 : Int32) ≤ x2 then
      some ((v_w 11), v_images, (v_filled ||| ((1 : Int32) <<< (x1 &&& 31))))
    else
      if x2 < 0 ∨ 510 ≤ x2.toNatClampNeg then none else
      if (((510 : Int32) * x1) + x2) < 0 ∨ 1020 ≤ ((((510 : Int32) * x1) + x2)).toNatClampNeg then none else
      f_X4_keep_11 v_w x1 v_filled n (x2 + 1) (upd v_images (((((510 : Int32) * x1) + x2)).toNatClampNeg) (v_w x2.toNatClampNeg))
def f_X4_keep (p1 : Int32) (v_w : (Nat → Int32)) (v_images : (Nat → Int32)) (v_filled : Int32) : Option (Int32 × (Nat → Int32) × Int32) :=
  (f_X4_isImage p1).bind fun q1 =>
  if q1 = (0 : Int32) then
    some ((-1 : Int32), v_images, v_filled)
  else
    f_X4_keep_11 v_w p1 v_filled gas (0 : Int32) v_images
def f_X4_back_29 (v_images : (Nat → Int32)) (x1 : Int32) (v_past : (Nat → Int32)) (v_pastMany : Int32) (v_rowOf : (Nat → Int32)) (v_rows : Int32) : Nat → Int32 → (Nat → Int32) → Option (Int32 × (Nat → Int32) × (Nat → Int32) × Int32 × (Nat → Int32) × Int32)
  | 0, _, _ => none
  | n + 1, x2, v_w =>
    if (510 : Int32) ≤ x2 then
      (f_X4_layRows v_w v_rowOf v_rows).bind fun q61 =>
      some ((v_w 11), v_w, v_past, v_pastMany, q61.1, q61.2)
    else
      if (((510 : Int32) * x1) + x2) < 0 ∨ 1020 ≤ ((((510 : Int32) * x1) + x2)).toNatClampNeg then none else
      if x2 < 0 ∨ 510 ≤ x2.toNatClampNeg then none else
      f_X4_back_29 v_images x1 v_past v_pastMany v_rowOf v_rows n (x2 + 1) (upd v_w x2.toNatClampNeg (v_images (((((510 : Int32) * x1) + x2)).toNatClampNeg)))
def f_X4_back (p1 : Int32) (v_w : (Nat → Int32)) (v_past : (Nat → Int32)) (v_pastMany : Int32) (v_images : (Nat → Int32)) (v_filled : Int32) (v_rowOf : (Nat → Int32)) (v_rows : Int32) : Option (Int32 × (Nat → Int32) × (Nat → Int32) × Int32 × (Nat → Int32) × Int32) :=
  (f_X4_isImage p1).bind fun q1 =>
  if q1 = (0 : Int32) then
    some ((-1 : Int32), v_w, v_past, v_pastMany, v_rowOf, v_rows)
  else
    if ((v_filled >>> (p1 &&& 31)) &&& (1 : Int32)) = (0 : Int32) then
      some ((-2 : Int32), v_w, v_past, v_pastMany, v_rowOf, v_rows)
    else
      (f_X4_remember v_w v_past v_pastMany).bind fun q24 =>
      f_X4_back_29 v_images p1 q24.1 q24.2 v_rowOf v_rows gas (0 : Int32) v_w
def f_X0_sameEnding_3 (v_letters : (Nat → Int32)) (x1 : Int32) (x2 : Int32) (x3 : Int32) : Nat → Int32 → Option Int32
  | 0, _ => none
  | n + 1, x4 =>
    if x3 ≤ x4 then
      some (1 : Int32)
    else
      (f_X3_at 120 (x1 - x4) v_letters).bind fun q17 =>
      (f_X3_at 120 (x2 - x4) v_letters).bind fun q28 =>
      if q17 = q28 then
        f_X0_sameEnding_3 v_letters x1 x2 x3 n (x4 + 1)
      else
        some (0 : Int32)
def f_X0_sameEnding (p1 : Int32) (p2 : Int32) (p3 : Int32) (v_letters : (Nat → Int32)) : Option Int32 :=
  f_X0_sameEnding_3 v_letters p1 p2 p3 gas (0 : Int32)
def f_X0_endsElsewhere_4 (v_words : Int32) (v_letters : (Nat → Int32)) (x1 : Int32) (x2 : Int32) : Nat → Int32 → Option Int32
  | 0, _ => none
  | n + 1, x3 =>
    if v_words ≤ x3 then
      some (0 : Int32)
    else
      if x3 = x1 then
        f_X0_endsElsewhere_4 v_words v_letters x1 x2 n (x3 + 1)
      else
        (f_X0_sameEnding x1 x3 x2 v_letters).bind fun q21 =>
        if q21 = (0 : Int32) then
          f_X0_endsElsewhere_4 v_words v_letters x1 x2 n (x3 + 1)
        else
          some (1 : Int32)
def f_X0_endsElsewhere (p1 : Int32) (p2 : Int32) (v_words : Int32) (v_letters : (Nat → Int32)) : Option Int32 :=
  f_X0_endsElsewhere_4 v_words v_letters p1 p2 gas (p2 - (1 : Int32))
def f_X0_uniqueLength_2 (v_words : Int32) (v_letters : (Nat → Int32)) (x1 : Int32) : Nat → Int32 → Option Int32
  | 0, _ => none
  | n + 1, x2 =>
    if (4 : Int32) < x2 then
      some (-9 : Int32)
    else
      if (x1 + (1 : Int32)) < x2 then
        some (-9 : Int32)
      else
        (f_X0_endsElsewhere x1 x2 v_words v_letters).bind fun q17 =>
        if q17 = (0 : Int32) then
          some x2
        else
          f_X0_uniqueLength_2 v_words v_letters x1 n (x2 + 1)
def f_X0_uniqueLength (p1 : Int32) (v_words : Int32) (v_letters : (Nat → Int32)) : Option Int32 :=
  f_X0_uniqueLength_2 v_words v_letters p1 gas (1 : Int32)
def f_X1_ticksTo_7 (v_settings : (Nat → Int32)) (v_position : Int32) (v_speed : Int32) (v_time : Int32) (v_heardTime : Int32) (x1 : Int32) (x2 : Int32) : Nat → Int32 → Option Int32
  | 0, _ => none
  | n + 1, x3 =>
    if (500 : Int32) < x3 then
      some (-9 : Int32)
    else
      (f_X1_estimate x3 x2 v_settings v_position v_speed v_time v_heardTime).bind fun q17 =>
      if q17 < x1 then
        f_X1_ticksTo_7 v_settings v_position v_speed v_time v_heardTime x1 x2 n (x3 + 1)
      else
        some x3
def f_X1_ticksTo (p1 : Int32) (v_settings : (Nat → Int32)) (v_words : Int32) (v_cues : (Nat → Int32)) (v_position : Int32) (v_speed : Int32) (v_time : Int32) (v_heardTime : Int32) : Option Int32 :=
  (f_X1_holdingWord v_words v_cues).bind fun q1 =>
  f_X1_ticksTo_7 v_settings v_position v_speed v_time v_heardTime p1 q1 gas (0 : Int32)
def f_X3_fault (p1 : Int32) (v_faultKind : Int32) (v_faultPlace : Int32) : Option Int32 :=
  if p1 < (0 : Int32) then
    some (-1 : Int32)
  else
    if p1 ≤ (1 : Int32) then
      if v_faultKind = (0 : Int32) then
        some (-9 : Int32)
      else
        if p1 = (0 : Int32) then
          some v_faultKind
        else
          some v_faultPlace
    else
      some (-1 : Int32)
def f_X3_unique (p1 : Int32) (v_words : Int32) (v_letters : (Nat → Int32)) : Option Int32 :=
  (f_X0_has p1 v_words).bind fun q8 =>
  if q8 = (0 : Int32) then
    some (-1 : Int32)
  else
    (f_X0_uniqueLength p1 v_words v_letters).bind fun q22 =>
    some q22
def f_X3_reached (p1 : Int32) (v_settings : (Nat → Int32)) (v_words : Int32) (v_cues : (Nat → Int32)) (v_position : Int32) (v_speed : Int32) (v_time : Int32) (v_heardTime : Int32) : Option Int32 :=
  (f_X0_has p1 v_words).bind fun q8 =>
  if q8 = (0 : Int32) then
    some (-1 : Int32)
  else
    (f_X1_ticksTo p1 v_settings v_words v_cues v_position v_speed v_time v_heardTime).bind fun q19 =>
    some q19
