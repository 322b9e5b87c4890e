
/-! ===== the reference's methods, as programs: what whole holds the class against; here a second telling of a state ===== -/
def f6_in (x0 : Int32) (x1 : Int32) (x2 : Int32) : Option (Int32) :=
  some ((if x0 < x1 then (0 : Int32) else (if x2 < x0 then (0 : Int32) else (1 : Int32))))
def f6_isSerial (x0 : Int32) : Option (Int32) :=
  bd1 (f6_in x0 (0 : Int32) (999999 : Int32)) (fun q2 =>
    if isZ q2 then
      some (q2)
    else none)
def f6_isLetter (x0 : Int32) : Option (Int32) :=
  bd1 (f6_in x0 (0 : Int32) (25 : Int32)) (fun q2 =>
    if isZ q2 then
      some (q2)
    else none)
def f6_digit_l4 (x1 : Int32) : Nat → Int32 → Int32 → Option (Int32)
  | 0, _, _ => none
  | n + 1, x2, x3 =>
    if x3 ≤ x1 then
      some ((x2 - x2 / (10 : Int32) * (10 : Int32)))
    else
      (f6_digit_l4 x1 n) (x2 / (10 : Int32)) (x3 + (-1))
def f6_digit (x0 : Int32) (x1 : Int32) : Option (Int32) :=
  f6_digit_l4 x1 fu x0 (5 : Int32)
def f6_way_j47 (k7 : Int32 → Int32 → Int32 → Option (Int32)) (x0 : Int32) (x1 : Int32) (x3 : Int32) (x4 : Int32) (x5 : Int32) (s0 : Int32) (s1 : Int32) : Option (Int32) :=
  k7 (s1 + s0) (if x5 = 0 then x3 else x4) (x4 + 1)
def f6_way_j34 (k7 : Int32 → Int32 → Int32 → Option (Int32)) (x0 : Int32) (x1 : Int32) (x2 : Int32) (x3 : Int32) (x4 : Int32) (s0 : Int32) : Option (Int32) :=
  f6_way_j47 k7 x0 x1 x3 x4 s0 (if s0 = 0 then (0 : Int32) else (1 : Int32)) x2
def f6_way_j122 (s0 : Int32) : Option (Int32) :=
  some ((if s0 = 0 then (-1 : Int32) else (1 : Int32)))
def f6_way_j121  : Option (Int32) :=
  f6_way_j122 (0 : Int32)
def f6_way_l7 (x0 : Int32) (x1 : Int32) : Nat → Int32 → Int32 → Int32 → Option (Int32)
  | 0, _, _, _ => none
  | n + 1, x2, x3, x4 =>
    if (6 : Int32) ≤ x4 then
      if (2 : Int32) ≤ x2 then
        if x2 = (2 : Int32) then
          bd1 (f6_digit x0 x3) (fun q5 =>
            bd1 (f6_digit x1 (x3 - (1 : Int32))) (fun q7 =>
              if q5 = q7 then
                bd1 (f6_digit x0 (x3 - (1 : Int32))) (fun q10 =>
                  bd1 (f6_digit x1 x3) (fun q12 =>
                    if q10 = q12 then
                      f6_way_j122 (1 : Int32)
                    else
                      f6_way_j121))
              else
                f6_way_j121))
        else
          f6_way_j121
      else
        some ((if x2 = 0 then (3 : Int32) else (0 : Int32)))
    else
      bd1 (f6_digit x0 x4) (fun q16 =>
        bd1 (f6_digit x1 x4) (fun q18 =>
          f6_way_j34 (f6_way_l7 x0 x1 n) x0 x1 x2 x3 x4 (if q16 = q18 then (0 : Int32) else (1 : Int32))))
def f6_way (x0 : Int32) (x1 : Int32) : Option (Int32) :=
  f6_way_l7 x0 x1 fu (0 : Int32) (0 : Int32) (0 : Int32)
def f6_lays_l3 (nG : Nat) (nH : Nat) (gA : Nat → Int32) (x1 : Int32) (x3 : Int32) : Nat → Int32 → (Nat → Int32) → Option ((Nat → Int32))
  | 0, _, _ => none
  | n + 1, x4, gB =>
    if (501 : Int32) ≤ x4 then
      some (gB)
    else
      if inb (x1 + x4) nG then
        if inb (x3 + x4) nH then
          (f6_lays_l3 nG nH gA x1 x3 n) (x4 + 1) (upd gB (x3 + x4).toNatClampNeg (gA (x1 + x4).toNatClampNeg))
        else none
      else none
def f6_lays (nG : Nat) (nH : Nat) (gA : Nat → Int32) (gB : Nat → Int32) (x1 : Int32) (x3 : Int32) : Option ((Nat → Int32)) :=
  f6_lays_l3 nG nH gA x1 x3 fu (0 : Int32) gB
def f6_thrown (mt : Int32) : Option (Int32) :=
  some (mt)
def f6_refuses (mt : Int32) (x1 : Int32) : Option (Int32 × Int32) :=
  some ((0 : Int32), x1)
def f6_saves_j50 (ms : Int32) (mN : Nat → Int32) (mP : Nat → Int32) : Option (Int32 × (Nat → Int32)) :=
  bd1 (f6_lays 501 3006 mN mP (0 : Int32) ((501 : Int32) * ms)) (fun u3 =>
    some ((ms + (1 : Int32)), u3))
def f6_saves_l11 (mN : Nat → Int32) : Nat → Int32 → Int32 → (Nat → Int32) → Option (Int32 × (Nat → Int32))
  | 0, _, _, _ => none
  | n + 1, x1, ms, mP =>
    if (2505 : Int32) ≤ x1 then
      f6_saves_j50 (ms - (1 : Int32)) mN mP
    else
      if inb (x1 + (501 : Int32)) 3006 then
        if inb x1 3006 then
          (f6_saves_l11 mN n) (x1 + 1) ms (upd mP x1.toNatClampNeg (mP (x1 + (501 : Int32)).toNatClampNeg))
        else none
      else none
def f6_saves (ms : Int32) (mN : Nat → Int32) (mP : Nat → Int32) : Option (Int32 × (Nat → Int32)) :=
  if ms = (6 : Int32) then
    f6_saves_l11 mN fu (0 : Int32) ms mP
  else
    f6_saves_j50 ms mN mP
def f6_letterOf_l4 (mN : Nat → Int32) (x1 : Int32) : Nat → Int32 → Int32 → Option (Int32)
  | 0, _, _ => none
  | n + 1, x2, x3 =>
    if (6 : Int32) ≤ x3 then
      if ¬ (mN (1 : Int32).toNatClampNeg) = 0 then
        some ((x2 - x2 / (mN (1 : Int32).toNatClampNeg) * (mN (1 : Int32).toNatClampNeg)))
      else none
    else
      if inb ((3 : Int32) + x3) 501 then
        bd1 (f6_digit x1 x3) (fun q5 =>
          lt_ (x2 + ((mN ((3 : Int32) + x3).toNatClampNeg) * q5)) (fun t6 =>
            (f6_letterOf_l4 mN x1 n) t6 (x3 + 1)))
      else none
def f6_letterOf (mN : Nat → Int32) (x1 : Int32) : Option (Int32) :=
  f6_letterOf_l4 mN x1 fu (0 : Int32) (0 : Int32)
def f6_firstOf (mN : Nat → Int32) (x1 : Int32) : Option (Int32) :=
  if inb ((9 : Int32) + ((2 : Int32) * x1)) 501 then
    some ((mN ((9 : Int32) + ((2 : Int32) * x1)).toNatClampNeg))
  else none
def f6_countOf (mN : Nat → Int32) (x1 : Int32) : Option (Int32) :=
  if inb (((9 : Int32) + ((2 : Int32) * x1)) + (1 : Int32)) 501 then
    some ((mN (((9 : Int32) + ((2 : Int32) * x1)) + (1 : Int32)).toNatClampNeg))
  else none
def f6_spotOf_l4 (mN : Nat → Int32) (x1 : Int32) : Nat → Int32 → Int32 → Option (Int32)
  | 0, _, _ => none
  | n + 1, x2, x3 =>
    if (mN (0 : Int32).toNatClampNeg) ≤ x3 then
      some (x2)
    else
      bd1 (f6_firstOf mN x3) (fun q3 =>
        bd1 (f6_firstOf mN x3) (fun q5 =>
          bd1 (f6_countOf mN x3) (fun q7 =>
            bd1 (f6_in x1 q3 ((q5 + q7) - (1 : Int32))) (fun q9 =>
              if q9 = 0 then
                (f6_spotOf_l4 mN x1 n) x2 (x3 + 1)
              else
                bd1 (f6_firstOf mN x3) (fun q12 =>
                  (f6_spotOf_l4 mN x1 n) ((((40 : Int32) * x3) + x1) - q12) (x3 + 1))))))
def f6_spotOf (mN : Nat → Int32) (x1 : Int32) : Option (Int32) :=
  f6_spotOf_l4 mN x1 fu (-1 : Int32) (0 : Int32)
def f6_serialAt (mN : Nat → Int32) (x1 : Int32) : Option (Int32) :=
  bd1 (f6_firstOf mN (x1 / (40 : Int32))) (fun q2 =>
    some ((q2 + (x1 - x1 / (40 : Int32) * (40 : Int32)))))
def f6_isCheque (mN : Nat → Int32) (x1 : Int32) : Option (Int32) :=
  bd1 (f6_countOf mN (x1 / (40 : Int32))) (fun q2 =>
    some ((if q2 ≤ (x1 - x1 / (40 : Int32) * (40 : Int32)) then (0 : Int32) else (1 : Int32))))
def f6_isTaken_j49 (k5 : Int32 → Int32 → Option (Int32)) (mN : Nat → Int32) (x1 : Int32) (x2 : Int32) (x4 : Int32) : Option (Int32) :=
  k5 (1 : Int32) (x4 + 1)
def f6_isTaken_j53 (k5 : Int32 → Int32 → Option (Int32)) (mN : Nat → Int32) (x1 : Int32) (x2 : Int32) (x4 : Int32) : Option (Int32) :=
  k5 (0 : Int32) (x4 + 1)
def f6_isTaken_l5 (mN : Nat → Int32) (x1 : Int32) (x2 : Int32) : Nat → Int32 → Int32 → Option (Int32)
  | 0, _, _ => none
  | n + 1, x3, x4 =>
    if (mN (0 : Int32).toNatClampNeg) ≤ x4 then
      if isZ x3 then
        some (x3)
      else none
    else
      if x3 = 0 then
        bd1 (f6_firstOf mN x4) (fun q4 =>
          bd1 (f6_countOf mN x4) (fun q6 =>
            if (q4 + q6) ≤ x1 then
              f6_isTaken_j53 (f6_isTaken_l5 mN x1 x2 n) mN x1 x2 x4
            else
              bd1 (f6_firstOf mN x4) (fun q9 =>
                if (x1 + x2) ≤ q9 then
                  f6_isTaken_j53 (f6_isTaken_l5 mN x1 x2 n) mN x1 x2 x4
                else
                  f6_isTaken_j49 (f6_isTaken_l5 mN x1 x2 n) mN x1 x2 x4)))
      else
        f6_isTaken_j49 (f6_isTaken_l5 mN x1 x2 n) mN x1 x2 x4
def f6_isTaken (mN : Nat → Int32) (x1 : Int32) (x2 : Int32) : Option (Int32) :=
  f6_isTaken_l5 mN x1 x2 fu (0 : Int32) (0 : Int32)
def f6_canBook (mN : Nat → Int32) (x1 : Int32) (x2 : Int32) : Option (Int32) :=
  if (6 : Int32) ≤ (mN (0 : Int32).toNatClampNeg) then
    some ((0 : Int32))
  else
    bd1 (f6_isTaken mN x1 x2) (fun q3 =>
      some ((if q3 = 0 then (1 : Int32) else (0 : Int32))))
def f6_books_l39 (x3 : Int32) : Nat → Int32 → (Nat → Int32) → Option (Int32 × (Nat → Int32))
  | 0, _, _ => none
  | n + 1, x4, mN =>
    if ((40 : Int32) * (x3 + (1 : Int32))) ≤ x4 then
      some (x3, (upd mN (0 : Int32).toNatClampNeg ((mN (0 : Int32).toNatClampNeg) + (1 : Int32))))
    else
      if inb ((21 : Int32) + x4) 501 then
        if inb ((261 : Int32) + x4) 501 then
          (f6_books_l39 x3 n) (x4 + 1) (upd (upd mN ((21 : Int32) + x4).toNatClampNeg (0 : Int32)) ((261 : Int32) + x4).toNatClampNeg (0 : Int32))
        else none
      else none
def f6_books (mN : Nat → Int32) (x1 : Int32) (x2 : Int32) : Option (Int32 × (Nat → Int32)) :=
  if inb ((9 : Int32) + ((2 : Int32) * (mN (0 : Int32).toNatClampNeg))) 501 then
    if inb (((9 : Int32) + ((2 : Int32) * (mN (0 : Int32).toNatClampNeg))) + (1 : Int32)) 501 then
      f6_books_l39 (mN (0 : Int32).toNatClampNeg) fu ((40 : Int32) * (mN (0 : Int32).toNatClampNeg)) (upd (upd mN ((9 : Int32) + ((2 : Int32) * (mN (0 : Int32).toNatClampNeg))).toNatClampNeg x1) (((9 : Int32) + ((2 : Int32) * (mN (0 : Int32).toNatClampNeg))) + (1 : Int32)).toNatClampNeg x2)
    else none
  else none
def f6_writes (mN : Nat → Int32) (x1 : Int32) (x2 : Int32) : Option ((Nat → Int32)) :=
  if inb ((21 : Int32) + x1) 501 then
    if inb ((261 : Int32) + x1) 501 then
      some ((upd (upd mN ((21 : Int32) + x1).toNatClampNeg (1 : Int32)) ((261 : Int32) + x1).toNatClampNeg x2))
    else none
  else none
def f6_cashes_j46 (mN : Nat → Int32) (x3 : Int32) (s0 : Int32) : Option (Int32 × (Nat → Int32)) :=
  if s0 ≤ 0 then
    if inb ((21 : Int32) + x3) 501 then
      if inb ((261 : Int32) + x3) 501 then
        some (((upd mN ((21 : Int32) + x3).toNatClampNeg (2 : Int32)) ((261 : Int32) + x3).toNatClampNeg), (upd mN ((21 : Int32) + x3).toNatClampNeg (2 : Int32)))
      else none
    else none
  else
    some ((-s0), (upd mN (2 : Int32).toNatClampNeg ((mN (2 : Int32).toNatClampNeg) + (1 : Int32))))
def f6_cashes (mN : Nat → Int32) (x1 : Int32) (x2 : Int32) : Option (Int32 × (Nat → Int32)) :=
  bd1 (f6_spotOf mN x1) (fun q2 =>
    bd1 (f6_letterOf mN x1) (fun q4 =>
      if x2 = q4 then
        if q2 = (-1 : Int32) then
          f6_cashes_j46 mN q2 (2 : Int32)
        else
          if inb ((21 : Int32) + q2) 501 then
            f6_cashes_j46 mN q2 (if (mN ((21 : Int32) + q2).toNatClampNeg) = (1 : Int32) then (0 : Int32) else (3 : Int32))
          else none
      else
        f6_cashes_j46 mN q2 (1 : Int32)))
def f6_voids_j134 (k5 : Int32 → Int32 → (Nat → Int32) → Option (Int32 × (Nat → Int32))) (mN : Nat → Int32) (x1 : Int32) (x2 : Int32) (x4 : Int32) (s0 : Int32) (s1 : Int32) : Option (Int32 × (Nat → Int32)) :=
  k5 (s1 + s0) (x4 + 1) mN
def f6_voids_j122 (k5 : Int32 → Int32 → (Nat → Int32) → Option (Int32 × (Nat → Int32))) (mN : Nat → Int32) (x1 : Int32) (x2 : Int32) (x3 : Int32) (x4 : Int32) (x5 : Int32) (s0 : Int32) (s1 : Int32) : Option (Int32 × (Nat → Int32)) :=
  if inb s1 501 then
    f6_voids_j134 k5 (upd mN s1.toNatClampNeg s0) x1 x2 x4 (if x5 = 0 then (0 : Int32) else (1 : Int32)) x3
  else none
def f6_voids_j91 (k5 : Int32 → Int32 → (Nat → Int32) → Option (Int32 × (Nat → Int32))) (mN : Nat → Int32) (x1 : Int32) (x2 : Int32) (x3 : Int32) (x4 : Int32) (x5 : Int32) (s0 : Int32) (s1 : Int32) : Option (Int32 × (Nat → Int32)) :=
  if inb s1 501 then
    if x5 = 0 then
      if inb ((261 : Int32) + x4) 501 then
        f6_voids_j122 k5 (upd mN s1.toNatClampNeg s0) x1 x2 x3 x4 x5 ((upd mN s1.toNatClampNeg s0) ((261 : Int32) + x4).toNatClampNeg) ((261 : Int32) + x4)
      else none
    else
      f6_voids_j122 k5 (upd mN s1.toNatClampNeg s0) x1 x2 x3 x4 x5 (0 : Int32) ((261 : Int32) + x4)
  else none
def f6_voids_j61 (k5 : Int32 → Int32 → (Nat → Int32) → Option (Int32 × (Nat → Int32))) (mN : Nat → Int32) (x1 : Int32) (x2 : Int32) (x3 : Int32) (x4 : Int32) (s0 : Int32) : Option (Int32 × (Nat → Int32)) :=
  if s0 = 0 then
    if inb ((21 : Int32) + x4) 501 then
      f6_voids_j91 k5 mN x1 x2 x3 x4 s0 (mN ((21 : Int32) + x4).toNatClampNeg) ((21 : Int32) + x4)
    else none
  else
    f6_voids_j91 k5 mN x1 x2 x3 x4 s0 (3 : Int32) ((21 : Int32) + x4)
def f6_voids_j60 (k5 : Int32 → Int32 → (Nat → Int32) → Option (Int32 × (Nat → Int32))) (mN : Nat → Int32) (x1 : Int32) (x2 : Int32) (x3 : Int32) (x4 : Int32) : Option (Int32 × (Nat → Int32)) :=
  f6_voids_j61 k5 mN x1 x2 x3 x4 (0 : Int32)
def f6_voids_l5 (x1 : Int32) (x2 : Int32) : Nat → Int32 → Int32 → (Nat → Int32) → Option (Int32 × (Nat → Int32))
  | 0, _, _, _ => none
  | n + 1, x3, x4, mN =>
    if ((40 : Int32) * (mN (0 : Int32).toNatClampNeg)) ≤ x4 then
      some (x3, mN)
    else
      bd1 (f6_isCheque mN x4) (fun q3 =>
        if q3 = 0 then
          f6_voids_j60 (f6_voids_l5 x1 x2 n) mN x1 x2 x3 x4
        else
          bd1 (f6_serialAt mN x4) (fun q6 =>
            bd1 (f6_in q6 x1 x2) (fun q8 =>
              if q8 = 0 then
                f6_voids_j60 (f6_voids_l5 x1 x2 n) mN x1 x2 x3 x4
              else
                if inb ((21 : Int32) + x4) 501 then
                  if (2 : Int32) ≤ (mN ((21 : Int32) + x4).toNatClampNeg) then
                    f6_voids_j60 (f6_voids_l5 x1 x2 n) mN x1 x2 x3 x4
                  else
                    f6_voids_j61 (f6_voids_l5 x1 x2 n) mN x1 x2 x3 x4 (1 : Int32)
                else none)))
def f6_voids (mN : Nat → Int32) (x1 : Int32) (x2 : Int32) : Option (Int32 × (Nat → Int32)) :=
  f6_voids_l5 x1 x2 fu (0 : Int32) (0 : Int32) mN
def f6_weight (ms : Int32) (mt : Int32) (mN : Nat → Int32) (mP : Nat → Int32) (x1 : Int32) (x2 : Int32) : Option (Int32 × Int32 × Int32 × (Nat → Int32) × (Nat → Int32)) :=
  bd1 (f6_in x1 (0 : Int32) (5 : Int32)) (fun q2 =>
    if q2 = 0 then
      bd2 (f6_refuses (0 : Int32) (1 : Int32)) (fun q16 u17 =>
        some (q16, ms, u17, mN, mP))
    else
      bd1 (f6_in x2 (1 : Int32) (9 : Int32)) (fun q5 =>
        if q5 = 0 then
          bd2 (f6_refuses (0 : Int32) (2 : Int32)) (fun q13 u14 =>
            some (q13, ms, u14, mN, mP))
        else
          bd2 (f6_saves ms mN mP) (fun u8 u9 =>
            if inb ((3 : Int32) + x1) 501 then
              if inb ((3 : Int32) + x1) 501 then
                some ((mN ((3 : Int32) + x1).toNatClampNeg), u8, (0 : Int32), (upd mN ((3 : Int32) + x1).toNatClampNeg x2), u9)
              else none
            else none)))
def f6_modulus (ms : Int32) (mt : Int32) (mN : Nat → Int32) (mP : Nat → Int32) (x1 : Int32) : Option (Int32 × Int32 × Int32 × (Nat → Int32) × (Nat → Int32)) :=
  bd1 (f6_in x1 (7 : Int32) (26 : Int32)) (fun q2 =>
    if q2 = 0 then
      bd2 (f6_refuses (0 : Int32) (1 : Int32)) (fun q8 u9 =>
        some (q8, ms, u9, mN, mP))
    else
      bd2 (f6_saves ms mN mP) (fun u5 u6 =>
        some ((mN (1 : Int32).toNatClampNeg), u5, (0 : Int32), (upd mN (1 : Int32).toNatClampNeg x1), u6)))
def f6_book (ms : Int32) (mt : Int32) (mN : Nat → Int32) (mP : Nat → Int32) (x1 : Int32) (x2 : Int32) : Option (Int32 × Int32 × Int32 × (Nat → Int32) × (Nat → Int32)) :=
  bd1 (f6_isSerial x1) (fun q2 =>
    if q2 = 0 then
      bd2 (f6_refuses (0 : Int32) (1 : Int32)) (fun q29 u30 =>
        some (q29, ms, u30, mN, mP))
    else
      bd1 (f6_in x2 (1 : Int32) (40 : Int32)) (fun q5 =>
        if q5 = 0 then
          bd2 (f6_refuses (0 : Int32) (2 : Int32)) (fun q26 u27 =>
            some (q26, ms, u27, mN, mP))
        else
          bd1 (f6_isSerial ((x1 + x2) - (1 : Int32))) (fun q8 =>
            if q8 = 0 then
              bd2 (f6_refuses (0 : Int32) (1 : Int32)) (fun q23 u24 =>
                some (q23, ms, u24, mN, mP))
            else
              bd1 (f6_canBook mN x1 x2) (fun q11 =>
                if q11 = 0 then
                  bd2 (f6_refuses (0 : Int32) (3 : Int32)) (fun q20 u21 =>
                    some (q20, ms, u21, mN, mP))
                else
                  bd2 (f6_saves ms mN mP) (fun u14 u15 =>
                    bd2 (f6_books mN x1 x2) (fun q17 u18 =>
                      some (q17, u14, (0 : Int32), u18, u15)))))))
def f6_write (ms : Int32) (mt : Int32) (mN : Nat → Int32) (mP : Nat → Int32) (x1 : Int32) (x2 : Int32) : Option (Int32 × Int32 × Int32 × (Nat → Int32) × (Nat → Int32)) :=
  bd1 (f6_spotOf mN x1) (fun q2 =>
    if q2 = (-1 : Int32) then
      bd2 (f6_refuses (0 : Int32) (1 : Int32)) (fun q23 u24 =>
        some (q23, ms, u24, mN, mP))
    else
      bd1 (f6_in x2 (1 : Int32) (999 : Int32)) (fun q5 =>
        if q5 = 0 then
          bd2 (f6_refuses (0 : Int32) (2 : Int32)) (fun q20 u21 =>
            some (q20, ms, u21, mN, mP))
        else
          if inb ((21 : Int32) + q2) 501 then
            if (mN ((21 : Int32) + q2).toNatClampNeg) = 0 then
              bd2 (f6_saves ms mN mP) (fun u10 u11 =>
                bd1 (f6_writes mN q2 x2) (fun u13 =>
                  bd1 (f6_letterOf u13 x1) (fun q15 =>
                    some (q15, u10, (0 : Int32), u13, u11))))
            else
              bd2 (f6_refuses (0 : Int32) (3 : Int32)) (fun q17 u18 =>
                some (q17, ms, u18, mN, mP))
          else none))
def f6_cash (ms : Int32) (mt : Int32) (mN : Nat → Int32) (mP : Nat → Int32) (x1 : Int32) (x2 : Int32) : Option (Int32 × Int32 × Int32 × (Nat → Int32) × (Nat → Int32)) :=
  bd1 (f6_isSerial x1) (fun q2 =>
    if q2 = 0 then
      bd2 (f6_refuses (0 : Int32) (1 : Int32)) (fun q17 u18 =>
        some (q17, ms, u18, mN, mP))
    else
      bd1 (f6_isLetter x2) (fun q5 =>
        if q5 = 0 then
          bd2 (f6_refuses (0 : Int32) (2 : Int32)) (fun q14 u15 =>
            some (q14, ms, u15, mN, mP))
        else
          bd2 (f6_saves ms mN mP) (fun u8 u9 =>
            bd2 (f6_cashes mN x1 x2) (fun q11 u12 =>
              some (q11, u8, (0 : Int32), u12, u9)))))
def f6_voidRun_j19 (ms : Int32) (mt : Int32) (mN : Nat → Int32) (mP : Nat → Int32) : Option (Int32 × Int32 × Int32 × (Nat → Int32) × (Nat → Int32)) :=
  bd2 (f6_refuses mt (1 : Int32)) (fun q18 u19 =>
    some (q18, ms, u19, mN, mP))
def f6_voidRun (ms : Int32) (mt : Int32) (mN : Nat → Int32) (mP : Nat → Int32) (x1 : Int32) (x2 : Int32) : Option (Int32 × Int32 × Int32 × (Nat → Int32) × (Nat → Int32)) :=
  bd1 (f6_isSerial x1) (fun q2 =>
    if q2 = 0 then
      f6_voidRun_j19 ms (0 : Int32) mN mP
    else
      bd1 (f6_isSerial x2) (fun q5 =>
        if q5 = 0 then
          f6_voidRun_j19 ms (0 : Int32) mN mP
        else
          if x1 ≤ x2 then
            bd2 (f6_saves ms mN mP) (fun u9 u10 =>
              bd2 (f6_voids mN x1 x2) (fun q12 u13 =>
                some (q12, u9, (0 : Int32), u13, u10)))
          else
            bd2 (f6_refuses (0 : Int32) (2 : Int32)) (fun q15 u16 =>
              some (q15, ms, u16, mN, mP))))
def f6_append (ml : Int32) (mt : Int32) (mT : Nat → Int32) (x1 : Int32) : Option (Int32 × Int32 × Int32 × (Nat → Int32)) :=
  bd1 (f6_in x1 (33 : Int32) (126 : Int32)) (fun q2 =>
    if q2 = 0 then
      bd2 (f6_refuses (0 : Int32) (1 : Int32)) (fun q10 u11 =>
        some (q10, ml, u11, mT))
    else
      if ml = (60 : Int32) then
        bd2 (f6_refuses (0 : Int32) (2 : Int32)) (fun q7 u8 =>
          some (q7, ml, u8, mT))
      else
        if inb ml 60 then
          some ((ml + (1 : Int32)), (ml + (1 : Int32)), (0 : Int32), (upd mT ml.toNatClampNeg x1))
        else none)
def f6_clearBuffer (ml : Int32) (mt : Int32) : Option (Int32 × Int32 × Int32) :=
  some (ml, (0 : Int32), (0 : Int32))
def f6_sees (ml : Int32) (mq : Int32) (mT : Nat → Int32) (x1 : Int32) (x2 : Int32) : Option (Int32) :=
  if ml ≤ mq then
    some ((0 : Int32))
  else
    if inb mq 60 then
      bd1 (f6_in (mT mq.toNatClampNeg) x1 x2) (fun q4 =>
        some ((if q4 = 0 then (0 : Int32) else (1 : Int32))))
    else none
def f6_takes_j21 (ml : Int32) (mq : Int32) (mT : Nat → Int32) (x2 : Int32) (s0 : Int32) (s1 : Int32) : Option (Int32 × Int32) :=
  if isZ x2 then
    some (x2, (s1 + s0))
  else none
def f6_takes (ml : Int32) (mq : Int32) (mT : Nat → Int32) (x1 : Int32) : Option (Int32 × Int32) :=
  bd1 (f6_sees ml mq mT x1 x1) (fun q2 =>
    f6_takes_j21 ml mq mT q2 (if q2 = 0 then (0 : Int32) else (1 : Int32)) mq)
def f6_isSix_l4 (ml : Int32) (mu : Int32) (mT : Nat → Int32) (x1 : Int32) : Nat → Int32 → Int32 → Int32 → (Nat → Int32) → Option (Int32 × Int32 × (Nat → Int32))
  | 0, _, _, _, _ => none
  | n + 1, x2, x3, mq, mD =>
    if (6 : Int32) ≤ x3 then
      if inb (((3 : Int32) * mu) + x1) 24 then
        some ((1 : Int32), mq, (upd mD (((3 : Int32) * mu) + x1).toNatClampNeg x2))
      else none
    else
      bd1 (f6_sees ml mq mT (48 : Int32) (57 : Int32)) (fun q4 =>
        if q4 = 0 then
          some ((0 : Int32), mq, mD)
        else
          if inb mq 60 then
            lt_ ((((10 : Int32) * x2) + (mT mq.toNatClampNeg)) - (48 : Int32)) (fun t7 =>
              (f6_isSix_l4 ml mu mT x1 n) t7 (x3 + 1) (mq + (1 : Int32)) mD)
          else none)
def f6_isSix (ml : Int32) (mq : Int32) (mu : Int32) (mT : Nat → Int32) (mD : Nat → Int32) (x1 : Int32) : Option (Int32 × Int32 × (Nat → Int32)) :=
  f6_isSix_l4 ml mu mT x1 fu (0 : Int32) (0 : Int32) mq mD
def f6_isNumber_j78 (ml : Int32) (mq : Int32) (mu : Int32) (mT : Nat → Int32) (mD : Nat → Int32) (x2 : Int32) : Option (Int32 × Int32 × (Nat → Int32)) :=
  if inb (((3 : Int32) * mu) + (2 : Int32)) 24 then
    some ((1 : Int32), mq, (upd mD (((3 : Int32) * mu) + (2 : Int32)).toNatClampNeg x2))
  else none
def f6_isNumber_l15 (ml : Int32) (mu : Int32) (mT : Nat → Int32) (x1 : Int32) : Nat → Int32 → Int32 → (Nat → Int32) → Option (Int32 × Int32 × (Nat → Int32))
  | 0, _, _, _ => none
  | n + 1, x2, mq, mD =>
    bd1 (f6_sees ml mq mT (48 : Int32) (57 : Int32)) (fun q5 =>
      if q5 = 0 then
        f6_isNumber_j78 ml mq mu mT mD x2
      else
        if inb mq 60 then
          if x1 < ((((10 : Int32) * x2) + (mT mq.toNatClampNeg)) - (48 : Int32)) then
            f6_isNumber_j78 ml mq mu mT mD x2
          else
            if inb mq 60 then
              lt_ ((((10 : Int32) * x2) + (mT mq.toNatClampNeg)) - (48 : Int32)) (fun t10 =>
                (f6_isNumber_l15 ml mu mT x1 n) t10 (mq + (1 : Int32)) mD)
            else none
        else none)
def f6_isNumber (ml : Int32) (mq : Int32) (mu : Int32) (mT : Nat → Int32) (mD : Nat → Int32) (x1 : Int32) : Option (Int32 × Int32 × (Nat → Int32)) :=
  bd1 (f6_sees ml mq mT (49 : Int32) (57 : Int32)) (fun q2 =>
    if q2 = 0 then
      some ((0 : Int32), mq, mD)
    else
      f6_isNumber_l15 ml mu mT x1 fu (0 : Int32) mq mD)
def f6_isSign (ml : Int32) (mq : Int32) (mu : Int32) (mT : Nat → Int32) (mD : Nat → Int32) : Option (Int32 × Int32 × (Nat → Int32)) :=
  bd1 (f6_sees ml mq mT (65 : Int32) (90 : Int32)) (fun q2 =>
    if q2 = 0 then
      some ((0 : Int32), mq, mD)
    else
      if inb mq 60 then
        if inb (((3 : Int32) * mu) + (2 : Int32)) 24 then
          some ((1 : Int32), (mq + (1 : Int32)), (upd mD (((3 : Int32) * mu) + (2 : Int32)).toNatClampNeg ((mT mq.toNatClampNeg) - (65 : Int32))))
        else none
      else none)
def f6_isOrder_j24 (ml : Int32) (mq : Int32) (mu : Int32) (mT : Nat → Int32) (mD : Nat → Int32) : Option (Int32 × Int32 × (Nat → Int32)) :=
  if inb mq 60 then
    if inb ((3 : Int32) * mu) 24 then
      bd3 (f6_isSix ml (mq + (1 : Int32)) mu mT (upd mD ((3 : Int32) * mu).toNatClampNeg (mT mq.toNatClampNeg)) (1 : Int32)) (fun q10 u11 u12 =>
        if q10 = 0 then
          some ((0 : Int32), u11, u12)
        else
          if (mT mq.toNatClampNeg) = (98 : Int32) then
            bd2 (f6_takes ml u11 mT (43 : Int32)) (fun q40 u41 =>
              if q40 = 0 then
                some ((0 : Int32), u41, u12)
              else
                bd3 (f6_isNumber ml u41 mu mT u12 (40 : Int32)) (fun q44 u45 u46 =>
                  some ((if q44 = 0 then (0 : Int32) else (1 : Int32)), u45, u46)))
          else
            if (mT mq.toNatClampNeg) = (119 : Int32) then
              bd2 (f6_takes ml u11 mT (61 : Int32)) (fun q31 u32 =>
                if q31 = 0 then
                  some ((0 : Int32), u32, u12)
                else
                  bd3 (f6_isNumber ml u32 mu mT u12 (999 : Int32)) (fun q35 u36 u37 =>
                    some ((if q35 = 0 then (0 : Int32) else (1 : Int32)), u36, u37)))
            else
              if (mT mq.toNatClampNeg) = (99 : Int32) then
                bd3 (f6_isSign ml u11 mu mT u12) (fun q27 u28 u29 =>
                  if isZ q27 then
                    some (q27, u28, u29)
                  else none)
              else
                bd2 (f6_takes ml u11 mT (45 : Int32)) (fun q18 u19 =>
                  if q18 = 0 then
                    some ((0 : Int32), u19, u12)
                  else
                    bd3 (f6_isSix ml u19 mu mT u12 (2 : Int32)) (fun q22 u23 u24 =>
                      some ((if q22 = 0 then (0 : Int32) else (1 : Int32)), u23, u24))))
    else none
  else none
def f6_isOrder (ml : Int32) (mq : Int32) (mu : Int32) (mT : Nat → Int32) (mD : Nat → Int32) : Option (Int32 × Int32 × (Nat → Int32)) :=
  bd1 (f6_sees ml mq mT (98 : Int32) (99 : Int32)) (fun q2 =>
    if q2 = 0 then
      bd1 (f6_sees ml mq mT (118 : Int32) (119 : Int32)) (fun q5 =>
        if q5 = 0 then
          some ((0 : Int32), mq, mD)
        else
          f6_isOrder_j24 ml mq mu mT mD)
    else
      f6_isOrder_j24 ml mq mu mT mD)
def f6_isWhole_l12 (ml : Int32) (mT : Nat → Int32) : Nat → Int32 → Int32 → Int32 → (Nat → Int32) → Option (Int32 × Int32 × Int32 × (Nat → Int32))
  | 0, _, _, _, _ => none
  | n + 1, x1, mq, mu, mD =>
    if x1 = 0 then
      some ((if mq = ml then (1 : Int32) else (0 : Int32)), mq, mu, mD)
    else
      bd3 (f6_isOrder ml mq mu mT mD) (fun q4 u5 u6 =>
        if q4 = 0 then
          some ((0 : Int32), u5, mu, u6)
        else
          bd2 (f6_takes ml u5 mT (59 : Int32)) (fun q9 u10 =>
            (f6_isWhole_l12 ml mT n) q9 u10 (mu + (1 : Int32)) u6))
def f6_isWhole (ml : Int32) (mq : Int32) (mu : Int32) (mT : Nat → Int32) (mD : Nat → Int32) : Option (Int32 × Int32 × Int32 × (Nat → Int32)) :=
  f6_isWhole_l12 ml mT fu (1 : Int32) (0 : Int32) (0 : Int32) mD
def f6_firstError (ml : Int32) (mt : Int32) (mq : Int32) (mu : Int32) (mT : Nat → Int32) (mD : Nat → Int32) : Option (Int32 × Int32 × Int32 × Int32 × (Nat → Int32)) :=
  bd4 (f6_isWhole ml mq mu mT mD) (fun q2 u3 u4 u5 =>
    some ((if q2 = 0 then u3 else ml), (0 : Int32), u3, u4, u5))
def f6_isDone (mN : Nat → Int32) (mD : Nat → Int32) (x1 : Int32) : Option (Int32 × (Nat → Int32)) :=
  if inb ((3 : Int32) * x1) 24 then
    if inb (((3 : Int32) * x1) + (1 : Int32)) 24 then
      lt_ (mD (((3 : Int32) * x1) + (1 : Int32)).toNatClampNeg) (fun t3 =>
        if inb (((3 : Int32) * x1) + (2 : Int32)) 24 then
          lt_ (mD (((3 : Int32) * x1) + (2 : Int32)).toNatClampNeg) (fun t6 =>
            if (mD ((3 : Int32) * x1).toNatClampNeg) = (99 : Int32) then
              bd2 (f6_cashes mN t3 t6) (fun q34 u35 =>
                some ((if q34 ≤ 0 then (0 : Int32) else (1 : Int32)), u35))
            else
              if (mD ((3 : Int32) * x1).toNatClampNeg) = (98 : Int32) then
                bd1 (f6_isSerial ((t3 + t6) - (1 : Int32))) (fun q24 =>
                  if q24 = 0 then
                    some ((0 : Int32), mN)
                  else
                    bd1 (f6_canBook mN t3 t6) (fun q27 =>
                      if q27 = 0 then
                        some ((0 : Int32), mN)
                      else
                        bd2 (f6_books mN t3 t6) (fun q30 u31 =>
                          some ((if q30 < 0 then (0 : Int32) else (1 : Int32)), u31))))
              else
                if (mD ((3 : Int32) * x1).toNatClampNeg) = (118 : Int32) then
                  if t6 < t3 then
                    some ((0 : Int32), mN)
                  else
                    bd2 (f6_voids mN t3 t6) (fun q20 u21 =>
                      some ((if q20 < 0 then (0 : Int32) else (1 : Int32)), u21))
                else
                  bd1 (f6_spotOf mN t3) (fun q12 =>
                    if q12 = (-1 : Int32) then
                      some ((0 : Int32), mN)
                    else
                      if inb ((21 : Int32) + q12) 501 then
                        if (mN ((21 : Int32) + q12).toNatClampNeg) = 0 then
                          bd1 (f6_writes mN q12 t6) (fun u17 =>
                            some ((1 : Int32), u17))
                        else
                          some ((0 : Int32), mN)
                      else none))
        else none)
    else none
  else none
def f6_execute_l29 (mT : Nat → Int32) : Nat → Int32 → Int32 → Int32 → Int32 → Int32 → Int32 → (Nat → Int32) → (Nat → Int32) → (Nat → Int32) → Option (Int32 × Int32 × Int32 × Int32 × Int32 × Int32 × (Nat → Int32) × (Nat → Int32) × (Nat → Int32))
  | 0, _, _, _, _, _, _, _, _, _ => none
  | n + 1, x1, ms, ml, mt, mq, mu, mN, mP, mD =>
    if mu ≤ x1 then
      some (x1, ms, ml, mt, mq, mu, mN, mP, mD)
    else
      bd2 (f6_isDone mN mD x1) (fun q15 u16 =>
        if q15 = 0 then
          some (x1, ms, ml, mt, mq, mu, u16, mP, mD)
        else
          (f6_execute_l29 mT n) (x1 + 1) ms ml mt mq mu u16 mP mD)
def f6_execute (ms : Int32) (ml : Int32) (mt : Int32) (mq : Int32) (mu : Int32) (mN : Nat → Int32) (mP : Nat → Int32) (mT : Nat → Int32) (mD : Nat → Int32) : Option (Int32 × Int32 × Int32 × Int32 × Int32 × Int32 × (Nat → Int32) × (Nat → Int32) × (Nat → Int32)) :=
  bd4 (f6_isWhole ml mq mu mT mD) (fun q2 u3 u4 u5 =>
    if q2 = 0 then
      bd2 (f6_refuses (0 : Int32) (1 : Int32)) (fun q11 u12 =>
        some (q11, ms, ml, u12, u3, u4, mN, mP, u5))
    else
      bd2 (f6_saves ms mN mP) (fun u8 u9 =>
        f6_execute_l29 mT fu (0 : Int32) u8 (0 : Int32) (0 : Int32) u3 u4 mN u9 u5))
def f6_undo (ms : Int32) (mt : Int32) (mN : Nat → Int32) (mP : Nat → Int32) : Option (Int32 × Int32 × Int32 × (Nat → Int32)) :=
  if ms = 0 then
    bd2 (f6_refuses (0 : Int32) (1 : Int32)) (fun q5 u6 =>
      some (q5, ms, u6, mN))
  else
    bd1 (f6_lays 3006 501 mP mN ((501 : Int32) * (ms - (1 : Int32))) (0 : Int32)) (fun u3 =>
      some ((ms - (1 : Int32)), (ms - (1 : Int32)), (0 : Int32), u3))
def f6_keep (mt : Int32) (mN : Nat → Int32) (mK : Nat → Int32) (mI : Nat → Int32) (x1 : Int32) : Option (Int32 × Int32 × (Nat → Int32) × (Nat → Int32)) :=
  bd1 (f6_in x1 (0 : Int32) (1 : Int32)) (fun q2 =>
    if q2 = 0 then
      bd2 (f6_refuses (0 : Int32) (1 : Int32)) (fun q8 u9 =>
        some (q8, u9, mK, mI))
    else
      bd1 (f6_lays 501 1002 mN mK (0 : Int32) ((501 : Int32) * x1)) (fun u5 =>
        if inb x1 2 then
          some ((mN (0 : Int32).toNatClampNeg), (0 : Int32), u5, (upd mI x1.toNatClampNeg (1 : Int32)))
        else none))
def f6_goBack (ms : Int32) (mt : Int32) (mN : Nat → Int32) (mP : Nat → Int32) (mK : Nat → Int32) (mI : Nat → Int32) (x1 : Int32) : Option (Int32 × Int32 × Int32 × (Nat → Int32) × (Nat → Int32)) :=
  bd1 (f6_in x1 (0 : Int32) (1 : Int32)) (fun q2 =>
    if q2 = 0 then
      bd2 (f6_refuses (0 : Int32) (1 : Int32)) (fun q15 u16 =>
        some (q15, ms, u16, mN, mP))
    else
      if inb x1 2 then
        if (mI x1.toNatClampNeg) = 0 then
          bd2 (f6_refuses (0 : Int32) (2 : Int32)) (fun q12 u13 =>
            some (q12, ms, u13, mN, mP))
        else
          bd2 (f6_saves ms mN mP) (fun u7 u8 =>
            bd1 (f6_lays 1002 501 mK mN ((501 : Int32) * x1) (0 : Int32)) (fun u10 =>
              some ((u10 (0 : Int32).toNatClampNeg), u7, (0 : Int32), u10, u8)))
      else none)
def f6_letter (mt : Int32) (mN : Nat → Int32) (x1 : Int32) : Option (Int32 × Int32) :=
  bd1 (f6_isSerial x1) (fun q2 =>
    if q2 = 0 then
      bd2 (f6_refuses (0 : Int32) (1 : Int32)) (fun q5 u6 =>
        some (q5, u6))
    else
      bd1 (f6_letterOf mN x1) (fun q8 =>
        some (q8, (0 : Int32))))
def f6_runFrom_l2 (mN : Nat → Int32) (x1 : Int32) : Nat → Int32 → Option (Int32)
  | 0, _ => none
  | n + 1, x2 =>
    bd1 (f6_countOf mN (x1 / (40 : Int32))) (fun q2 =>
      if q2 ≤ ((x1 - x1 / (40 : Int32) * (40 : Int32)) + x2) then
        some (x2)
      else
        if inb (((21 : Int32) + x1) + x2) 501 then
          if inb ((21 : Int32) + x1) 501 then
            if (mN (((21 : Int32) + x1) + x2).toNatClampNeg) = (mN ((21 : Int32) + x1).toNatClampNeg) then
              (f6_runFrom_l2 mN x1 n) (x2 + 1)
            else
              some (x2)
          else none
        else none)
def f6_runFrom (mN : Nat → Int32) (x1 : Int32) : Option (Int32) :=
  f6_runFrom_l2 mN x1 fu (0 : Int32)
def f6_aboutCheque (mN : Nat → Int32) (x1 : Int32) (x2 : Int32) : Option (Int32) :=
  if x2 = (0 : Int32) then
    if inb ((21 : Int32) + x1) 501 then
      some ((mN ((21 : Int32) + x1).toNatClampNeg))
    else none
  else
    if x2 = (1 : Int32) then
      if inb ((261 : Int32) + x1) 501 then
        some ((mN ((261 : Int32) + x1).toNatClampNeg))
      else none
    else
      if x2 = (2 : Int32) then
        some ((x1 / (40 : Int32)))
      else
        if x2 = (3 : Int32) then
          some ((x1 - x1 / (40 : Int32) * (40 : Int32)))
        else
          bd1 (f6_runFrom mN x1) (fun q8 =>
            some (q8))
def f6_cheque (mt : Int32) (mN : Nat → Int32) (x1 : Int32) (x2 : Int32) : Option (Int32 × Int32) :=
  bd1 (f6_spotOf mN x1) (fun q2 =>
    if q2 = (-1 : Int32) then
      bd2 (f6_refuses (0 : Int32) (1 : Int32)) (fun q13 u14 =>
        some (q13, u14))
    else
      bd1 (f6_in x2 (0 : Int32) (4 : Int32)) (fun q5 =>
        if q5 = 0 then
          bd2 (f6_refuses (0 : Int32) (2 : Int32)) (fun q8 u9 =>
            some (q8, u9))
        else
          bd1 (f6_aboutCheque mN q2 x2) (fun q11 =>
            some (q11, (0 : Int32)))))
def f6_ofKind_j42 (k6 : Int32 → Int32 → Option (Int32)) (mN : Nat → Int32) (x2 : Int32) (x3 : Int32) (x5 : Int32) (s0 : Int32) (s1 : Int32) : Option (Int32) :=
  k6 (s1 + s0) (x5 + 1)
def f6_ofKind_j41 (k6 : Int32 → Int32 → Option (Int32)) (mN : Nat → Int32) (x2 : Int32) (x3 : Int32) (x5 : Int32) (s0 : Int32) : Option (Int32) :=
  f6_ofKind_j42 k6 mN x2 x3 x5 (0 : Int32) s0
def f6_ofKind_l6 (mN : Nat → Int32) (x2 : Int32) (x3 : Int32) : Nat → Int32 → Int32 → Option (Int32)
  | 0, _, _ => none
  | n + 1, x4, x5 =>
    if x2 ≤ x5 then
      some (x4)
    else
      bd1 (f6_isCheque mN x5) (fun q3 =>
        if q3 = 0 then
          f6_ofKind_j41 (f6_ofKind_l6 mN x2 x3 n) mN x2 x3 x5 x4
        else
          if inb ((21 : Int32) + x5) 501 then
            if (mN ((21 : Int32) + x5).toNatClampNeg) = x3 then
              f6_ofKind_j42 (f6_ofKind_l6 mN x2 x3 n) mN x2 x3 x5 (1 : Int32) x4
            else
              f6_ofKind_j41 (f6_ofKind_l6 mN x2 x3 n) mN x2 x3 x5 x4
          else none)
def f6_ofKind (mN : Nat → Int32) (x1 : Int32) (x2 : Int32) (x3 : Int32) : Option (Int32) :=
  f6_ofKind_l6 mN x2 x3 fu (0 : Int32) x1
def f6_amounts_j52 (k6 : Int32 → Int32 → Option (Int32)) (mN : Nat → Int32) (x2 : Int32) (x3 : Int32) (x5 : Int32) (s0 : Int32) (s1 : Int32) : Option (Int32) :=
  k6 (s1 + s0) (x5 + 1)
def f6_amounts_j51 (k6 : Int32 → Int32 → Option (Int32)) (mN : Nat → Int32) (x2 : Int32) (x3 : Int32) (x5 : Int32) (s0 : Int32) : Option (Int32) :=
  f6_amounts_j52 k6 mN x2 x3 x5 (0 : Int32) s0
def f6_amounts_l6 (mN : Nat → Int32) (x2 : Int32) (x3 : Int32) : Nat → Int32 → Int32 → Option (Int32)
  | 0, _, _ => none
  | n + 1, x4, x5 =>
    if x2 ≤ x5 then
      some (x4)
    else
      bd1 (f6_isCheque mN x5) (fun q3 =>
        if q3 = 0 then
          f6_amounts_j51 (f6_amounts_l6 mN x2 x3 n) mN x2 x3 x5 x4
        else
          if inb ((21 : Int32) + x5) 501 then
            if (mN ((21 : Int32) + x5).toNatClampNeg) = x3 then
              if inb ((261 : Int32) + x5) 501 then
                f6_amounts_j52 (f6_amounts_l6 mN x2 x3 n) mN x2 x3 x5 (mN ((261 : Int32) + x5).toNatClampNeg) x4
              else none
            else
              f6_amounts_j51 (f6_amounts_l6 mN x2 x3 n) mN x2 x3 x5 x4
          else none)
def f6_amounts (mN : Nat → Int32) (x1 : Int32) (x2 : Int32) (x3 : Int32) : Option (Int32) :=
  f6_amounts_l6 mN x2 x3 fu (0 : Int32) x1
def f6_firstBlank_l5 (mN : Nat → Int32) (x1 : Int32) : Nat → Int32 → Option (Int32)
  | 0, _ => none
  | n + 1, x2 =>
    bd1 (f6_countOf mN x1) (fun q2 =>
      if (((40 : Int32) * x1) + q2) ≤ x2 then
        some ((-1 : Int32))
      else
        if inb ((21 : Int32) + x2) 501 then
          if (mN ((21 : Int32) + x2).toNatClampNeg) = 0 then
            bd1 (f6_serialAt mN x2) (fun q7 =>
              some (q7))
          else
            (f6_firstBlank_l5 mN x1 n) (x2 + 1)
        else none)
def f6_firstBlank (mN : Nat → Int32) (x1 : Int32) : Option (Int32) :=
  f6_firstBlank_l5 mN x1 fu ((40 : Int32) * x1)
def f6_aboutBook (mN : Nat → Int32) (x1 : Int32) (x2 : Int32) : Option (Int32) :=
  if x2 = (0 : Int32) then
    if inb (((9 : Int32) + ((2 : Int32) * x1)) + x2) 501 then
      some ((mN (((9 : Int32) + ((2 : Int32) * x1)) + x2).toNatClampNeg))
    else none
  else
    if x2 = (1 : Int32) then
      if inb (((9 : Int32) + ((2 : Int32) * x1)) + x2) 501 then
        some ((mN (((9 : Int32) + ((2 : Int32) * x1)) + x2).toNatClampNeg))
      else none
    else
      if x2 = (2 : Int32) then
        bd1 (f6_ofKind mN ((40 : Int32) * x1) (((40 : Int32) * x1) + (40 : Int32)) (x2 - (2 : Int32))) (fun q19 =>
          some (q19))
      else
        if x2 = (3 : Int32) then
          bd1 (f6_ofKind mN ((40 : Int32) * x1) (((40 : Int32) * x1) + (40 : Int32)) (x2 - (2 : Int32))) (fun q19 =>
            some (q19))
        else
          if x2 = (4 : Int32) then
            bd1 (f6_ofKind mN ((40 : Int32) * x1) (((40 : Int32) * x1) + (40 : Int32)) (x2 - (2 : Int32))) (fun q19 =>
              some (q19))
          else
            if x2 = (5 : Int32) then
              bd1 (f6_ofKind mN ((40 : Int32) * x1) (((40 : Int32) * x1) + (40 : Int32)) (x2 - (2 : Int32))) (fun q19 =>
                some (q19))
            else
              if x2 = (6 : Int32) then
                bd1 (f6_amounts mN ((40 : Int32) * x1) (((40 : Int32) * x1) + (40 : Int32)) (x2 - (5 : Int32))) (fun q11 =>
                  some (q11))
              else
                if x2 = (7 : Int32) then
                  bd1 (f6_amounts mN ((40 : Int32) * x1) (((40 : Int32) * x1) + (40 : Int32)) (x2 - (5 : Int32))) (fun q14 =>
                    some (q14))
                else
                  if x2 = (8 : Int32) then
                    bd1 (f6_firstBlank mN x1) (fun q17 =>
                      some (q17))
                  else
                    bd1 (f6_ofKind mN ((40 : Int32) * x1) (((40 : Int32) * x1) + (40 : Int32)) (x2 - (2 : Int32))) (fun q19 =>
                      some (q19))
def f6_bookOf (mt : Int32) (mN : Nat → Int32) (x1 : Int32) (x2 : Int32) : Option (Int32 × Int32) :=
  bd1 (f6_in x1 (0 : Int32) ((mN (0 : Int32).toNatClampNeg) - (1 : Int32))) (fun q2 =>
    if q2 = 0 then
      bd2 (f6_refuses (0 : Int32) (1 : Int32)) (fun q13 u14 =>
        some (q13, u14))
    else
      bd1 (f6_in x2 (0 : Int32) (8 : Int32)) (fun q5 =>
        if q5 = 0 then
          bd2 (f6_refuses (0 : Int32) (2 : Int32)) (fun q8 u9 =>
            some (q8, u9))
        else
          bd1 (f6_aboutBook mN x1 x2) (fun q11 =>
            some (q11, (0 : Int32)))))
def f6_cheques_l4 (mN : Nat → Int32) : Nat → Int32 → Int32 → Option (Int32)
  | 0, _, _ => none
  | n + 1, x1, x2 =>
    if (mN (0 : Int32).toNatClampNeg) ≤ x2 then
      some (x1)
    else
      bd1 (f6_countOf mN x2) (fun q3 =>
        (f6_cheques_l4 mN n) (x1 + q3) (x2 + 1))
def f6_cheques (mN : Nat → Int32) : Option (Int32) :=
  f6_cheques_l4 mN fu (0 : Int32) (0 : Int32)
def f6_counted (ms : Int32) (ml : Int32) (mN : Nat → Int32) (x1 : Int32) : Option (Int32) :=
  if x1 = (0 : Int32) then
    some ((mN (0 : Int32).toNatClampNeg))
  else
    if x1 = (1 : Int32) then
      bd1 (f6_cheques mN) (fun q4 =>
        some (q4))
    else
      if x1 = (2 : Int32) then
        if x1 ≤ (11 : Int32) then
          bd1 (f6_ofKind mN (0 : Int32) ((40 : Int32) * (mN (0 : Int32).toNatClampNeg)) (x1 - (2 : Int32))) (fun q21 =>
            some (q21))
        else
          if inb (((3 : Int32) + x1) - (12 : Int32)) 501 then
            some ((mN (((3 : Int32) + x1) - (12 : Int32)).toNatClampNeg))
          else none
      else
        if x1 = (3 : Int32) then
          if x1 ≤ (11 : Int32) then
            bd1 (f6_ofKind mN (0 : Int32) ((40 : Int32) * (mN (0 : Int32).toNatClampNeg)) (x1 - (2 : Int32))) (fun q21 =>
              some (q21))
          else
            if inb (((3 : Int32) + x1) - (12 : Int32)) 501 then
              some ((mN (((3 : Int32) + x1) - (12 : Int32)).toNatClampNeg))
            else none
        else
          if x1 = (4 : Int32) then
            if x1 ≤ (11 : Int32) then
              bd1 (f6_ofKind mN (0 : Int32) ((40 : Int32) * (mN (0 : Int32).toNatClampNeg)) (x1 - (2 : Int32))) (fun q21 =>
                some (q21))
            else
              if inb (((3 : Int32) + x1) - (12 : Int32)) 501 then
                some ((mN (((3 : Int32) + x1) - (12 : Int32)).toNatClampNeg))
              else none
          else
            if x1 = (5 : Int32) then
              if x1 ≤ (11 : Int32) then
                bd1 (f6_ofKind mN (0 : Int32) ((40 : Int32) * (mN (0 : Int32).toNatClampNeg)) (x1 - (2 : Int32))) (fun q21 =>
                  some (q21))
              else
                if inb (((3 : Int32) + x1) - (12 : Int32)) 501 then
                  some ((mN (((3 : Int32) + x1) - (12 : Int32)).toNatClampNeg))
                else none
            else
              if x1 = (6 : Int32) then
                bd1 (f6_amounts mN (0 : Int32) ((40 : Int32) * (mN (0 : Int32).toNatClampNeg)) (x1 - (5 : Int32))) (fun q11 =>
                  some (q11))
              else
                if x1 = (7 : Int32) then
                  bd1 (f6_amounts mN (0 : Int32) ((40 : Int32) * (mN (0 : Int32).toNatClampNeg)) (x1 - (5 : Int32))) (fun q14 =>
                    some (q14))
                else
                  if x1 = (8 : Int32) then
                    some ((mN (2 : Int32).toNatClampNeg))
                  else
                    if x1 = (9 : Int32) then
                      some ((mN (1 : Int32).toNatClampNeg))
                    else
                      if x1 = (10 : Int32) then
                        some (ms)
                      else
                        if x1 = (11 : Int32) then
                          some (ml)
                        else
                          if x1 ≤ (11 : Int32) then
                            bd1 (f6_ofKind mN (0 : Int32) ((40 : Int32) * (mN (0 : Int32).toNatClampNeg)) (x1 - (2 : Int32))) (fun q21 =>
                              some (q21))
                          else
                            if inb (((3 : Int32) + x1) - (12 : Int32)) 501 then
                              some ((mN (((3 : Int32) + x1) - (12 : Int32)).toNatClampNeg))
                            else none
def f6_count (ms : Int32) (ml : Int32) (mt : Int32) (mN : Nat → Int32) (x1 : Int32) : Option (Int32 × Int32) :=
  bd1 (f6_in x1 (0 : Int32) (17 : Int32)) (fun q2 =>
    if q2 = 0 then
      bd2 (f6_refuses (0 : Int32) (1 : Int32)) (fun q5 u6 =>
        some (q5, u6))
    else
      bd1 (f6_counted ms ml mN x1) (fun q8 =>
        some (q8, (0 : Int32))))
def f6_next_j60 (k4 : Int32 → Int32 → Option (Int32)) (mN : Nat → Int32) (x1 : Int32) (x3 : Int32) : Option (Int32) :=
  bd1 (f6_serialAt mN x3) (fun q14 =>
    k4 q14 (x3 + 1))
def f6_next_j68 (k4 : Int32 → Int32 → Option (Int32)) (mN : Nat → Int32) (x1 : Int32) (x2 : Int32) (x3 : Int32) : Option (Int32) :=
  k4 x2 (x3 + 1)
def f6_next_j39 (k4 : Int32 → Int32 → Option (Int32)) (mN : Nat → Int32) (x1 : Int32) (x2 : Int32) (x3 : Int32) (s0 : Int32) : Option (Int32) :=
  if s0 = 0 then
    f6_next_j68 k4 mN x1 x2 x3
  else
    if x2 = (-1 : Int32) then
      f6_next_j60 k4 mN x1 x3
    else
      bd1 (f6_serialAt mN x3) (fun q11 =>
        if x2 ≤ q11 then
          f6_next_j68 k4 mN x1 x2 x3
        else
          f6_next_j60 k4 mN x1 x3)
def f6_next_j38 (k4 : Int32 → Int32 → Option (Int32)) (mN : Nat → Int32) (x1 : Int32) (x2 : Int32) (x3 : Int32) : Option (Int32) :=
  f6_next_j39 k4 mN x1 x2 x3 (0 : Int32)
def f6_next_l4 (mN : Nat → Int32) (x1 : Int32) : Nat → Int32 → Int32 → Option (Int32)
  | 0, _, _ => none
  | n + 1, x2, x3 =>
    if ((40 : Int32) * (mN (0 : Int32).toNatClampNeg)) ≤ x3 then
      some (x2)
    else
      bd1 (f6_isCheque mN x3) (fun q3 =>
        if q3 = 0 then
          f6_next_j38 (f6_next_l4 mN x1 n) mN x1 x2 x3
        else
          bd1 (f6_serialAt mN x3) (fun q6 =>
            if q6 ≤ x1 then
              f6_next_j38 (f6_next_l4 mN x1 n) mN x1 x2 x3
            else
              f6_next_j39 (f6_next_l4 mN x1 n) mN x1 x2 x3 (1 : Int32)))
def f6_next (mN : Nat → Int32) (x1 : Int32) : Option (Int32) :=
  f6_next_l4 mN x1 fu (-1 : Int32) (0 : Int32)
def f6_ranked_l23 (mN : Nat → Int32) (x1 : Int32) : Nat → Int32 → Int32 → Int32 → Option (Int32 × Int32)
  | 0, _, _, _ => none
  | n + 1, x2, x3, mt =>
    if x1 ≤ x3 then
      some (x2, mt)
    else
      if x2 = (-1 : Int32) then
        some (x2, mt)
      else
        bd1 (f6_next mN x2) (fun q10 =>
          (f6_ranked_l23 mN x1 n) q10 (x3 + 1) mt)
def f6_ranked (mt : Int32) (mN : Nat → Int32) (x1 : Int32) : Option (Int32 × Int32) :=
  if 0 ≤ x1 then
    bd1 (f6_next mN (-1 : Int32)) (fun q3 =>
      f6_ranked_l23 mN x1 fu q3 (0 : Int32) (0 : Int32))
  else
    bd2 (f6_refuses (0 : Int32) (1 : Int32)) (fun q5 u6 =>
      some (q5, u6))
def f6_isLeft (mN : Nat → Int32) (x1 : Int32) (x2 : Int32) : Option (Int32) :=
  if ¬ (mN (1 : Int32).toNatClampNeg) = 0 then
    some ((if ((x1 * x2) - (x1 * x2) / (mN (1 : Int32).toNatClampNeg) * (mN (1 : Int32).toNatClampNeg)) = 0 then (1 : Int32) else (0 : Int32)))
  else none
def f6_missedDigits_j56 (k4 : Int32 → Int32 → Option (Int32)) (mN : Nat → Int32) (x1 : Int32) (x3 : Int32) (s0 : Int32) (s1 : Int32) : Option (Int32) :=
  k4 (s1 + s0) (x3 + 1)
def f6_missedDigits_j55 (k4 : Int32 → Int32 → Option (Int32)) (mN : Nat → Int32) (x1 : Int32) (x3 : Int32) (s0 : Int32) : Option (Int32) :=
  f6_missedDigits_j56 k4 mN x1 x3 (0 : Int32) s0
def f6_missedDigits_l4 (mN : Nat → Int32) (x1 : Int32) : Nat → Int32 → Int32 → Option (Int32)
  | 0, _, _ => none
  | n + 1, x2, x3 =>
    if (60 : Int32) ≤ x3 then
      some (x2)
    else
      bd1 (f6_digit x1 (x3 / (10 : Int32))) (fun q3 =>
        if ((x3 - x3 / (10 : Int32) * (10 : Int32)) - q3) = 0 then
          f6_missedDigits_j55 (f6_missedDigits_l4 mN x1 n) mN x1 x3 x2
        else
          if inb ((3 : Int32) + (x3 / (10 : Int32))) 501 then
            bd1 (f6_isLeft mN (mN ((3 : Int32) + (x3 / (10 : Int32))).toNatClampNeg) ((x3 - x3 / (10 : Int32) * (10 : Int32)) - q3)) (fun q7 =>
              if q7 = 0 then
                f6_missedDigits_j55 (f6_missedDigits_l4 mN x1 n) mN x1 x3 x2
              else
                f6_missedDigits_j56 (f6_missedDigits_l4 mN x1 n) mN x1 x3 (1 : Int32) x2)
          else none)
def f6_missedDigits (mN : Nat → Int32) (x1 : Int32) : Option (Int32) :=
  f6_missedDigits_l4 mN x1 fu (0 : Int32) (0 : Int32)
def f6_missedSwaps_j63 (k4 : Int32 → Int32 → Option (Int32)) (mN : Nat → Int32) (x1 : Int32) (x3 : Int32) (s0 : Int32) (s1 : Int32) : Option (Int32) :=
  k4 (s1 + s0) (x3 + 1)
def f6_missedSwaps_j62 (k4 : Int32 → Int32 → Option (Int32)) (mN : Nat → Int32) (x1 : Int32) (x3 : Int32) (s0 : Int32) : Option (Int32) :=
  f6_missedSwaps_j63 k4 mN x1 x3 (0 : Int32) s0
def f6_missedSwaps_l4 (mN : Nat → Int32) (x1 : Int32) : Nat → Int32 → Int32 → Option (Int32)
  | 0, _, _ => none
  | n + 1, x2, x3 =>
    if (5 : Int32) ≤ x3 then
      some (x2)
    else
      bd1 (f6_digit x1 x3) (fun q3 =>
        bd1 (f6_digit x1 (x3 + (1 : Int32))) (fun q5 =>
          if (q3 - q5) = 0 then
            f6_missedSwaps_j62 (f6_missedSwaps_l4 mN x1 n) mN x1 x3 x2
          else
            if inb ((3 : Int32) + x3) 501 then
              if inb (((3 : Int32) + x3) + (1 : Int32)) 501 then
                bd1 (f6_isLeft mN ((mN ((3 : Int32) + x3).toNatClampNeg) - (mN (((3 : Int32) + x3) + (1 : Int32)).toNatClampNeg)) (q3 - q5)) (fun q10 =>
                  if q10 = 0 then
                    f6_missedSwaps_j62 (f6_missedSwaps_l4 mN x1 n) mN x1 x3 x2
                  else
                    f6_missedSwaps_j63 (f6_missedSwaps_l4 mN x1 n) mN x1 x3 (1 : Int32) x2)
              else none
            else none))
def f6_missedSwaps (mN : Nat → Int32) (x1 : Int32) : Option (Int32) :=
  f6_missedSwaps_l4 mN x1 fu (0 : Int32) (0 : Int32)
def f6_missed (mt : Int32) (mN : Nat → Int32) (x1 : Int32) (x2 : Int32) : Option (Int32 × Int32) :=
  bd1 (f6_isSerial x1) (fun q2 =>
    if q2 = 0 then
      bd2 (f6_refuses (0 : Int32) (1 : Int32)) (fun q17 u18 =>
        some (q17, u18))
    else
      bd1 (f6_in x2 (0 : Int32) (2 : Int32)) (fun q5 =>
        if q5 = 0 then
          bd2 (f6_refuses (0 : Int32) (2 : Int32)) (fun q14 u15 =>
            some (q14, u15))
        else
          if x2 = 0 then
            bd1 (f6_missedDigits mN x1) (fun q12 =>
              some (q12, (0 : Int32)))
          else
            if x2 = (1 : Int32) then
              bd1 (f6_missedSwaps mN x1) (fun q10 =>
                some (q10, (0 : Int32)))
            else
              some ((0 : Int32), (0 : Int32))))
def f6_pairs_j28 (k4 : Int32 → Int32 → Option (Int32)) (mN : Nat → Int32) (x1 : Int32) (x3 : Int32) (s0 : Int32) (s1 : Int32) : Option (Int32) :=
  k4 (s1 + s0) (x3 + 1)
def f6_pairs_l4 (mN : Nat → Int32) (x1 : Int32) : Nat → Int32 → Int32 → Option (Int32)
  | 0, _, _ => none
  | n + 1, x2, x3 =>
    if (10 : Int32) ≤ x3 then
      some (x2)
    else
      bd1 (f6_isLeft mN x1 x3) (fun q3 =>
        f6_pairs_j28 (f6_pairs_l4 mN x1 n) mN x1 x3 (if q3 = 0 then (0 : Int32) else ((10 : Int32) - x3)) x2)
def f6_pairs (mN : Nat → Int32) (x1 : Int32) : Option (Int32) :=
  f6_pairs_l4 mN x1 fu (0 : Int32) (1 : Int32)
def f6_weakAt_j35 (mN : Nat → Int32) (s0 : Int32) : Option (Int32) :=
  bd1 (f6_pairs mN s0) (fun q6 =>
    some (q6))
def f6_weakAt (mN : Nat → Int32) (x1 : Int32) (x2 : Int32) : Option (Int32) :=
  if x2 = 0 then
    if inb ((3 : Int32) + x1) 501 then
      f6_weakAt_j35 mN (mN ((3 : Int32) + x1).toNatClampNeg)
    else none
  else
    if inb ((3 : Int32) + x1) 501 then
      if inb (((3 : Int32) + x1) + (1 : Int32)) 501 then
        f6_weakAt_j35 mN ((mN ((3 : Int32) + x1).toNatClampNeg) - (mN (((3 : Int32) + x1) + (1 : Int32)).toNatClampNeg))
      else none
    else none
def f6_weak_j56 (mt : Int32) (mN : Nat → Int32) : Option (Int32 × Int32) :=
  bd2 (f6_refuses mt (2 : Int32)) (fun q17 u18 =>
    some (q17, u18))
def f6_weak_j17 (mt : Int32) (mN : Nat → Int32) (x1 : Int32) (x2 : Int32) (x3 : Int32) (s0 : Int32) (s1 : Int32) (s2 : Int32) : Option (Int32 × Int32) :=
  bd1 (f6_in s2 s1 s0) (fun q3 =>
    if q3 = 0 then
      bd2 (f6_refuses mt (1 : Int32)) (fun q14 u15 =>
        some (q14, u15))
    else
      bd1 (f6_in x2 (0 : Int32) (1 : Int32)) (fun q6 =>
        if q6 = 0 then
          f6_weak_j56 mt mN
        else
          bd1 (f6_in x3 (0 : Int32) (1 : Int32)) (fun q9 =>
            if q9 = 0 then
              f6_weak_j56 mt mN
            else
              bd1 (f6_weakAt mN x1 x2) (fun q12 =>
                some (q12, mt)))))
def f6_weak (mt : Int32) (mN : Nat → Int32) (x1 : Int32) (x2 : Int32) (x3 : Int32) : Option (Int32 × Int32) :=
  f6_weak_j17 (0 : Int32) mN x1 x2 x3 (if x2 = (1 : Int32) then (4 : Int32) else (5 : Int32)) (0 : Int32) x1
def f6_weakOf_l4 (mN : Nat → Int32) (x1 : Int32) : Nat → Int32 → Int32 → Option (Int32)
  | 0, _, _ => none
  | n + 1, x2, x3 =>
    if ((6 : Int32) - x1) ≤ x3 then
      some (x2)
    else
      bd1 (f6_weakAt mN x3 x1) (fun q3 =>
        (f6_weakOf_l4 mN x1 n) (x2 + q3) (x3 + 1))
def f6_weakOf (mN : Nat → Int32) (x1 : Int32) : Option (Int32) :=
  f6_weakOf_l4 mN x1 fu (0 : Int32) (0 : Int32)
def f6_finds (mt : Int32) (mN : Nat → Int32) (x1 : Int32) : Option (Int32 × Int32) :=
  bd1 (f6_in x1 (0 : Int32) (2 : Int32)) (fun q2 =>
    if q2 = 0 then
      some ((0 : Int32), (1 : Int32))
    else
      if x1 = (2 : Int32) then
        some ((1 : Int32), (0 : Int32))
      else
        bd1 (f6_weakOf mN x1) (fun q6 =>
          some ((if q6 = 0 then (1 : Int32) else (0 : Int32)), (0 : Int32))))
def f6_bestWeight_j96 (k37 : Int32 → Int32 → Int32 → Int32 → (Nat → Int32) → Option (Int32 × Int32 × (Nat → Int32))) (mt : Int32) (mN : Nat → Int32) (x1 : Int32) (x2 : Int32) (x4 : Int32) (x5 : Int32) (x6 : Int32) (x7 : Int32) (s0 : Int32) : Option (Int32 × Int32 × (Nat → Int32)) :=
  k37 s0 (if x7 = 0 then x4 else x6) (x5 + 1) mt mN
def f6_bestWeight_j83 (k37 : Int32 → Int32 → Int32 → Int32 → (Nat → Int32) → Option (Int32 × Int32 × (Nat → Int32))) (mt : Int32) (mN : Nat → Int32) (x1 : Int32) (x2 : Int32) (x3 : Int32) (x4 : Int32) (x5 : Int32) (x6 : Int32) (s0 : Int32) : Option (Int32 × Int32 × (Nat → Int32)) :=
  f6_bestWeight_j96 k37 mt mN x1 x2 x4 x5 x6 s0 (if s0 = 0 then x3 else x5)
def f6_bestWeight_j78 (k37 : Int32 → Int32 → Int32 → Int32 → (Nat → Int32) → Option (Int32 × Int32 × (Nat → Int32))) (mt : Int32) (mN : Nat → Int32) (x1 : Int32) (x2 : Int32) (x3 : Int32) (x4 : Int32) (x5 : Int32) (x6 : Int32) : Option (Int32 × Int32 × (Nat → Int32)) :=
  f6_bestWeight_j83 k37 mt mN x1 x2 x3 x4 x5 x6 (1 : Int32)
def f6_bestWeight_l37 (x1 : Int32) (x2 : Int32) : Nat → Int32 → Int32 → Int32 → Int32 → (Nat → Int32) → Option (Int32 × Int32 × (Nat → Int32))
  | 0, _, _, _, _, _ => none
  | n + 1, x3, x4, x5, mt, mN =>
    if (10 : Int32) ≤ x5 then
      if inb ((3 : Int32) + x1) 501 then
        some (x3, mt, (upd mN ((3 : Int32) + x1).toNatClampNeg x2))
      else none
    else
      if inb ((3 : Int32) + x1) 501 then
        bd1 (f6_weakOf (upd mN ((3 : Int32) + x1).toNatClampNeg x5) (0 : Int32)) (fun q12 =>
          bd1 (f6_weakOf (upd mN ((3 : Int32) + x1).toNatClampNeg x5) (1 : Int32)) (fun q14 =>
            if x3 = 0 then
              f6_bestWeight_j78 (f6_bestWeight_l37 x1 x2 n) mt (upd mN ((3 : Int32) + x1).toNatClampNeg x5) x1 x2 x3 x4 x5 (q12 + q14)
            else
              if x4 ≤ (q12 + q14) then
                f6_bestWeight_j83 (f6_bestWeight_l37 x1 x2 n) mt (upd mN ((3 : Int32) + x1).toNatClampNeg x5) x1 x2 x3 x4 x5 (q12 + q14) (0 : Int32)
              else
                f6_bestWeight_j78 (f6_bestWeight_l37 x1 x2 n) mt (upd mN ((3 : Int32) + x1).toNatClampNeg x5) x1 x2 x3 x4 x5 (q12 + q14)))
      else none
def f6_bestWeight (mt : Int32) (mN : Nat → Int32) (x1 : Int32) : Option (Int32 × Int32 × (Nat → Int32)) :=
  bd1 (f6_in x1 (0 : Int32) (5 : Int32)) (fun q2 =>
    if q2 = 0 then
      bd2 (f6_refuses (0 : Int32) (1 : Int32)) (fun q6 u7 =>
        some (q6, u7, mN))
    else
      if inb ((3 : Int32) + x1) 501 then
        f6_bestWeight_l37 x1 (mN ((3 : Int32) + x1).toNatClampNeg) fu (0 : Int32) (0 : Int32) (1 : Int32) (0 : Int32) mN
      else none)
def f6_slipOf (mN : Nat → Int32) (x1 : Int32) (x2 : Int32) (x3 : Int32) : Option (Int32) :=
  bd1 (f6_way x1 x2) (fun q2 =>
    bd1 (f6_letterOf mN x1) (fun q4 =>
      some ((if x3 = q4 then q2 else (if q2 = (3 : Int32) then (if (mN (1 : Int32).toNatClampNeg) ≤ x3 then (-1 : Int32) else (2 : Int32)) else (-1 : Int32))))))
def f6_meantBy_j61 (k10 : Int32 → Int32 → Option (Int32)) (mN : Nat → Int32) (x1 : Int32) (x2 : Int32) (x3 : Int32) (x5 : Int32) (s0 : Int32) (s1 : Int32) : Option (Int32) :=
  bd1 (f6_next mN x5) (fun q12 =>
    k10 (s1 + s0) q12)
def f6_meantBy_j49 (k10 : Int32 → Int32 → Option (Int32)) (mN : Nat → Int32) (x1 : Int32) (x2 : Int32) (x3 : Int32) (x4 : Int32) (x5 : Int32) (x6 : Int32) : Option (Int32) :=
  f6_meantBy_j61 k10 mN x1 x2 x3 x5 (if x6 = 0 then (0 : Int32) else (1 : Int32)) x4
def f6_meantBy_j33 (k10 : Int32 → Int32 → Option (Int32)) (mN : Nat → Int32) (x1 : Int32) (x2 : Int32) (x3 : Int32) (x4 : Int32) (x5 : Int32) (s0 : Int32) : Option (Int32) :=
  if s0 = 0 then
    f6_meantBy_j49 k10 mN x1 x2 x3 x4 x5 s0
  else
    if x4 = x3 then
      some (x5)
    else
      f6_meantBy_j49 k10 mN x1 x2 x3 x4 x5 s0
def f6_meantBy_l10 (mN : Nat → Int32) (x1 : Int32) (x2 : Int32) (x3 : Int32) : Nat → Int32 → Int32 → Option (Int32)
  | 0, _, _ => none
  | n + 1, x4, x5 =>
    if x5 = (-1 : Int32) then
      some ((if x3 = (-1 : Int32) then x4 else (-1 : Int32)))
    else
      bd1 (f6_slipOf mN x5 x1 x2) (fun q6 =>
        f6_meantBy_j33 (f6_meantBy_l10 mN x1 x2 x3 n) mN x1 x2 x3 x4 x5 (if q6 = (-1 : Int32) then (0 : Int32) else (1 : Int32)))
def f6_meantBy (mN : Nat → Int32) (x1 : Int32) (x2 : Int32) (x3 : Int32) : Option (Int32) :=
  bd1 (f6_next mN (-1 : Int32)) (fun q2 =>
    f6_meantBy_l10 mN x1 x2 x3 fu (0 : Int32) q2)
def f6_meant_j40 (mt : Int32) (mN : Nat → Int32) : Option (Int32 × Int32) :=
  bd2 (f6_refuses mt (2 : Int32)) (fun q14 u15 =>
    some (q14, u15))
def f6_meant (mt : Int32) (mN : Nat → Int32) (x1 : Int32) (x2 : Int32) (x3 : Int32) : Option (Int32 × Int32) :=
  bd1 (f6_isSerial x1) (fun q2 =>
    if q2 = 0 then
      bd2 (f6_refuses (0 : Int32) (1 : Int32)) (fun q11 u12 =>
        some (q11, u12))
    else
      bd1 (f6_isLetter x2) (fun q5 =>
        if q5 = 0 then
          f6_meant_j40 (0 : Int32) mN
        else
          if x3 < (-1 : Int32) then
            f6_meant_j40 (0 : Int32) mN
          else
            bd1 (f6_meantBy mN x1 x2 x3) (fun q9 =>
              some (q9, (0 : Int32)))))
def f6_slip_j19 (mt : Int32) (mN : Nat → Int32) : Option (Int32 × Int32) :=
  bd2 (f6_refuses mt (1 : Int32)) (fun q16 u17 =>
    some (q16, u17))
def f6_slip (mt : Int32) (mN : Nat → Int32) (x1 : Int32) (x2 : Int32) (x3 : Int32) : Option (Int32 × Int32) :=
  bd1 (f6_isSerial x1) (fun q2 =>
    if q2 = 0 then
      f6_slip_j19 (0 : Int32) mN
    else
      bd1 (f6_isSerial x2) (fun q5 =>
        if q5 = 0 then
          f6_slip_j19 (0 : Int32) mN
        else
          bd1 (f6_isLetter x3) (fun q8 =>
            if q8 = 0 then
              bd2 (f6_refuses (0 : Int32) (2 : Int32)) (fun q11 u12 =>
                some (q11, u12))
            else
              bd1 (f6_slipOf mN x1 x2 x3) (fun q14 =>
                some (q14, (0 : Int32))))))
def f6_cashed (mt : Int32) (mN : Nat → Int32) : Option (UInt64 × Int32) :=
  bd1 (f6_ofKind mN (0 : Int32) ((40 : Int32) * (mN (0 : Int32).toNatClampNeg)) (2 : Int32)) (fun q2 =>
    bd1 (f6_cheques mN) (fun q4 =>
      if q4 = 0 then
        some (FP.dconst0, (0 : Int32))
      else
        if (FP.ddiv (FP.i2d q2) (FP.i2d q4)) &&& 0x7fffffffffffffff ≤ 0x7ff0000000000000 then
          some ((FP.ddiv (FP.i2d q2) (FP.i2d q4)), (0 : Int32))
        else none))
