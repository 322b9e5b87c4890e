def f5_throwIfNoPosition (x0 : Int32) : Option (Nat) :=
  some ((if x0 < 0 then 1 else (if x0 < (6 : Int32) then 0 else 1)))
def f5_throwIfNoSerial (x0 : Int32) : Option (Nat) :=
  bd1 (f5_isSerial x0) (fun q2 =>
    some ((if q2 = 0 then 1 else 0)))
def f5_throwIfNoLetter (x0 : Int32) : Option (Nat) :=
  some ((if x0 < 0 then 2 else (if x0 < (26 : Int32) then 0 else 2)))
def f5_throwIfNoSlipKind (x0 : Int32) : Option (Nat) :=
  some ((if x0 < 0 then 2 else (if x0 ≤ (2 : Int32) then 0 else 2)))
def f5_throwIfNoSlot (x0 : Int32) : Option (Nat) :=
  some ((if x0 < 0 then 2 else (if x0 < (2 : Int32) then 0 else 2)))
def f5_throwIfFaulty (x0 : Int32) : Option (Nat) :=
  some ((if x0 = (1 : Int32) then 1 else (if x0 = (2 : Int32) then 2 else (if x0 = (3 : Int32) then 3 else 0))))
def f5_faultOfBook (bh : Int32) (bF : Nat → Int32) (bZ : Nat → Int32) (x1 : Int32) (x2 : Int32) : Option (Int32) :=
  bd1 (f5_isSerial x1) (fun q2 =>
    if q2 = 0 then
      some ((1 : Int32))
    else
      if x2 < (1 : Int32) then
        some ((2 : Int32))
      else
        if x2 ≤ (40 : Int32) then
          bd1 (f5_isSerial ((x1 + x2) - (1 : Int32))) (fun q7 =>
            if q7 = 0 then
              some ((1 : Int32))
            else
              bd1 (f0_canTake bh bF bZ x1 x2) (fun q10 =>
                some ((if q10 = 0 then (3 : Int32) else (0 : Int32)))))
        else
          some ((2 : Int32)))
def f5_faultOfWriting (bh : Int32) (bF : Nat → Int32) (bZ : Nat → Int32) (bK : Nat → Int32) (x1 : Int32) (x2 : Int32) : Option (Int32) :=
  bd1 (f0_cellOf bh bF bZ x1) (fun q2 =>
    if q2 = (-1 : Int32) then
      some ((1 : Int32))
    else
      if x2 < (1 : Int32) then
        some ((2 : Int32))
      else
        if x2 ≤ (999 : Int32) then
          bd1 (f0_kindAt bK q2) (fun q7 =>
            some ((if q7 = 0 then (0 : Int32) else (3 : Int32))))
        else
          some ((2 : Int32)))
def f5_runBook (bh : Int32) (bF : Nat → Int32) (bZ : Nat → Int32) (bK : Nat → Int32) (bM : Nat → Int32) (x1 : Int32) (x2 : Int32) : Option (Int32 × Int32 × (Nat → Int32) × (Nat → Int32) × (Nat → Int32) × (Nat → Int32)) :=
  bd1 (f5_faultOfBook bh bF bZ x1 x2) (fun q2 =>
    if q2 = 0 then
      bd6 (f0_add bh bF bZ bK bM x1 x2) (fun q5 u6 u7 u8 u9 u10 =>
        some ((1 : Int32), u6, u7, u8, u9, u10))
    else
      some ((0 : Int32), bh, bF, bZ, bK, bM))
def f5_runWriting (bh : Int32) (bF : Nat → Int32) (bZ : Nat → Int32) (bK : Nat → Int32) (bM : Nat → Int32) (x1 : Int32) (x2 : Int32) : Option (Int32 × (Nat → Int32) × (Nat → Int32)) :=
  bd1 (f5_faultOfWriting bh bF bZ bK x1 x2) (fun q2 =>
    if q2 = 0 then
      bd1 (f0_cellOf bh bF bZ x1) (fun q5 =>
        bd2 (f0_makeWritten bK bM q5 x2) (fun u7 u8 =>
          some ((1 : Int32), u7, u8)))
    else
      some ((0 : Int32), bK, bM))
def f5_runVoiding (bh : Int32) (bF : Nat → Int32) (bZ : Nat → Int32) (bK : Nat → Int32) (bM : Nat → Int32) (x1 : Int32) (x2 : Int32) : Option (Int32 × (Nat → Int32) × (Nat → Int32)) :=
  bd1 (f5_faultOfRun x1 x2) (fun q2 =>
    if q2 = 0 then
      bd3 (f0_makeRunVoid bh bF bZ bK bM x1 x2) (fun q5 u6 u7 =>
        some ((1 : Int32), u6, u7))
    else
      some ((0 : Int32), bK, bM))
def f5_runOrder (sr : Int32) (wm : Int32) (wW : Nat → Int32) (bh : Int32) (bF : Nat → Int32) (bZ : Nat → Int32) (bK : Nat → Int32) (bM : Nat → Int32) (ol : Int32) (oS : Nat → Int32) (x1 : Int32) (x2 : Int32) : Option (Int32 × Int32 × Int32 × (Nat → Int32) × (Nat → Int32) × (Nat → Int32) × (Nat → Int32)) :=
  bd1 (f3_numberIn ol oS (x1 + (1 : Int32)) ((x1 + (1 : Int32)) + (6 : Int32))) (fun q2 =>
    bd1 (f3_numberIn ol oS (x1 + (8 : Int32)) x2) (fun q4 =>
      bd1 (f3_signAt ol oS x1) (fun q6 =>
        if q6 = (98 : Int32) then
          bd6 (f5_runBook bh bF bZ bK bM q2 q4) (fun q9 u10 u11 u12 u13 u14 =>
            if isZ q9 then
              some (q9, sr, u10, u11, u12, u13, u14)
            else none)
        else
          if q6 = (99 : Int32) then
            bd1 (f3_signAt ol oS (x2 - (1 : Int32))) (fun q17 =>
              bd4 (f4_cashByReading sr wm wW bh bF bZ bK bM q2 (q17 - (65 : Int32))) (fun q19 u20 u21 u22 =>
                some ((if q19 ≤ 0 then (0 : Int32) else (1 : Int32)), u20, bh, bF, bZ, u21, u22)))
          else
            if q6 = (118 : Int32) then
              bd3 (f5_runVoiding bh bF bZ bK bM q2 q4) (fun q26 u27 u28 =>
                if isZ q26 then
                  some (q26, sr, bh, bF, bZ, u27, u28)
                else none)
            else
              if q6 = (119 : Int32) then
                bd3 (f5_runWriting bh bF bZ bK bM q2 q4) (fun q31 u32 u33 =>
                  if isZ q31 then
                    some (q31, sr, bh, bF, bZ, u32, u33)
                  else none)
              else
                some ((0 : Int32), sr, bh, bF, bZ, bK, bM))))
def f5_runOrders_j41 (k15 : Int32 → Int32 → Int32 → Int32 → Int32 → (Nat → Int32) → (Nat → Int32) → (Nat → Int32) → (Nat → Int32) → Option (Int32 × Int32 × Int32 × (Nat → Int32) × (Nat → Int32) × (Nat → Int32) × (Nat → Int32))) (sr : Int32) (wm : Int32) (wW : Nat → Int32) (bh : Int32) (bF : Nat → Int32) (bZ : Nat → Int32) (bK : Nat → Int32) (bM : Nat → Int32) (ol : Int32) (oS : Nat → Int32) (x1 : Int32) (x2 : Int32) (x3 : Int32) (x4 : Int32) : Option (Int32 × Int32 × Int32 × (Nat → Int32) × (Nat → Int32) × (Nat → Int32) × (Nat → Int32)) :=
  bd7 (f5_runOrder sr wm wW bh bF bZ bK bM ol oS x2 x4) (fun q7 u8 u9 u10 u11 u12 u13 =>
    if q7 = 0 then
      some (x1, u8, u9, u10, u11, u12, u13)
    else
      k15 (x1 + 1) (x4 + (1 : Int32)) (x4 + 1) u8 u9 u10 u11 u12 u13)
def f5_runOrders_l15 (wm : Int32) (wW : Nat → Int32) (ol : Int32) (oS : Nat → Int32) (x3 : Int32) : Nat → Int32 → Int32 → Int32 → Int32 → Int32 → (Nat → Int32) → (Nat → Int32) → (Nat → Int32) → (Nat → Int32) → Option (Int32 × Int32 × Int32 × (Nat → Int32) × (Nat → Int32) × (Nat → Int32) × (Nat → Int32))
  | 0, _, _, _, _, _, _, _, _, _ => none
  | n + 1, x1, x2, x4, sr, bh, bF, bZ, bK, bM =>
    if x3 < x4 then
      some (x1, sr, bh, bF, bZ, bK, bM)
    else
      if x4 = x3 then
        f5_runOrders_j41 (f5_runOrders_l15 wm wW ol oS x3 n) sr wm wW bh bF bZ bK bM ol oS x1 x2 x3 x4
      else
        bd1 (f3_signAt ol oS x4) (fun q4 =>
          if q4 = (59 : Int32) then
            f5_runOrders_j41 (f5_runOrders_l15 wm wW ol oS x3 n) sr wm wW bh bF bZ bK bM ol oS x1 x2 x3 x4
          else
            (f5_runOrders_l15 wm wW ol oS x3 n) x1 x2 (x4 + 1) sr bh bF bZ bK bM)
def f5_runOrders (sr : Int32) (wm : Int32) (wW : Nat → Int32) (bh : Int32) (bF : Nat → Int32) (bZ : Nat → Int32) (bK : Nat → Int32) (bM : Nat → Int32) (ol : Int32) (oS : Nat → Int32) : Option (Int32 × Int32 × Int32 × (Nat → Int32) × (Nat → Int32) × (Nat → Int32) × (Nat → Int32)) :=
  f5_runOrders_l15 wm wW ol oS ol fu (0 : Int32) (0 : Int32) (0 : Int32) sr bh bF bZ bK bM
def f5_weight (sr : Int32) (wm : Int32) (wW : Nat → Int32) (bh : Int32) (bF : Nat → Int32) (bZ : Nat → Int32) (bK : Nat → Int32) (bM : Nat → Int32) (kd : Int32) (kA : Nat → SA) (kV : Nat → SV) (x1 : Int32) (x2 : Int32) : Option (Nat × Int32 × (Nat → Int32) × Int32 × (Nat → SA) × (Nat → SV)) :=
  bd1 (f5_throwIfNoPosition x1) (fun k2 =>
    if k2 = 0 then
      if x2 < (1 : Int32) then
        some (2, (0 : Int32), wW, kd, kA, kV)
      else
        if x2 ≤ (9 : Int32) then
          bd3 (f1_save kd kA kV sr wm wW bh bF bZ bK bM) (fun u6 u7 u8 =>
            bd1 (f2_weightAt wW x1) (fun q10 =>
              bd1 (f2_setWeight wW x1 x2) (fun u12 =>
                some (0, q10, u12, u6, u7, u8))))
        else
          some (2, (0 : Int32), wW, kd, kA, kV)
    else
      some (k2, (0 : Int32), wW, kd, kA, kV))
def f5_modulus (sr : Int32) (wm : Int32) (wW : Nat → Int32) (bh : Int32) (bF : Nat → Int32) (bZ : Nat → Int32) (bK : Nat → Int32) (bM : Nat → Int32) (kd : Int32) (kA : Nat → SA) (kV : Nat → SV) (x1 : Int32) : Option (Nat × Int32 × Int32 × Int32 × (Nat → SA) × (Nat → SV)) :=
  if x1 < (7 : Int32) then
    some (2, (0 : Int32), wm, kd, kA, kV)
  else
    if x1 ≤ (26 : Int32) then
      bd3 (f1_save kd kA kV sr wm wW bh bF bZ bK bM) (fun u4 u5 u6 =>
        some (0, wm, x1, u4, u5, u6))
    else
      some (2, (0 : Int32), wm, kd, kA, kV)
def f5_book (sr : Int32) (wm : Int32) (wW : Nat → Int32) (bh : Int32) (bF : Nat → Int32) (bZ : Nat → Int32) (bK : Nat → Int32) (bM : Nat → Int32) (kd : Int32) (kA : Nat → SA) (kV : Nat → SV) (x1 : Int32) (x2 : Int32) : Option (Nat × Int32 × Int32 × (Nat → Int32) × (Nat → Int32) × (Nat → Int32) × (Nat → Int32) × Int32 × (Nat → SA) × (Nat → SV)) :=
  bd1 (f5_faultOfBook bh bF bZ x1 x2) (fun q2 =>
    bd1 (f5_throwIfFaulty q2) (fun k4 =>
      if k4 = 0 then
        bd3 (f1_save kd kA kV sr wm wW bh bF bZ bK bM) (fun u6 u7 u8 =>
          bd6 (f0_add bh bF bZ bK bM x1 x2) (fun q10 u11 u12 u13 u14 u15 =>
            some (0, q10, u11, u12, u13, u14, u15, u6, u7, u8)))
      else
        some (k4, (0 : Int32), bh, bF, bZ, bK, bM, kd, kA, kV)))
def f5_write (sr : Int32) (wm : Int32) (wW : Nat → Int32) (bh : Int32) (bF : Nat → Int32) (bZ : Nat → Int32) (bK : Nat → Int32) (bM : Nat → Int32) (kd : Int32) (kA : Nat → SA) (kV : Nat → SV) (x1 : Int32) (x2 : Int32) : Option (Nat × Int32 × (Nat → Int32) × (Nat → Int32) × Int32 × (Nat → SA) × (Nat → SV)) :=
  bd1 (f5_faultOfWriting bh bF bZ bK x1 x2) (fun q2 =>
    bd1 (f5_throwIfFaulty q2) (fun k4 =>
      if k4 = 0 then
        bd3 (f1_save kd kA kV sr wm wW bh bF bZ bK bM) (fun u6 u7 u8 =>
          bd1 (f0_cellOf bh bF bZ x1) (fun q10 =>
            bd2 (f0_makeWritten bK bM q10 x2) (fun u12 u13 =>
              bd1 (f2_letterOf wm wW x1) (fun q15 =>
                some (0, q15, u12, u13, u6, u7, u8)))))
      else
        some (k4, (0 : Int32), bK, bM, kd, kA, kV)))
def f5_cash (sr : Int32) (wm : Int32) (wW : Nat → Int32) (bh : Int32) (bF : Nat → Int32) (bZ : Nat → Int32) (bK : Nat → Int32) (bM : Nat → Int32) (kd : Int32) (kA : Nat → SA) (kV : Nat → SV) (x1 : Int32) (x2 : Int32) : Option (Nat × Int32 × Int32 × (Nat → Int32) × (Nat → Int32) × Int32 × (Nat → SA) × (Nat → SV)) :=
  bd1 (f5_throwIfNoSerial x1) (fun k2 =>
    if k2 = 0 then
      bd1 (f5_throwIfNoLetter x2) (fun k4 =>
        if k4 = 0 then
          bd3 (f1_save kd kA kV sr wm wW bh bF bZ bK bM) (fun u6 u7 u8 =>
            bd4 (f4_cashByReading sr wm wW bh bF bZ bK bM x1 x2) (fun q10 u11 u12 u13 =>
              some (0, q10, u11, u12, u13, u6, u7, u8)))
        else
          some (k4, (0 : Int32), sr, bK, bM, kd, kA, kV))
    else
      some (k2, (0 : Int32), sr, bK, bM, kd, kA, kV))
def f5_voidRun (sr : Int32) (wm : Int32) (wW : Nat → Int32) (bh : Int32) (bF : Nat → Int32) (bZ : Nat → Int32) (bK : Nat → Int32) (bM : Nat → Int32) (kd : Int32) (kA : Nat → SA) (kV : Nat → SV) (x1 : Int32) (x2 : Int32) : Option (Nat × Int32 × (Nat → Int32) × (Nat → Int32) × Int32 × (Nat → SA) × (Nat → SV)) :=
  bd1 (f5_faultOfRun x1 x2) (fun q2 =>
    bd1 (f5_throwIfFaulty q2) (fun k4 =>
      if k4 = 0 then
        bd3 (f1_save kd kA kV sr wm wW bh bF bZ bK bM) (fun u6 u7 u8 =>
          bd3 (f0_makeRunVoid bh bF bZ bK bM x1 x2) (fun q10 u11 u12 =>
            some (0, q10, u11, u12, u6, u7, u8)))
      else
        some (k4, (0 : Int32), bK, bM, kd, kA, kV)))
def f5_append (ol : Int32) (oS : Nat → Int32) (x1 : Int32) : Option (Nat × Int32 × Int32 × (Nat → Int32)) :=
  if x1 < (33 : Int32) then
    some (2, (0 : Int32), ol, oS)
  else
    if x1 ≤ (126 : Int32) then
      bd1 (f3_isFull ol) (fun q4 =>
        if q4 = 0 then
          bd3 (f3_add ol oS x1) (fun q7 u8 u9 =>
            some (0, q7, u8, u9))
        else
          some (3, (0 : Int32), ol, oS))
    else
      some (2, (0 : Int32), ol, oS)
def f5_clearBuffer (ol : Int32) : Option (Int32 × Int32) :=
  bd2 (f3_clear ol) (fun q2 u3 =>
    some (q2, u3))
def f5_firstError (ol : Int32) (oS : Nat → Int32) : Option (Int32) :=
  bd1 (f3_errorIndex ol oS) (fun q2 =>
    some (q2))
def f5_execute (sr : Int32) (wm : Int32) (wW : Nat → Int32) (bh : Int32) (bF : Nat → Int32) (bZ : Nat → Int32) (bK : Nat → Int32) (bM : Nat → Int32) (ol : Int32) (oS : Nat → Int32) (kd : Int32) (kA : Nat → SA) (kV : Nat → SV) : Option (Nat × Int32 × Int32 × Int32 × (Nat → Int32) × (Nat → Int32) × (Nat → Int32) × (Nat → Int32) × Int32 × Int32 × (Nat → SA) × (Nat → SV)) :=
  bd1 (f3_isComplete ol oS) (fun q2 =>
    if q2 = 0 then
      some (2, (0 : Int32), sr, bh, bF, bZ, bK, bM, ol, kd, kA, kV)
    else
      bd3 (f1_save kd kA kV sr wm wW bh bF bZ bK bM) (fun u5 u6 u7 =>
        bd7 (f5_runOrders sr wm wW bh bF bZ bK bM ol oS) (fun q9 u10 u11 u12 u13 u14 u15 =>
          bd2 (f3_clear ol) (fun q17 u18 =>
            some (0, q9, u10, u11, u12, u13, u14, u15, u18, u5, u6, u7)))))
def f5_undo (sr : Int32) (wm : Int32) (wW : Nat → Int32) (bh : Int32) (bF : Nat → Int32) (bZ : Nat → Int32) (bK : Nat → Int32) (bM : Nat → Int32) (kd : Int32) (kV : Nat → SV) : Option (Nat × Int32 × Int32 × Int32 × (Nat → Int32) × Int32 × (Nat → Int32) × (Nat → Int32) × (Nat → Int32) × (Nat → Int32) × Int32) :=
  if (1 : Int32) ≤ kd then
    bd9 (f1_restoreLast kd kV) (fun u3 u4 u5 u6 u7 u8 u9 u10 u11 =>
      some (0, u11, u3, u4, u5, u6, u7, u8, u9, u10, u11))
  else
    some (3, (0 : Int32), sr, wm, wW, bh, bF, bZ, bK, bM, kd)
def f5_keep (sr : Int32) (wm : Int32) (wW : Nat → Int32) (bh : Int32) (bF : Nat → Int32) (bZ : Nat → Int32) (bK : Nat → Int32) (bM : Nat → Int32) (kf : Nat → Int32) (kP : Nat → SV) (x1 : Int32) : Option (Nat × Int32 × (Nat → Int32) × (Nat → SV)) :=
  bd1 (f5_throwIfNoSlot x1) (fun k2 =>
    if k2 = 0 then
      bd2 (f1_putIntoSlot kf kP sr wm wW bh bF bZ bK bM x1) (fun u4 u5 =>
        some (0, bh, u4, u5))
    else
      some (k2, (0 : Int32), kf, kP))
def f5_goBack (sr : Int32) (wm : Int32) (wW : Nat → Int32) (bh : Int32) (bF : Nat → Int32) (bZ : Nat → Int32) (bK : Nat → Int32) (bM : Nat → Int32) (kd : Int32) (kf : Nat → Int32) (kA : Nat → SA) (kV : Nat → SV) (kP : Nat → SV) (x1 : Int32) : Option (Nat × Int32 × Int32 × Int32 × (Nat → Int32) × Int32 × (Nat → Int32) × (Nat → Int32) × (Nat → Int32) × (Nat → Int32) × Int32 × (Nat → SA) × (Nat → SV)) :=
  bd1 (f5_throwIfNoSlot x1) (fun k2 =>
    if k2 = 0 then
      bd1 (f1_isSlotFilled kf x1) (fun q4 =>
        if q4 = 0 then
          some (3, (0 : Int32), sr, wm, wW, bh, bF, bZ, bK, bM, kd, kA, kV)
        else
          bd3 (f1_save kd kA kV sr wm wW bh bF bZ bK bM) (fun u7 u8 u9 =>
            bd8 (f1_restoreSlot kP x1) (fun u11 u12 u13 u14 u15 u16 u17 u18 =>
              some (0, u14, u11, u12, u13, u14, u15, u16, u17, u18, u7, u8, u9))))
    else
      some (k2, (0 : Int32), sr, wm, wW, bh, bF, bZ, bK, bM, kd, kA, kV))
def f5_letter (wm : Int32) (wW : Nat → Int32) (x1 : Int32) : Option (Nat × Int32) :=
  bd1 (f5_throwIfNoSerial x1) (fun k2 =>
    if k2 = 0 then
      bd1 (f2_letterOf wm wW x1) (fun q4 =>
        some (0, q4))
    else
      some (k2, (0 : Int32)))
def f5_cheque (bh : Int32) (bF : Nat → Int32) (bZ : Nat → Int32) (bK : Nat → Int32) (bM : Nat → Int32) (x1 : Int32) (x2 : Int32) : Option (Nat × Int32) :=
  bd1 (f0_cellOf bh bF bZ x1) (fun q2 =>
    if q2 = (-1 : Int32) then
      some (1, (0 : Int32))
    else
      if x2 = (0 : Int32) then
        bd1 (f0_kindAt bK q2) (fun q6 =>
          some (0, q6))
      else
        if x2 = (1 : Int32) then
          bd1 (f0_amountAt bM q2) (fun q9 =>
            some (0, q9))
        else
          if x2 = (2 : Int32) then
            some (0, (q2 / (40 : Int32)))
          else
            if x2 = (3 : Int32) then
              some (0, (q2 - q2 / (40 : Int32) * (40 : Int32)))
            else
              if x2 = (4 : Int32) then
                bd1 (f0_sameKindFrom bZ bK q2) (fun q14 =>
                  some (0, q14))
              else
                some (2, (0 : Int32)))
def f5_bookOf (bh : Int32) (bF : Nat → Int32) (bZ : Nat → Int32) (bK : Nat → Int32) (bM : Nat → Int32) (x1 : Int32) (x2 : Int32) : Option (Nat × Int32) :=
  if x1 < 0 then
    some (1, (0 : Int32))
  else
    if x1 < bh then
      if x2 < 0 then
        some (2, (0 : Int32))
      else
        if x2 ≤ (8 : Int32) then
          bd1 (f0_numberOf bF bZ bK bM x1 x2) (fun q6 =>
            some (0, q6))
        else
          some (2, (0 : Int32))
    else
      some (1, (0 : Int32))
def f5_count (sr : Int32) (wm : Int32) (wW : Nat → Int32) (bh : Int32) (bF : Nat → Int32) (bZ : Nat → Int32) (bK : Nat → Int32) (bM : Nat → Int32) (ol : Int32) (kd : Int32) (x1 : Int32) : Option (Nat × Int32) :=
  if x1 < 0 then
    some (2, (0 : Int32))
  else
    if x1 ≤ (17 : Int32) then
      if x1 < (12 : Int32) then
        if x1 = (0 : Int32) then
          some (0, bh)
        else
          if x1 = (1 : Int32) then
            bd1 (f0_numberOfAll bh bF bZ bK bM x1) (fun q17 =>
              some (0, q17))
          else
            if x1 = (2 : Int32) then
              bd1 (f0_numberOfAll bh bF bZ bK bM x1) (fun q17 =>
                some (0, q17))
            else
              if x1 = (3 : Int32) then
                bd1 (f0_numberOfAll bh bF bZ bK bM x1) (fun q17 =>
                  some (0, q17))
              else
                if x1 = (4 : Int32) then
                  bd1 (f0_numberOfAll bh bF bZ bK bM x1) (fun q17 =>
                    some (0, q17))
                else
                  if x1 = (5 : Int32) then
                    bd1 (f0_numberOfAll bh bF bZ bK bM x1) (fun q17 =>
                      some (0, q17))
                  else
                    if x1 = (6 : Int32) then
                      bd1 (f0_numberOfAll bh bF bZ bK bM x1) (fun q17 =>
                        some (0, q17))
                    else
                      if x1 = (7 : Int32) then
                        bd1 (f0_numberOfAll bh bF bZ bK bM x1) (fun q17 =>
                          some (0, q17))
                      else
                        if x1 = (8 : Int32) then
                          some (0, sr)
                        else
                          if x1 = (9 : Int32) then
                            some (0, wm)
                          else
                            if x1 = (10 : Int32) then
                              some (0, kd)
                            else
                              if x1 = (11 : Int32) then
                                some (0, ol)
                              else
                                bd1 (f0_numberOfAll bh bF bZ bK bM x1) (fun q17 =>
                                  some (0, q17))
      else
        bd1 (f2_weightAt wW (x1 - (12 : Int32))) (fun q19 =>
          some (0, q19))
    else
      some (2, (0 : Int32))
def f5_ranked (bh : Int32) (bF : Nat → Int32) (bZ : Nat → Int32) (x1 : Int32) : Option (Nat × Int32) :=
  if 0 ≤ x1 then
    bd1 (f0_serialOfRank bh bF bZ x1) (fun q3 =>
      some (0, q3))
  else
    some (2, (0 : Int32))
def f5_missed (wm : Int32) (wW : Nat → Int32) (x1 : Int32) (x2 : Int32) : Option (Nat × Int32) :=
  bd1 (f5_throwIfNoSerial x1) (fun k2 =>
    if k2 = 0 then
      bd1 (f5_throwIfNoSlipKind x2) (fun k4 =>
        if k4 = 0 then
          if x2 = (0 : Int32) then
            bd1 (f2_hiddenMisreadings wm wW x1) (fun q7 =>
              some (0, q7))
          else
            if x2 = (1 : Int32) then
              bd1 (f2_hiddenSwaps wm wW x1) (fun q10 =>
                some (0, q10))
            else
              some (0, (0 : Int32))
        else
          some (k4, (0 : Int32)))
    else
      some (k2, (0 : Int32)))
def f5_weak (wm : Int32) (wW : Nat → Int32) (x1 : Int32) (x2 : Int32) (x3 : Int32) : Option (Nat × Int32) :=
  if x1 < 0 then
    some (1, (0 : Int32))
  else
    bd1 (f5_positionsOf x2) (fun q3 =>
      if x1 < q3 then
        if x2 < 0 then
          some (2, (0 : Int32))
        else
          if (1 : Int32) < x2 then
            some (2, (0 : Int32))
          else
            if x3 < 0 then
              some (2, (0 : Int32))
            else
              if x3 ≤ (1 : Int32) then
                bd1 (f2_factorAt wW x1 x2) (fun q10 =>
                  if x3 = 0 then
                    bd1 (f2_hiddenPairsTried wm q10) (fun q15 =>
                      some (0, q15))
                  else
                    bd1 (f2_hiddenPairs wm q10) (fun q13 =>
                      some (0, q13)))
              else
                some (2, (0 : Int32))
      else
        some (1, (0 : Int32)))
def f5_finds (wm : Int32) (wW : Nat → Int32) (x1 : Int32) : Option (Nat × Int32) :=
  bd1 (f5_throwIfNoSlipKind x1) (fun k2 =>
    if k2 = 0 then
      if x1 = (2 : Int32) then
        some (0, (1 : Int32))
      else
        bd1 (f2_hidesNothing wm wW x1) (fun q5 =>
          some (0, (if q5 = 0 then (0 : Int32) else (1 : Int32))))
    else
      some (k2, (0 : Int32)))
def f5_bestWeight_l22 (wm : Int32) (wW : Nat → Int32) (x1 : Int32) : Nat → Int32 → Int32 → Int32 → Option (Nat × Int32)
  | 0, _, _, _ => none
  | n + 1, x2, x3, x4 =>
    if (9 : Int32) < x4 then
      some (0, x2)
    else
      bd1 (f2_hiddenPairsWith wm wW x1 x4) (fun q7 =>
        (f5_bestWeight_l22 wm wW x1 n) (if x3 ≤ q7 then x2 else x4) (if x3 ≤ q7 then x3 else q7) (x4 + 1))
def f5_bestWeight (wm : Int32) (wW : Nat → Int32) (x1 : Int32) : Option (Nat × Int32) :=
  bd1 (f5_throwIfNoPosition x1) (fun k2 =>
    if k2 = 0 then
      bd1 (f2_hiddenPairsWith wm wW x1 (1 : Int32)) (fun q4 =>
        f5_bestWeight_l22 wm wW x1 fu (1 : Int32) q4 (2 : Int32))
    else
      some (k2, (0 : Int32)))
def f5_meant (wm : Int32) (wW : Nat → Int32) (bh : Int32) (bF : Nat → Int32) (bZ : Nat → Int32) (x1 : Int32) (x2 : Int32) (x3 : Int32) : Option (Nat × Int32) :=
  bd1 (f5_throwIfNoSerial x1) (fun k2 =>
    if k2 = 0 then
      bd1 (f5_throwIfNoLetter x2) (fun k4 =>
        if k4 = 0 then
          if (-1 : Int32) ≤ x3 then
            bd1 (f4_meantCheques wm wW bh bF bZ x1 x2 x3) (fun q7 =>
              some (0, q7))
          else
            some (2, (0 : Int32))
        else
          some (k4, (0 : Int32)))
    else
      some (k2, (0 : Int32)))
def f5_slip (wm : Int32) (wW : Nat → Int32) (x1 : Int32) (x2 : Int32) (x3 : Int32) : Option (Nat × Int32) :=
  bd1 (f5_throwIfNoSerial x1) (fun k2 =>
    if k2 = 0 then
      bd1 (f5_throwIfNoSerial x2) (fun k4 =>
        if k4 = 0 then
          bd1 (f5_throwIfNoLetter x3) (fun k6 =>
            if k6 = 0 then
              bd1 (f2_slipKind wm wW x1 x2 x3) (fun q8 =>
                some (0, q8))
            else
              some (k6, (0 : Int32)))
        else
          some (k4, (0 : Int32)))
    else
      some (k2, (0 : Int32)))
def f5_cashed (bh : Int32) (bF : Nat → Int32) (bZ : Nat → Int32) (bK : Nat → Int32) (bM : Nat → Int32) : Option (UInt64) :=
  bd1 (f0_numberOfAll bh bF bZ bK bM (1 : Int32)) (fun q2 =>
    if (1 : Int32) ≤ q2 then
      bd1 (f0_numberOfAll bh bF bZ bK bM (4 : Int32)) (fun q5 =>
        if (FP.ddiv (FP.i2d q5) (FP.i2d q2)) &&& 0x7fffffffffffffff ≤ 0x7ff0000000000000 then
          some ((FP.ddiv (FP.i2d q5) (FP.i2d q2)))
        else none)
    else
      some (FP.dconst0))
abbrev rm5_throwIfNoPosition : Room := { frames := 6, cells := 1, slots := 6, locals := 82 }
theorem hdn5_throwIfNoPosition : yX5_throwIfNoPosition.cls ≠ "java/lang/invoke/MethodHandle" ∧ yX5_throwIfNoPosition.cls ≠ "java/lang/invoke/VarHandle" ∧ (parseMethodDescriptor yX5_throwIfNoPosition.desc).map (fun d => d.parameters.length) = some 1 := by decide +kernel
set_option maxHeartbeats 4000000 in
set_option maxRecDepth 100000 in
theorem K5_throwIfNoPosition (l : Launch) (hfl : l.stackTraces = false) (D : va_G) (cI cZ cS cJ : ClassId) (x0 : Int32) (k : Nat) (hF : f5_throwIfNoPosition x0 = some (k)) : vx_Met l yX5_throwIfNoPosition wsX5_throwIfNoPosition rm5_throwIfNoPosition (xP D (gT cI cZ cS cJ) ([] : va_W) [.int x0]) (xQ D k none (uA ([] : va_W)) ([] : va_W)) (xX D k (uA ([] : va_W)) ([] : va_W)) 1 6 (uA ([] : va_W)) := by
  refine vx_ofW (cc := cX5_throwIfNoPosition) (maxL := 1) (ret := none) (by decide) rfl ?_
  intro p e s m args below meth c s₁ B hml hout hv
  obtain ⟨ha, hK, hP, hD0, hX, hZ⟩ := hv
  have hx := B.exec
  have hb := B.bytes
  have hr := B.returns
  have hlocks := B.notSynchronized
  have hts : ∀ w ∈ lw_all, w.before args s = true := fun w h => atoms_spec (ws := wsX5_throwIfNoPosition) B.pre w (List.mem_cons_of_mem _ h)
  have hown : s.vm.findClass RX5 = some m.cls := findClass_of_methodNamed B.named
  have S : CallFix p m c cX5_throwIfNoPosition 1 s args lw_all RX5 := ⟨hx, hb, hml, hown, hts⟩
  have hD := hD0.own
  generalize uA ([] : va_W) = A0 at hD hZ ⊢
  have hS : va_S A0 s.heap s.heap [] := va_S.rf
  have hl := lv_entry ([.int x0] : List Value) (n := 1) (Nat.le_of_ble_eq_true rfl)
  refine W.eq (g2 := F0 m 0 ((lg_sl ([.int x0] : List Value) ++ List.replicate (1 - (lg_sl ([.int x0] : List Value)).length) Slot.unset).toArray) []) (by rw [ha]; exact lg_entry_eq _ _ _) ?_
  generalize (lg_sl ([.int x0] : List Value) ++ List.replicate (1 - (lg_sl ([.int x0] : List Value)).length) Slot.unset).toArray = ls at hl ⊢
  have hl : lv_has ls 1 [(0, .int x0)] := hl
  rw [f5_throwIfNoPosition] at hF
  show xW p l e wsX5_throwIfNoPosition rm5_throwIfNoPosition s m args below meth c D k none A0 ([] : va_W) 1 6 s.heap [] 0 0 (F0 m 0 ls [])
  refine lv_iload_n hx hb dX5_throwIfNoPosition_0 rfl (lv_at hl 0 rfl) ?_
  refine lv_if_lt (tgt := 10) hx hb dX5_throwIfNoPosition_1 (by decide) (fun c1 => ?_) (fun c1 => ?_)
  · rw [if_pos c1] at hF
    cases hF
    exact xthrow (k := 1) (text := "there is no such position") (names := ["java/lang/RuntimeException", "java/lang/Exception"]) rfl (by decide) hx hb hfl hown (by decide +kernel) (by decide +kernel) (hts _ wd_176) (hts _ wd_31) (hX.1 (214, "there is no such position") (by decide +kernel)) at167g at167b hts hX ot167 hZ hS (hl.1.trans hml.symm) dX5_throwIfNoPosition_10 dX5_throwIfNoPosition_13 dX5_throwIfNoPosition_14 dX5_throwIfNoPosition_16 dX5_throwIfNoPosition_19 hout (Nat.le_of_ble_eq_true rfl) (Nat.le_of_ble_eq_true rfl) (Nat.le_of_ble_eq_true rfl) (Nat.le_of_ble_eq_true rfl) hlocks hP (Nat.le_of_ble_eq_true rfl) (Nat.le_of_ble_eq_true rfl)
  · rw [if_neg c1] at hF
    refine lv_iload_n hx hb dX5_throwIfNoPosition_4 rfl (lv_at hl 0 rfl) ?_
    refine lv_bipush hx hb dX5_throwIfNoPosition_5 kc_bipush_6 ?_
    refine lv_icmp_lt (tgt := 20) hx hb dX5_throwIfNoPosition_7 (by decide) (fun c2 => ?_) (fun c2 => ?_)
    · rw [if_pos c2] at hF
      cases hF
      exact xretv (Nat.le_of_ble_eq_true rfl) (Nat.le_of_ble_eq_true rfl) hx hb hr hlocks hP hS dX5_throwIfNoPosition_20
    · rw [if_neg c2] at hF
      cases hF
      exact xthrow (k := 1) (text := "there is no such position") (names := ["java/lang/RuntimeException", "java/lang/Exception"]) rfl (by decide) hx hb hfl hown (by decide +kernel) (by decide +kernel) (hts _ wd_176) (hts _ wd_31) (hX.1 (214, "there is no such position") (by decide +kernel)) at167g at167b hts hX ot167 hZ hS (hl.1.trans hml.symm) dX5_throwIfNoPosition_10 dX5_throwIfNoPosition_13 dX5_throwIfNoPosition_14 dX5_throwIfNoPosition_16 dX5_throwIfNoPosition_19 hout (Nat.le_of_ble_eq_true rfl) (Nat.le_of_ble_eq_true rfl) (Nat.le_of_ble_eq_true rfl) (Nat.le_of_ble_eq_true rfl) hlocks hP (Nat.le_of_ble_eq_true rfl) (Nat.le_of_ble_eq_true rfl)
abbrev rm5_throwIfNoSerial : Room := { frames := 6, cells := 1, slots := 6, locals := 82 }
theorem hdn5_throwIfNoSerial : yX5_throwIfNoSerial.cls ≠ "java/lang/invoke/MethodHandle" ∧ yX5_throwIfNoSerial.cls ≠ "java/lang/invoke/VarHandle" ∧ (parseMethodDescriptor yX5_throwIfNoSerial.desc).map (fun d => d.parameters.length) = some 1 := by decide +kernel
set_option maxHeartbeats 4000000 in
set_option maxRecDepth 100000 in
theorem K5_throwIfNoSerial (l : Launch) (hfl : l.stackTraces = false) (D : va_G) (cI cZ cS cJ : ClassId) (x0 : Int32) (k : Nat) (hF : f5_throwIfNoSerial x0 = some (k)) : vx_Met l yX5_throwIfNoSerial wsX5_throwIfNoSerial rm5_throwIfNoSerial (xP D (gT cI cZ cS cJ) ([] : va_W) [.int x0]) (xQ D k none (uA ([] : va_W)) ([] : va_W)) (xX D k (uA ([] : va_W)) ([] : va_W)) 1 6 (uA ([] : va_W)) := by
  refine vx_ofW (cc := cX5_throwIfNoSerial) (maxL := 1) (ret := none) (by decide) rfl ?_
  intro p e s m args below meth c s₁ B hml hout hv
  obtain ⟨ha, hK, hP, hD0, hX, hZ⟩ := hv
  have hx := B.exec
  have hb := B.bytes
  have hr := B.returns
  have hlocks := B.notSynchronized
  have hts : ∀ w ∈ lw_all, w.before args s = true := fun w h => atoms_spec (ws := wsX5_throwIfNoSerial) B.pre w (List.mem_cons_of_mem _ h)
  have hown : s.vm.findClass RX5 = some m.cls := findClass_of_methodNamed B.named
  have S : CallFix p m c cX5_throwIfNoSerial 1 s args lw_all RX5 := ⟨hx, hb, hml, hown, hts⟩
  have hD := hD0.own
  generalize uA ([] : va_W) = A0 at hD hZ ⊢
  have hS : va_S A0 s.heap s.heap [] := va_S.rf
  have hl := lv_entry ([.int x0] : List Value) (n := 1) (Nat.le_of_ble_eq_true rfl)
  refine W.eq (g2 := F0 m 0 ((lg_sl ([.int x0] : List Value) ++ List.replicate (1 - (lg_sl ([.int x0] : List Value)).length) Slot.unset).toArray) []) (by rw [ha]; exact lg_entry_eq _ _ _) ?_
  generalize (lg_sl ([.int x0] : List Value) ++ List.replicate (1 - (lg_sl ([.int x0] : List Value)).length) Slot.unset).toArray = ls at hl ⊢
  have hl : lv_has ls 1 [(0, .int x0)] := hl
  rw [f5_throwIfNoSerial] at hF
  show xW p l e wsX5_throwIfNoSerial rm5_throwIfNoSerial s m args below meth c D k none A0 ([] : va_W) 1 6 s.heap [] 0 0 (F0 m 0 ls [])
  refine lv_iload_n hx hb dX5_throwIfNoSerial_0 rfl (lv_at hl 0 rfl) ?_
  obtain ⟨q2, h1, hF⟩ := bd1_at hF
  refine rcall (va_runS (As := [.int x0]) (rest := []) S (K5_isSerial l D cI cZ cS cJ x0 q2 h1) (va_cwS 1 hts (gd_S wd_157 wd_158 wd_22 wd_159) rfl rfl rfl hdn5_isSerial ⟨Nat.le_of_ble_eq_true rfl, Nat.le_of_ble_eq_true rfl⟩) (rPreS hK hP) rfl rfl hl.1 rfl (lv_room (Nat.le_of_ble_eq_true rfl)) dX5_throwIfNoSerial_1 ⟨(Nat.le_of_ble_eq_true rfl), (Nat.le_of_ble_eq_true rfl)⟩) ?_
  refine lv_if_ne (tgt := 17) hx hb dX5_throwIfNoSerial_4 (by decide) (fun c3 => ?_) (fun c3 => ?_)
  · rw [if_neg c3] at hF
    cases hF
    exact xretv (Nat.le_of_ble_eq_true rfl) (Nat.le_of_ble_eq_true rfl) hx hb hr hlocks hP hS dX5_throwIfNoSerial_17
  · rw [if_pos c3] at hF
    cases hF
    exact xthrow (k := 1) (text := "there is no such serial") (names := ["java/lang/RuntimeException", "java/lang/Exception"]) rfl (by decide) hx hb hfl hown (by decide +kernel) (by decide +kernel) (hts _ wd_176) (hts _ wd_31) (hX.1 (245, "there is no such serial") (by decide +kernel)) at167g at167b hts hX ot167 hZ hS (hl.1.trans hml.symm) dX5_throwIfNoSerial_7 dX5_throwIfNoSerial_10 dX5_throwIfNoSerial_11 dX5_throwIfNoSerial_13 dX5_throwIfNoSerial_16 hout (Nat.le_of_ble_eq_true rfl) (Nat.le_of_ble_eq_true rfl) (Nat.le_of_ble_eq_true rfl) (Nat.le_of_ble_eq_true rfl) hlocks hP (Nat.le_of_ble_eq_true rfl) (Nat.le_of_ble_eq_true rfl)
abbrev rm5_throwIfNoLetter : Room := { frames := 6, cells := 1, slots := 6, locals := 82 }
theorem hdn5_throwIfNoLetter : yX5_throwIfNoLetter.cls ≠ "java/lang/invoke/MethodHandle" ∧ yX5_throwIfNoLetter.cls ≠ "java/lang/invoke/VarHandle" ∧ (parseMethodDescriptor yX5_throwIfNoLetter.desc).map (fun d => d.parameters.length) = some 1 := by decide +kernel
set_option maxHeartbeats 4000000 in
set_option maxRecDepth 100000 in
theorem K5_throwIfNoLetter (l : Launch) (hfl : l.stackTraces = false) (D : va_G) (cI cZ cS cJ : ClassId) (x0 : Int32) (k : Nat) (hF : f5_throwIfNoLetter x0 = some (k)) : vx_Met l yX5_throwIfNoLetter wsX5_throwIfNoLetter rm5_throwIfNoLetter (xP D (gT cI cZ cS cJ) ([] : va_W) [.int x0]) (xQ D k none (uA ([] : va_W)) ([] : va_W)) (xX D k (uA ([] : va_W)) ([] : va_W)) 1 6 (uA ([] : va_W)) := by
  refine vx_ofW (cc := cX5_throwIfNoLetter) (maxL := 1) (ret := none) (by decide) rfl ?_
  intro p e s m args below meth c s₁ B hml hout hv
  obtain ⟨ha, hK, hP, hD0, hX, hZ⟩ := hv
  have hx := B.exec
  have hb := B.bytes
  have hr := B.returns
  have hlocks := B.notSynchronized
  have hts : ∀ w ∈ lw_all, w.before args s = true := fun w h => atoms_spec (ws := wsX5_throwIfNoLetter) B.pre w (List.mem_cons_of_mem _ h)
  have hown : s.vm.findClass RX5 = some m.cls := findClass_of_methodNamed B.named
  have S : CallFix p m c cX5_throwIfNoLetter 1 s args lw_all RX5 := ⟨hx, hb, hml, hown, hts⟩
  have hD := hD0.own
  generalize uA ([] : va_W) = A0 at hD hZ ⊢
  have hS : va_S A0 s.heap s.heap [] := va_S.rf
  have hl := lv_entry ([.int x0] : List Value) (n := 1) (Nat.le_of_ble_eq_true rfl)
  refine W.eq (g2 := F0 m 0 ((lg_sl ([.int x0] : List Value) ++ List.replicate (1 - (lg_sl ([.int x0] : List Value)).length) Slot.unset).toArray) []) (by rw [ha]; exact lg_entry_eq _ _ _) ?_
  generalize (lg_sl ([.int x0] : List Value) ++ List.replicate (1 - (lg_sl ([.int x0] : List Value)).length) Slot.unset).toArray = ls at hl ⊢
  have hl : lv_has ls 1 [(0, .int x0)] := hl
  rw [f5_throwIfNoLetter] at hF
  show xW p l e wsX5_throwIfNoLetter rm5_throwIfNoLetter s m args below meth c D k none A0 ([] : va_W) 1 6 s.heap [] 0 0 (F0 m 0 ls [])
  refine lv_iload_n hx hb dX5_throwIfNoLetter_0 rfl (lv_at hl 0 rfl) ?_
  refine lv_if_lt (tgt := 10) hx hb dX5_throwIfNoLetter_1 (by decide) (fun c1 => ?_) (fun c1 => ?_)
  · rw [if_pos c1] at hF
    cases hF
    exact xthrow (k := 2) (text := "a letter is 0 to 25") (names := ["java/lang/RuntimeException", "java/lang/Exception"]) rfl (by decide) hx hb hfl hown (by decide +kernel) (by decide +kernel) (hts _ wd_244) (hts _ wd_32) (hX.1 (247, "a letter is 0 to 25") (by decide +kernel)) at38g at38b hts hX ot38 hZ hS (hl.1.trans hml.symm) dX5_throwIfNoLetter_10 dX5_throwIfNoLetter_13 dX5_throwIfNoLetter_14 dX5_throwIfNoLetter_16 dX5_throwIfNoLetter_19 hout (Nat.le_of_ble_eq_true rfl) (Nat.le_of_ble_eq_true rfl) (Nat.le_of_ble_eq_true rfl) (Nat.le_of_ble_eq_true rfl) hlocks hP (Nat.le_of_ble_eq_true rfl) (Nat.le_of_ble_eq_true rfl)
  · rw [if_neg c1] at hF
    refine lv_iload_n hx hb dX5_throwIfNoLetter_4 rfl (lv_at hl 0 rfl) ?_
    refine lv_bipush hx hb dX5_throwIfNoLetter_5 kc_bipush_26 ?_
    refine lv_icmp_lt (tgt := 20) hx hb dX5_throwIfNoLetter_7 (by decide) (fun c2 => ?_) (fun c2 => ?_)
    · rw [if_pos c2] at hF
      cases hF
      exact xretv (Nat.le_of_ble_eq_true rfl) (Nat.le_of_ble_eq_true rfl) hx hb hr hlocks hP hS dX5_throwIfNoLetter_20
    · rw [if_neg c2] at hF
      cases hF
      exact xthrow (k := 2) (text := "a letter is 0 to 25") (names := ["java/lang/RuntimeException", "java/lang/Exception"]) rfl (by decide) hx hb hfl hown (by decide +kernel) (by decide +kernel) (hts _ wd_244) (hts _ wd_32) (hX.1 (247, "a letter is 0 to 25") (by decide +kernel)) at38g at38b hts hX ot38 hZ hS (hl.1.trans hml.symm) dX5_throwIfNoLetter_10 dX5_throwIfNoLetter_13 dX5_throwIfNoLetter_14 dX5_throwIfNoLetter_16 dX5_throwIfNoLetter_19 hout (Nat.le_of_ble_eq_true rfl) (Nat.le_of_ble_eq_true rfl) (Nat.le_of_ble_eq_true rfl) (Nat.le_of_ble_eq_true rfl) hlocks hP (Nat.le_of_ble_eq_true rfl) (Nat.le_of_ble_eq_true rfl)
abbrev rm5_throwIfNoSlipKind : Room := { frames := 6, cells := 1, slots := 6, locals := 82 }
theorem hdn5_throwIfNoSlipKind : yX5_throwIfNoSlipKind.cls ≠ "java/lang/invoke/MethodHandle" ∧ yX5_throwIfNoSlipKind.cls ≠ "java/lang/invoke/VarHandle" ∧ (parseMethodDescriptor yX5_throwIfNoSlipKind.desc).map (fun d => d.parameters.length) = some 1 := by decide +kernel
set_option maxHeartbeats 4000000 in
set_option maxRecDepth 100000 in
theorem K5_throwIfNoSlipKind (l : Launch) (hfl : l.stackTraces = false) (D : va_G) (cI cZ cS cJ : ClassId) (x0 : Int32) (k : Nat) (hF : f5_throwIfNoSlipKind x0 = some (k)) : vx_Met l yX5_throwIfNoSlipKind wsX5_throwIfNoSlipKind rm5_throwIfNoSlipKind (xP D (gT cI cZ cS cJ) ([] : va_W) [.int x0]) (xQ D k none (uA ([] : va_W)) ([] : va_W)) (xX D k (uA ([] : va_W)) ([] : va_W)) 1 6 (uA ([] : va_W)) := by
  refine vx_ofW (cc := cX5_throwIfNoSlipKind) (maxL := 1) (ret := none) (by decide) rfl ?_
  intro p e s m args below meth c s₁ B hml hout hv
  obtain ⟨ha, hK, hP, hD0, hX, hZ⟩ := hv
  have hx := B.exec
  have hb := B.bytes
  have hr := B.returns
  have hlocks := B.notSynchronized
  have hts : ∀ w ∈ lw_all, w.before args s = true := fun w h => atoms_spec (ws := wsX5_throwIfNoSlipKind) B.pre w (List.mem_cons_of_mem _ h)
  have hown : s.vm.findClass RX5 = some m.cls := findClass_of_methodNamed B.named
  have S : CallFix p m c cX5_throwIfNoSlipKind 1 s args lw_all RX5 := ⟨hx, hb, hml, hown, hts⟩
  have hD := hD0.own
  generalize uA ([] : va_W) = A0 at hD hZ ⊢
  have hS : va_S A0 s.heap s.heap [] := va_S.rf
  have hl := lv_entry ([.int x0] : List Value) (n := 1) (Nat.le_of_ble_eq_true rfl)
  refine W.eq (g2 := F0 m 0 ((lg_sl ([.int x0] : List Value) ++ List.replicate (1 - (lg_sl ([.int x0] : List Value)).length) Slot.unset).toArray) []) (by rw [ha]; exact lg_entry_eq _ _ _) ?_
  generalize (lg_sl ([.int x0] : List Value) ++ List.replicate (1 - (lg_sl ([.int x0] : List Value)).length) Slot.unset).toArray = ls at hl ⊢
  have hl : lv_has ls 1 [(0, .int x0)] := hl
  rw [f5_throwIfNoSlipKind] at hF
  show xW p l e wsX5_throwIfNoSlipKind rm5_throwIfNoSlipKind s m args below meth c D k none A0 ([] : va_W) 1 6 s.heap [] 0 0 (F0 m 0 ls [])
  refine lv_iload_n hx hb dX5_throwIfNoSlipKind_0 rfl (lv_at hl 0 rfl) ?_
  refine lv_if_lt (tgt := 9) hx hb dX5_throwIfNoSlipKind_1 (by decide) (fun c1 => ?_) (fun c1 => ?_)
  · rw [if_pos c1] at hF
    cases hF
    exact xthrow (k := 2) (text := "a kind of slips is 0 to 2") (names := ["java/lang/RuntimeException", "java/lang/Exception"]) rfl (by decide) hx hb hfl hown (by decide +kernel) (by decide +kernel) (hts _ wd_244) (hts _ wd_32) (hX.1 (249, "a kind of slips is 0 to 2") (by decide +kernel)) at38g at38b hts hX ot38 hZ hS (hl.1.trans hml.symm) dX5_throwIfNoSlipKind_9 dX5_throwIfNoSlipKind_12 dX5_throwIfNoSlipKind_13 dX5_throwIfNoSlipKind_15 dX5_throwIfNoSlipKind_18 hout (Nat.le_of_ble_eq_true rfl) (Nat.le_of_ble_eq_true rfl) (Nat.le_of_ble_eq_true rfl) (Nat.le_of_ble_eq_true rfl) hlocks hP (Nat.le_of_ble_eq_true rfl) (Nat.le_of_ble_eq_true rfl)
  · rw [if_neg c1] at hF
    refine lv_iload_n hx hb dX5_throwIfNoSlipKind_4 rfl (lv_at hl 0 rfl) ?_
    refine lv_iconst hx hb dX5_throwIfNoSlipKind_5 kc_iconst_2 ?_
    refine lv_icmp_le (tgt := 19) hx hb dX5_throwIfNoSlipKind_6 (by decide) (fun c2 => ?_) (fun c2 => ?_)
    · rw [if_pos c2] at hF
      cases hF
      exact xretv (Nat.le_of_ble_eq_true rfl) (Nat.le_of_ble_eq_true rfl) hx hb hr hlocks hP hS dX5_throwIfNoSlipKind_19
    · rw [if_neg c2] at hF
      cases hF
      exact xthrow (k := 2) (text := "a kind of slips is 0 to 2") (names := ["java/lang/RuntimeException", "java/lang/Exception"]) rfl (by decide) hx hb hfl hown (by decide +kernel) (by decide +kernel) (hts _ wd_244) (hts _ wd_32) (hX.1 (249, "a kind of slips is 0 to 2") (by decide +kernel)) at38g at38b hts hX ot38 hZ hS (hl.1.trans hml.symm) dX5_throwIfNoSlipKind_9 dX5_throwIfNoSlipKind_12 dX5_throwIfNoSlipKind_13 dX5_throwIfNoSlipKind_15 dX5_throwIfNoSlipKind_18 hout (Nat.le_of_ble_eq_true rfl) (Nat.le_of_ble_eq_true rfl) (Nat.le_of_ble_eq_true rfl) (Nat.le_of_ble_eq_true rfl) hlocks hP (Nat.le_of_ble_eq_true rfl) (Nat.le_of_ble_eq_true rfl)
abbrev rm5_throwIfNoSlot : Room := { frames := 6, cells := 1, slots := 6, locals := 82 }
theorem hdn5_throwIfNoSlot : yX5_throwIfNoSlot.cls ≠ "java/lang/invoke/MethodHandle" ∧ yX5_throwIfNoSlot.cls ≠ "java/lang/invoke/VarHandle" ∧ (parseMethodDescriptor yX5_throwIfNoSlot.desc).map (fun d => d.parameters.length) = some 1 := by decide +kernel
set_option maxHeartbeats 4000000 in
set_option maxRecDepth 100000 in
theorem K5_throwIfNoSlot (l : Launch) (hfl : l.stackTraces = false) (D : va_G) (cI cZ cS cJ : ClassId) (x0 : Int32) (k : Nat) (hF : f5_throwIfNoSlot x0 = some (k)) : vx_Met l yX5_throwIfNoSlot wsX5_throwIfNoSlot rm5_throwIfNoSlot (xP D (gT cI cZ cS cJ) ([] : va_W) [.int x0]) (xQ D k none (uA ([] : va_W)) ([] : va_W)) (xX D k (uA ([] : va_W)) ([] : va_W)) 1 6 (uA ([] : va_W)) := by
  refine vx_ofW (cc := cX5_throwIfNoSlot) (maxL := 1) (ret := none) (by decide) rfl ?_
  intro p e s m args below meth c s₁ B hml hout hv
  obtain ⟨ha, hK, hP, hD0, hX, hZ⟩ := hv
  have hx := B.exec
  have hb := B.bytes
  have hr := B.returns
  have hlocks := B.notSynchronized
  have hts : ∀ w ∈ lw_all, w.before args s = true := fun w h => atoms_spec (ws := wsX5_throwIfNoSlot) B.pre w (List.mem_cons_of_mem _ h)
  have hown : s.vm.findClass RX5 = some m.cls := findClass_of_methodNamed B.named
  have S : CallFix p m c cX5_throwIfNoSlot 1 s args lw_all RX5 := ⟨hx, hb, hml, hown, hts⟩
  have hD := hD0.own
  generalize uA ([] : va_W) = A0 at hD hZ ⊢
  have hS : va_S A0 s.heap s.heap [] := va_S.rf
  have hl := lv_entry ([.int x0] : List Value) (n := 1) (Nat.le_of_ble_eq_true rfl)
  refine W.eq (g2 := F0 m 0 ((lg_sl ([.int x0] : List Value) ++ List.replicate (1 - (lg_sl ([.int x0] : List Value)).length) Slot.unset).toArray) []) (by rw [ha]; exact lg_entry_eq _ _ _) ?_
  generalize (lg_sl ([.int x0] : List Value) ++ List.replicate (1 - (lg_sl ([.int x0] : List Value)).length) Slot.unset).toArray = ls at hl ⊢
  have hl : lv_has ls 1 [(0, .int x0)] := hl
  rw [f5_throwIfNoSlot] at hF
  show xW p l e wsX5_throwIfNoSlot rm5_throwIfNoSlot s m args below meth c D k none A0 ([] : va_W) 1 6 s.heap [] 0 0 (F0 m 0 ls [])
  refine lv_iload_n hx hb dX5_throwIfNoSlot_0 rfl (lv_at hl 0 rfl) ?_
  refine lv_if_lt (tgt := 9) hx hb dX5_throwIfNoSlot_1 (by decide) (fun c1 => ?_) (fun c1 => ?_)
  · rw [if_pos c1] at hF
    cases hF
    exact xthrow (k := 2) (text := "a slot is 0 or 1") (names := ["java/lang/RuntimeException", "java/lang/Exception"]) rfl (by decide) hx hb hfl hown (by decide +kernel) (by decide +kernel) (hts _ wd_244) (hts _ wd_32) (hX.1 (251, "a slot is 0 or 1") (by decide +kernel)) at38g at38b hts hX ot38 hZ hS (hl.1.trans hml.symm) dX5_throwIfNoSlot_9 dX5_throwIfNoSlot_12 dX5_throwIfNoSlot_13 dX5_throwIfNoSlot_15 dX5_throwIfNoSlot_18 hout (Nat.le_of_ble_eq_true rfl) (Nat.le_of_ble_eq_true rfl) (Nat.le_of_ble_eq_true rfl) (Nat.le_of_ble_eq_true rfl) hlocks hP (Nat.le_of_ble_eq_true rfl) (Nat.le_of_ble_eq_true rfl)
  · rw [if_neg c1] at hF
    refine lv_iload_n hx hb dX5_throwIfNoSlot_4 rfl (lv_at hl 0 rfl) ?_
    refine lv_iconst hx hb dX5_throwIfNoSlot_5 kc_iconst_2 ?_
    refine lv_icmp_lt (tgt := 19) hx hb dX5_throwIfNoSlot_6 (by decide) (fun c2 => ?_) (fun c2 => ?_)
    · rw [if_pos c2] at hF
      cases hF
      exact xretv (Nat.le_of_ble_eq_true rfl) (Nat.le_of_ble_eq_true rfl) hx hb hr hlocks hP hS dX5_throwIfNoSlot_19
    · rw [if_neg c2] at hF
      cases hF
      exact xthrow (k := 2) (text := "a slot is 0 or 1") (names := ["java/lang/RuntimeException", "java/lang/Exception"]) rfl (by decide) hx hb hfl hown (by decide +kernel) (by decide +kernel) (hts _ wd_244) (hts _ wd_32) (hX.1 (251, "a slot is 0 or 1") (by decide +kernel)) at38g at38b hts hX ot38 hZ hS (hl.1.trans hml.symm) dX5_throwIfNoSlot_9 dX5_throwIfNoSlot_12 dX5_throwIfNoSlot_13 dX5_throwIfNoSlot_15 dX5_throwIfNoSlot_18 hout (Nat.le_of_ble_eq_true rfl) (Nat.le_of_ble_eq_true rfl) (Nat.le_of_ble_eq_true rfl) (Nat.le_of_ble_eq_true rfl) hlocks hP (Nat.le_of_ble_eq_true rfl) (Nat.le_of_ble_eq_true rfl)
abbrev rm5_throwIfFaulty : Room := { frames := 6, cells := 1, slots := 6, locals := 82 }
theorem hdn5_throwIfFaulty : yX5_throwIfFaulty.cls ≠ "java/lang/invoke/MethodHandle" ∧ yX5_throwIfFaulty.cls ≠ "java/lang/invoke/VarHandle" ∧ (parseMethodDescriptor yX5_throwIfFaulty.desc).map (fun d => d.parameters.length) = some 1 := by decide +kernel
set_option maxHeartbeats 4000000 in
set_option maxRecDepth 100000 in
theorem K5_throwIfFaulty (l : Launch) (hfl : l.stackTraces = false) (D : va_G) (cI cZ cS cJ : ClassId) (x0 : Int32) (k : Nat) (hF : f5_throwIfFaulty x0 = some (k)) : vx_Met l yX5_throwIfFaulty wsX5_throwIfFaulty rm5_throwIfFaulty (xP D (gT cI cZ cS cJ) ([] : va_W) [.int x0]) (xQ D k none (uA ([] : va_W)) ([] : va_W)) (xX D k (uA ([] : va_W)) ([] : va_W)) 1 6 (uA ([] : va_W)) := by
  refine vx_ofW (cc := cX5_throwIfFaulty) (maxL := 1) (ret := none) (by decide) rfl ?_
  intro p e s m args below meth c s₁ B hml hout hv
  obtain ⟨ha, hK, hP, hD0, hX, hZ⟩ := hv
  have hx := B.exec
  have hb := B.bytes
  have hr := B.returns
  have hlocks := B.notSynchronized
  have hts : ∀ w ∈ lw_all, w.before args s = true := fun w h => atoms_spec (ws := wsX5_throwIfFaulty) B.pre w (List.mem_cons_of_mem _ h)
  have hown : s.vm.findClass RX5 = some m.cls := findClass_of_methodNamed B.named
  have S : CallFix p m c cX5_throwIfFaulty 1 s args lw_all RX5 := ⟨hx, hb, hml, hown, hts⟩
  have hD := hD0.own
  generalize uA ([] : va_W) = A0 at hD hZ ⊢
  have hS : va_S A0 s.heap s.heap [] := va_S.rf
  have hl := lv_entry ([.int x0] : List Value) (n := 1) (Nat.le_of_ble_eq_true rfl)
  refine W.eq (g2 := F0 m 0 ((lg_sl ([.int x0] : List Value) ++ List.replicate (1 - (lg_sl ([.int x0] : List Value)).length) Slot.unset).toArray) []) (by rw [ha]; exact lg_entry_eq _ _ _) ?_
  generalize (lg_sl ([.int x0] : List Value) ++ List.replicate (1 - (lg_sl ([.int x0] : List Value)).length) Slot.unset).toArray = ls at hl ⊢
  have hl : lv_has ls 1 [(0, .int x0)] := hl
  rw [f5_throwIfFaulty] at hF
  show xW p l e wsX5_throwIfFaulty rm5_throwIfFaulty s m args below meth c D k none A0 ([] : va_W) 1 6 s.heap [] 0 0 (F0 m 0 ls [])
  refine lv_iload_n hx hb dX5_throwIfFaulty_0 rfl (lv_at hl 0 rfl) ?_
  refine lv_iconst hx hb dX5_throwIfFaulty_1 kc_iconst_1 ?_
  refine lv_icmp_ne (tgt := 15) hx hb dX5_throwIfFaulty_2 (by decide) (fun c1 => ?_) (fun c1 => ?_)
  · rw [if_neg c1] at hF
    refine lv_iload_n hx hb dX5_throwIfFaulty_15 rfl (lv_at hl 0 rfl) ?_
    refine lv_iconst hx hb dX5_throwIfFaulty_16 kc_iconst_2 ?_
    refine lv_icmp_ne (tgt := 30) hx hb dX5_throwIfFaulty_17 (by decide) (fun c2 => ?_) (fun c2 => ?_)
    · rw [if_neg c2] at hF
      refine lv_iload_n hx hb dX5_throwIfFaulty_30 rfl (lv_at hl 0 rfl) ?_
      refine lv_iconst hx hb dX5_throwIfFaulty_31 kc_iconst_3 ?_
      refine lv_icmp_ne (tgt := 46) hx hb dX5_throwIfFaulty_32 (by decide) (fun c3 => ?_) (fun c3 => ?_)
      · rw [if_neg c3] at hF
        cases hF
        exact xretv (Nat.le_of_ble_eq_true rfl) (Nat.le_of_ble_eq_true rfl) hx hb hr hlocks hP hS dX5_throwIfFaulty_46
      · rw [if_pos c3] at hF
        cases hF
        exact xthrowW (k := 3) (text := "the books do not allow it") (names := ["java/lang/RuntimeException", "java/lang/Exception"]) rfl (by decide) hx hb hfl hown (by decide +kernel) (by decide +kernel) (hts _ wd_260) (hts _ wd_33) (hX.1 (257, "the books do not allow it") (by decide +kernel)) at118g at118b hts hX ot118 hZ hS (hl.1.trans hml.symm) dX5_throwIfFaulty_35 dX5_throwIfFaulty_38 dX5_throwIfFaulty_39 dX5_throwIfFaulty_42 dX5_throwIfFaulty_45 hout (Nat.le_of_ble_eq_true rfl) (Nat.le_of_ble_eq_true rfl) (Nat.le_of_ble_eq_true rfl) (Nat.le_of_ble_eq_true rfl) hlocks hP (Nat.le_of_ble_eq_true rfl) (Nat.le_of_ble_eq_true rfl)
    · rw [if_pos c2] at hF
      cases hF
      exact xthrow (k := 2) (text := "a number is out of range") (names := ["java/lang/RuntimeException", "java/lang/Exception"]) rfl (by decide) hx hb hfl hown (by decide +kernel) (by decide +kernel) (hts _ wd_244) (hts _ wd_32) (hX.1 (255, "a number is out of range") (by decide +kernel)) at38g at38b hts hX ot38 hZ hS (hl.1.trans hml.symm) dX5_throwIfFaulty_20 dX5_throwIfFaulty_23 dX5_throwIfFaulty_24 dX5_throwIfFaulty_26 dX5_throwIfFaulty_29 hout (Nat.le_of_ble_eq_true rfl) (Nat.le_of_ble_eq_true rfl) (Nat.le_of_ble_eq_true rfl) (Nat.le_of_ble_eq_true rfl) hlocks hP (Nat.le_of_ble_eq_true rfl) (Nat.le_of_ble_eq_true rfl)
  · rw [if_pos c1] at hF
    cases hF
    exact xthrow (k := 1) (text := "there is no such serial or cheque") (names := ["java/lang/RuntimeException", "java/lang/Exception"]) rfl (by decide) hx hb hfl hown (by decide +kernel) (by decide +kernel) (hts _ wd_176) (hts _ wd_31) (hX.1 (253, "there is no such serial or cheque") (by decide +kernel)) at167g at167b hts hX ot167 hZ hS (hl.1.trans hml.symm) dX5_throwIfFaulty_5 dX5_throwIfFaulty_8 dX5_throwIfFaulty_9 dX5_throwIfFaulty_11 dX5_throwIfFaulty_14 hout (Nat.le_of_ble_eq_true rfl) (Nat.le_of_ble_eq_true rfl) (Nat.le_of_ble_eq_true rfl) (Nat.le_of_ble_eq_true rfl) hlocks hP (Nat.le_of_ble_eq_true rfl) (Nat.le_of_ble_eq_true rfl)
abbrev rm5_faultOfBook : Room := { frames := 2, cells := 0, slots := 0, locals := 45 }
theorem hd5_faultOfBook : yX5_faultOfBook.cls = RX5 ∧ yX5_faultOfBook.cls ≠ "java/lang/invoke/MethodHandle" ∧ yX5_faultOfBook.cls ≠ "java/lang/invoke/VarHandle" ∧ (parseMethodDescriptor yX5_faultOfBook.desc).map (fun d => d.parameters.length) = some 2 := by decide +kernel
set_option maxHeartbeats 4000000 in
set_option maxRecDepth 100000 in
theorem K5_faultOfBook (l : Launch) (D : va_G) (cI cZ cS cJ : ClassId) (aC aS aL aW aB aF aZ aK aM aO aT aY aV aU aR : Nat) (kQ : Nat → SA) (sr : Int32) (wm : Int32) (wW : Nat → Int32) (bh : Int32) (bF : Nat → Int32) (bZ : Nat → Int32) (bK : Nat → Int32) (bM : Nat → Int32) (ol : Int32) (oS : Nat → Int32) (kd : Int32) (kf : Nat → Int32) (kA : Nat → SA) (kV : Nat → SV) (kP : Nat → SV) (x1 : Int32) (x2 : Int32) (r : Int32) (hF : f5_faultOfBook bh bF bZ x1 x2 = some (r)) : Met l yX5_faultOfBook wsX5_faultOfBook rm5_faultOfBook (rP D (gT cI cZ cS cJ) ((W5x cI aC aS aL aW aB aF aZ aK aM aO aT aY sr wm wW bh bF bZ bK bM ol oS) ++ (HB cI cZ cS aY aV aU aR kd kf kA kV kQ kP)) [.ref aC, .int x1, .int x2]) (rQ (.int r)) 0 0 (fun _ => False) := by
  refine Met.ofW (cc := cX5_faultOfBook) (maxL := 3) (ret := (some .int)) (by decide) rfl ?_
  intro p e s m args below meth c s₁ B hml hv
  obtain ⟨ha, hK, hP⟩ := hv
  have hx := B.exec
  have hb := B.bytes
  have hr := B.returns
  have hlocks := B.notSynchronized
  have hts : ∀ w ∈ lw_all, w.before args s = true := fun w h => atoms_spec (ws := wsX5_faultOfBook) B.pre w (List.mem_cons_of_mem _ h)
  have hown : s.vm.findClass RX5 = some m.cls := findClass_of_methodNamed B.named
  have S : CallFix p m c cX5_faultOfBook 3 s args lw_all RX5 := ⟨hx, hb, hml, hown, hts⟩
  have hl := lv_entry ([.ref aC, .int x1, .int x2] : List Value) (n := 3) (Nat.le_of_ble_eq_true rfl)
  refine W.eq (g2 := F0 m 0 ((lg_sl ([.ref aC, .int x1, .int x2] : List Value) ++ List.replicate (3 - (lg_sl ([.ref aC, .int x1, .int x2] : List Value)).length) Slot.unset).toArray) []) (by rw [ha]; exact lg_entry_eq _ _ _) ?_
  generalize (lg_sl ([.ref aC, .int x1, .int x2] : List Value) ++ List.replicate (3 - (lg_sl ([.ref aC, .int x1, .int x2] : List Value)).length) Slot.unset).toArray = ls at hl ⊢
  have hl : lv_has ls 3 [(0, .ref aC), (1, .int x1), (2, .int x2)] := hl
  rw [f5_faultOfBook] at hF
  show rW p l e wsX5_faultOfBook rm5_faultOfBook s m args below meth c (.int r) (F0 m 0 ls [])
  refine lv_iload_n hx hb dX5_faultOfBook_0 rfl (lv_at hl 1 rfl) ?_
  obtain ⟨q2, h1, hF⟩ := bd1_at hF
  refine rcall (va_runS (As := [.int x1]) (rest := []) S (K5_isSerial l D cI cZ cS cJ x1 q2 h1) (va_cwS 1 hts (gd_S wd_157 wd_158 wd_22 wd_159) rfl rfl rfl hdn5_isSerial ⟨Nat.le_of_ble_eq_true rfl, Nat.le_of_ble_eq_true rfl⟩) (rPreS hK (hP.sub (ws' := ([] : va_W)) [] rfl)) rfl rfl hl.1 rfl (lv_room (Nat.le_of_ble_eq_true rfl)) dX5_faultOfBook_1 ⟨(Nat.zero_le _), (Nat.zero_le _)⟩) ?_
  refine lv_if_ne (tgt := 9) hx hb dX5_faultOfBook_4 (by decide) (fun c3 => ?_) (fun c3 => ?_)
  · have hF := ite_f c3 hF
    refine lv_iload_n hx hb dX5_faultOfBook_9 rfl (lv_at hl 2 rfl) ?_
    refine lv_iconst hx hb dX5_faultOfBook_10 kc_iconst_1 ?_
    refine lv_icmp_lt (tgt := 20) hx hb dX5_faultOfBook_11 (by decide) (fun c4 => ?_) (fun c4 => ?_)
    · have hF := ite_t c4 hF
      refine lv_iconst hx hb dX5_faultOfBook_20 kc_iconst_2 ?_
      exact rret hF hx hb hr hlocks dX5_faultOfBook_21
    · have hF := ite_f c4 hF
      refine lv_iload_n hx hb dX5_faultOfBook_14 rfl (lv_at hl 2 rfl) ?_
      refine lv_bipush hx hb dX5_faultOfBook_15 kc_bipush_40 ?_
      refine lv_icmp_le (tgt := 22) hx hb dX5_faultOfBook_17 (by decide) (fun c5 => ?_) (fun c5 => ?_)
      · have hF := ite_t c5 hF
        refine lv_iload_n hx hb dX5_faultOfBook_22 rfl (lv_at hl 1 rfl) ?_
        refine lv_iload_n hx hb dX5_faultOfBook_23 rfl (lv_at hl 2 rfl) ?_
        refine lv_iadd hx hb dX5_faultOfBook_24 ?_
        refine lv_iconst hx hb dX5_faultOfBook_25 kc_iconst_1 ?_
        refine lv_isub hx hb dX5_faultOfBook_26 ?_
        obtain ⟨q7, h6, hF⟩ := bd1_at hF
        refine rcall (va_runS (As := [.int ((x1 + x2) - (1 : Int32))]) (rest := []) S (K5_isSerial l D cI cZ cS cJ ((x1 + x2) - (1 : Int32)) q7 h6) (va_cwS 1 hts (gd_S wd_157 wd_158 wd_22 wd_159) rfl rfl rfl hdn5_isSerial ⟨Nat.le_of_ble_eq_true rfl, Nat.le_of_ble_eq_true rfl⟩) (rPreS hK (hP.sub (ws' := ([] : va_W)) [] rfl)) rfl rfl hl.1 rfl (lv_room (Nat.le_of_ble_eq_true rfl)) dX5_faultOfBook_27 ⟨(Nat.zero_le _), (Nat.zero_le _)⟩) ?_
        refine lv_if_ne (tgt := 35) hx hb dX5_faultOfBook_30 (by decide) (fun c8 => ?_) (fun c8 => ?_)
        · have hF := ite_f c8 hF
          refine lv_aload_n hx hb dX5_faultOfBook_35 rfl (lv_at hl 0 rfl) ?_
          refine va_get (D := D) (ci := 5) (v := .ref aS) (C := RX5) (T := TX5) (N := 3) hx hb hts i_X5 hown hK.1 hP 0 rfl rfl 0 (by decide) (hts _ wd_139) (fun _ h9 => h9) rfl dX5_faultOfBook_36 ?_
          refine va_get (D := D) (ci := 4) (v := .ref aB) (C := RX4) (T := TX4) (N := 3) hx hb hts i_X4 hown hK.1 hP 1 rfl rfl 1 (by decide) (hts _ wd_91) (fun _ h9 => h9) rfl dX5_faultOfBook_39 ?_
          refine lv_iload_n hx hb dX5_faultOfBook_42 rfl (lv_at hl 1 rfl) ?_
          refine lv_iload_n hx hb dX5_faultOfBook_43 rfl (lv_at hl 2 rfl) ?_
          obtain ⟨q10, h9, hF⟩ := bd1_at hF
          refine rcall (va_runV (As := [.int x1, .int x2]) (rest := []) S (K0_canTake l D cI cZ cS cJ aB aF aZ aK aM bh bF bZ bK bM x1 x2 q10 h9) (cwV 2 hts (gd_V wd_161 wd_162 wd_163 wd_25 wd_164) rfl rfl rfl hd0_canTake ⟨Nat.le_of_ble_eq_true rfl, Nat.le_of_ble_eq_true rfl⟩) (rPreV hK (hP.sub (ws' := (W0 cI aB aF aZ aK aM bh bF bZ bK bM)) [4, 5, 6, 7, 8] rfl) (ci := 0) (q := (RX0, TX0, 5)) rfl rfl) rfl rfl hl.1 rfl (lv_room (Nat.le_of_ble_eq_true rfl)) dX5_faultOfBook_44 ⟨(Nat.zero_le _), (Nat.zero_le _)⟩) ?_
          refine lv_if_eq (tgt := 54) hx hb dX5_faultOfBook_47 (by decide) (fun c11 => ?_) (fun c11 => ?_)
          · rw [if_pos c11] at hF
            refine lv_iconst hx hb dX5_faultOfBook_54 kc_iconst_3 ?_
            exact rret hF hx hb hr hlocks dX5_faultOfBook_55
          · rw [if_neg c11] at hF
            refine lv_iconst hx hb dX5_faultOfBook_50 kc_iconst_0 ?_
            refine lv_goto (tgt := 55) hx hb dX5_faultOfBook_51 (by decide) ?_
            exact rret hF hx hb hr hlocks dX5_faultOfBook_55
        · have hF := ite_t c8 hF
          refine lv_iconst hx hb dX5_faultOfBook_33 kc_iconst_1 ?_
          exact rret hF hx hb hr hlocks dX5_faultOfBook_34
      · have hF := ite_f c5 hF
        refine lv_iconst hx hb dX5_faultOfBook_20 kc_iconst_2 ?_
        exact rret hF hx hb hr hlocks dX5_faultOfBook_21
  · have hF := ite_t c3 hF
    refine lv_iconst hx hb dX5_faultOfBook_7 kc_iconst_1 ?_
    exact rret hF hx hb hr hlocks dX5_faultOfBook_8
abbrev rm5_faultOfWriting : Room := { frames := 2, cells := 0, slots := 0, locals := 44 }
theorem hd5_faultOfWriting : yX5_faultOfWriting.cls = RX5 ∧ yX5_faultOfWriting.cls ≠ "java/lang/invoke/MethodHandle" ∧ yX5_faultOfWriting.cls ≠ "java/lang/invoke/VarHandle" ∧ (parseMethodDescriptor yX5_faultOfWriting.desc).map (fun d => d.parameters.length) = some 2 := by decide +kernel
set_option maxHeartbeats 4000000 in
set_option maxRecDepth 100000 in
theorem K5_faultOfWriting (l : Launch) (D : va_G) (cI cZ cS cJ : ClassId) (aC aS aL aW aB aF aZ aK aM aO aT aY aV aU aR : Nat) (kQ : Nat → SA) (sr : Int32) (wm : Int32) (wW : Nat → Int32) (bh : Int32) (bF : Nat → Int32) (bZ : Nat → Int32) (bK : Nat → Int32) (bM : Nat → Int32) (ol : Int32) (oS : Nat → Int32) (kd : Int32) (kf : Nat → Int32) (kA : Nat → SA) (kV : Nat → SV) (kP : Nat → SV) (x1 : Int32) (x2 : Int32) (r : Int32) (hF : f5_faultOfWriting bh bF bZ bK x1 x2 = some (r)) : Met l yX5_faultOfWriting wsX5_faultOfWriting rm5_faultOfWriting (rP D (gT cI cZ cS cJ) ((W5x cI aC aS aL aW aB aF aZ aK aM aO aT aY sr wm wW bh bF bZ bK bM ol oS) ++ (HB cI cZ cS aY aV aU aR kd kf kA kV kQ kP)) [.ref aC, .int x1, .int x2]) (rQ (.int r)) 0 0 (fun _ => False) := by
  refine Met.ofW (cc := cX5_faultOfWriting) (maxL := 4) (ret := (some .int)) (by decide) rfl ?_
  intro p e s m args below meth c s₁ B hml hv
  obtain ⟨ha, hK, hP⟩ := hv
  have hx := B.exec
  have hb := B.bytes
  have hr := B.returns
  have hlocks := B.notSynchronized
  have hts : ∀ w ∈ lw_all, w.before args s = true := fun w h => atoms_spec (ws := wsX5_faultOfWriting) B.pre w (List.mem_cons_of_mem _ h)
  have hown : s.vm.findClass RX5 = some m.cls := findClass_of_methodNamed B.named
  have S : CallFix p m c cX5_faultOfWriting 4 s args lw_all RX5 := ⟨hx, hb, hml, hown, hts⟩
  have hl := lv_entry ([.ref aC, .int x1, .int x2] : List Value) (n := 4) (Nat.le_of_ble_eq_true rfl)
  refine W.eq (g2 := F0 m 0 ((lg_sl ([.ref aC, .int x1, .int x2] : List Value) ++ List.replicate (4 - (lg_sl ([.ref aC, .int x1, .int x2] : List Value)).length) Slot.unset).toArray) []) (by rw [ha]; exact lg_entry_eq _ _ _) ?_
  generalize (lg_sl ([.ref aC, .int x1, .int x2] : List Value) ++ List.replicate (4 - (lg_sl ([.ref aC, .int x1, .int x2] : List Value)).length) Slot.unset).toArray = ls at hl ⊢
  have hl : lv_has ls 4 [(0, .ref aC), (1, .int x1), (2, .int x2)] := hl
  rw [f5_faultOfWriting] at hF
  show rW p l e wsX5_faultOfWriting rm5_faultOfWriting s m args below meth c (.int r) (F0 m 0 ls [])
  refine lv_aload_n hx hb dX5_faultOfWriting_0 rfl (lv_at hl 0 rfl) ?_
  refine va_get (D := D) (ci := 5) (v := .ref aS) (C := RX5) (T := TX5) (N := 3) hx hb hts i_X5 hown hK.1 hP 0 rfl rfl 0 (by decide) (hts _ wd_139) (fun _ h9 => h9) rfl dX5_faultOfWriting_1 ?_
  refine va_get (D := D) (ci := 4) (v := .ref aB) (C := RX4) (T := TX4) (N := 3) hx hb hts i_X4 hown hK.1 hP 1 rfl rfl 1 (by decide) (hts _ wd_91) (fun _ h9 => h9) rfl dX5_faultOfWriting_4 ?_
  refine lv_iload_n hx hb dX5_faultOfWriting_7 rfl (lv_at hl 1 rfl) ?_
  obtain ⟨q2, h1, hF⟩ := bd1_at hF
  refine rcall (va_runV (As := [.int x1]) (rest := []) S (K0_cellOf l D cI cZ cS cJ aB aF aZ aK aM bh bF bZ bK bM x1 q2 h1) (cwV 1 hts (gd_V wd_319 wd_320 wd_321 wd_25 wd_322) rfl rfl rfl hd0_cellOf ⟨Nat.le_of_ble_eq_true rfl, Nat.le_of_ble_eq_true rfl⟩) (rPreV hK (hP.sub (ws' := (W0 cI aB aF aZ aK aM bh bF bZ bK bM)) [4, 5, 6, 7, 8] rfl) (ci := 0) (q := (RX0, TX0, 5)) rfl rfl) rfl rfl hl.1 rfl (lv_room (Nat.le_of_ble_eq_true rfl)) dX5_faultOfWriting_8 ⟨(Nat.zero_le _), (Nat.zero_le _)⟩) ?_
  refine lv_istore_n (lv' := [(3, .int q2), (0, .ref aC), (1, .int x1), (2, .int x2)]) hx hb dX5_faultOfWriting_11 rfl hl (by decide) rfl (fun ls hl => ?_)
  refine lv_iload_n hx hb dX5_faultOfWriting_12 rfl (lv_at hl 0 rfl) ?_
  refine lv_iconst hx hb dX5_faultOfWriting_13 kc_iconst_m1 ?_
  refine lv_icmp_ne (tgt := 19) hx hb dX5_faultOfWriting_14 (by decide) (fun c3 => ?_) (fun c3 => ?_)
  · have hF := ite_f c3 hF
    refine lv_iload_n hx hb dX5_faultOfWriting_19 rfl (lv_at hl 3 rfl) ?_
    refine lv_iconst hx hb dX5_faultOfWriting_20 kc_iconst_1 ?_
    refine lv_icmp_lt (tgt := 31) hx hb dX5_faultOfWriting_21 (by decide) (fun c4 => ?_) (fun c4 => ?_)
    · have hF := ite_t c4 hF
      refine lv_iconst hx hb dX5_faultOfWriting_31 kc_iconst_2 ?_
      exact rret hF hx hb hr hlocks dX5_faultOfWriting_32
    · have hF := ite_f c4 hF
      refine lv_iload_n hx hb dX5_faultOfWriting_24 rfl (lv_at hl 3 rfl) ?_
      refine lv_sipush hx hb dX5_faultOfWriting_25 kc_sipush_999 ?_
      refine lv_icmp_le (tgt := 33) hx hb dX5_faultOfWriting_28 (by decide) (fun c5 => ?_) (fun c5 => ?_)
      · have hF := ite_t c5 hF
        refine lv_aload_n hx hb dX5_faultOfWriting_33 rfl (lv_at hl 1 rfl) ?_
        refine va_get (D := D) (ci := 5) (v := .ref aS) (C := RX5) (T := TX5) (N := 3) hx hb hts i_X5 hown hK.1 hP 0 rfl rfl 0 (by decide) (hts _ wd_139) (fun _ h9 => h9) rfl dX5_faultOfWriting_34 ?_
        refine va_get (D := D) (ci := 4) (v := .ref aB) (C := RX4) (T := TX4) (N := 3) hx hb hts i_X4 hown hK.1 hP 1 rfl rfl 1 (by decide) (hts _ wd_91) (fun _ h9 => h9) rfl dX5_faultOfWriting_37 ?_
        refine lv_iload_n hx hb dX5_faultOfWriting_40 rfl (lv_at hl 0 rfl) ?_
        obtain ⟨q7, h6, hF⟩ := bd1_at hF
        refine rcall (va_runV (As := [.int q2]) (rest := []) S (K0_kindAt l D cI cZ cS cJ aB aF aZ aK aM bh bF bZ bK bM q2 q7 h6) (cwV 1 hts (gd_V wd_323 wd_324 wd_325 wd_25 wd_326) rfl rfl rfl hd0_kindAt ⟨Nat.le_of_ble_eq_true rfl, Nat.le_of_ble_eq_true rfl⟩) (rPreV hK (hP.sub (ws' := (W0 cI aB aF aZ aK aM bh bF bZ bK bM)) [4, 5, 6, 7, 8] rfl) (ci := 0) (q := (RX0, TX0, 5)) rfl rfl) rfl rfl hl.1 rfl (lv_room (Nat.le_of_ble_eq_true rfl)) dX5_faultOfWriting_41 ⟨(Nat.zero_le _), (Nat.zero_le _)⟩) ?_
        refine lv_if_ne (tgt := 51) hx hb dX5_faultOfWriting_44 (by decide) (fun c8 => ?_) (fun c8 => ?_)
        · rw [if_neg c8] at hF
          refine lv_iconst hx hb dX5_faultOfWriting_51 kc_iconst_3 ?_
          exact rret hF hx hb hr hlocks dX5_faultOfWriting_52
        · rw [if_pos c8] at hF
          refine lv_iconst hx hb dX5_faultOfWriting_47 kc_iconst_0 ?_
          refine lv_goto (tgt := 52) hx hb dX5_faultOfWriting_48 (by decide) ?_
          exact rret hF hx hb hr hlocks dX5_faultOfWriting_52
      · have hF := ite_f c5 hF
        refine lv_iconst hx hb dX5_faultOfWriting_31 kc_iconst_2 ?_
        exact rret hF hx hb hr hlocks dX5_faultOfWriting_32
  · have hF := ite_t c3 hF
    refine lv_iconst hx hb dX5_faultOfWriting_17 kc_iconst_1 ?_
    exact rret hF hx hb hr hlocks dX5_faultOfWriting_18
abbrev rm5_runBook : Room := { frames := 3, cells := 0, slots := 0, locals := 67 }
theorem hd5_runBook : yX5_runBook.cls = RX5 ∧ yX5_runBook.cls ≠ "java/lang/invoke/MethodHandle" ∧ yX5_runBook.cls ≠ "java/lang/invoke/VarHandle" ∧ (parseMethodDescriptor yX5_runBook.desc).map (fun d => d.parameters.length) = some 2 := by decide +kernel
set_option maxHeartbeats 4000000 in
set_option maxRecDepth 100000 in
theorem K5_runBook (l : Launch) (D : va_G) (cI cZ cS cJ : ClassId) (aC aS aL aW aB aF aZ aK aM aO aT aY aV aU aR : Nat) (kQ : Nat → SA) (sr : Int32) (wm : Int32) (wW : Nat → Int32) (bh : Int32) (bF : Nat → Int32) (bZ : Nat → Int32) (bK : Nat → Int32) (bM : Nat → Int32) (ol : Int32) (oS : Nat → Int32) (kd : Int32) (kf : Nat → Int32) (kA : Nat → SA) (kV : Nat → SV) (kP : Nat → SV) (x1 : Int32) (x2 : Int32) (r : Int32) (z_bh : Int32) (z_bF : Nat → Int32) (z_bZ : Nat → Int32) (z_bK : Nat → Int32) (z_bM : Nat → Int32) (hF : f5_runBook bh bF bZ bK bM x1 x2 = some (r, z_bh, z_bF, z_bZ, z_bK, z_bM)) : Met l yX5_runBook wsX5_runBook rm5_runBook (uP D (gT cI cZ cS cJ) ((W5x cI aC aS aL aW aB aF aZ aK aM aO aT aY sr wm wW bh bF bZ bK bM ol oS) ++ (HB cI cZ cS aY aV aU aR kd kf kA kV kQ kP)) [.ref aC, .int x1, .int x2]) (uQ D (some (.int r)) (uA ((W5x cI aC aS aL aW aB aF aZ aK aM aO aT aY sr wm wW bh bF bZ bK bM ol oS) ++ (HB cI cZ cS aY aV aU aR kd kf kA kV kQ kP))) ((W5x cI aC aS aL aW aB aF aZ aK aM aO aT aY sr wm wW z_bh z_bF z_bZ z_bK z_bM ol oS) ++ (HB cI cZ cS aY aV aU aR kd kf kA kV kQ kP))) 0 0 (uA ((W5x cI aC aS aL aW aB aF aZ aK aM aO aT aY sr wm wW bh bF bZ bK bM ol oS) ++ (HB cI cZ cS aY aV aU aR kd kf kA kV kQ kP))) := by
  refine Met.ofW (cc := cX5_runBook) (maxL := 3) (ret := (some .boolean)) (by decide) rfl ?_
  intro p e s m args below meth c s₁ B hml hv
  obtain ⟨ha, hK, hP, hD0⟩ := hv
  have hx := B.exec
  have hb := B.bytes
  have hr := B.returns
  have hlocks := B.notSynchronized
  have hts : ∀ w ∈ lw_all, w.before args s = true := fun w h => atoms_spec (ws := wsX5_runBook) B.pre w (List.mem_cons_of_mem _ h)
  have hown : s.vm.findClass RX5 = some m.cls := findClass_of_methodNamed B.named
  have S : CallFix p m c cX5_runBook 3 s args lw_all RX5 := ⟨hx, hb, hml, hown, hts⟩
  have hD := hD0.own
  generalize uA ((W5x cI aC aS aL aW aB aF aZ aK aM aO aT aY sr wm wW bh bF bZ bK bM ol oS) ++ (HB cI cZ cS aY aV aU aR kd kf kA kV kQ kP)) = A0 at hD ⊢
  have hS : va_S A0 s.heap s.heap [] := va_S.rf
  have hl := lv_entry ([.ref aC, .int x1, .int x2] : List Value) (n := 3) (Nat.le_of_ble_eq_true rfl)
  refine W.eq (g2 := F0 m 0 ((lg_sl ([.ref aC, .int x1, .int x2] : List Value) ++ List.replicate (3 - (lg_sl ([.ref aC, .int x1, .int x2] : List Value)).length) Slot.unset).toArray) []) (by rw [ha]; exact lg_entry_eq _ _ _) ?_
  generalize (lg_sl ([.ref aC, .int x1, .int x2] : List Value) ++ List.replicate (3 - (lg_sl ([.ref aC, .int x1, .int x2] : List Value)).length) Slot.unset).toArray = ls at hl ⊢
  have hl : lv_has ls 3 [(0, .ref aC), (1, .int x1), (2, .int x2)] := hl
  rw [f5_runBook] at hF
  show uW p l e wsX5_runBook rm5_runBook s m args below meth c D (some (.int r)) A0 ((W5x cI aC aS aL aW aB aF aZ aK aM aO aT aY sr wm wW z_bh z_bF z_bZ z_bK z_bM ol oS) ++ (HB cI cZ cS aY aV aU aR kd kf kA kV kQ kP)) s.heap [] (F0 m 0 ls [])
  refine lv_aload_n hx hb dX5_runBook_0 rfl (lv_at hl 0 rfl) ?_
  refine lv_iload_n hx hb dX5_runBook_1 rfl (lv_at hl 1 rfl) ?_
  refine lv_iload_n hx hb dX5_runBook_2 rfl (lv_at hl 2 rfl) ?_
  obtain ⟨q2, h1, hF⟩ := bd1_at hF
  refine rcall (va_runV (As := [.int x1, .int x2]) (rest := []) S (K5_faultOfBook l D cI cZ cS cJ aC aS aL aW aB aF aZ aK aM aO aT aY aV aU aR kQ sr wm wW bh bF bZ bK bM ol oS kd kf kA kV kP x1 x2 q2 h1) (cwV 2 hts (gd_V wd_153 wd_155 wd_0 wd_22 wd_156) rfl rfl rfl hd5_faultOfBook ⟨Nat.le_of_ble_eq_true rfl, Nat.le_of_ble_eq_true rfl⟩) (rPreV hK hP (ci := 5) (q := (RX5, TX5, 3)) rfl rfl) rfl rfl hl.1 rfl (lv_room (Nat.le_of_ble_eq_true rfl)) dX5_runBook_3 ⟨(Nat.zero_le _), (Nat.zero_le _)⟩) ?_
  refine lv_if_eq (tgt := 11) hx hb dX5_runBook_6 (by decide) (fun c3 => ?_) (fun c3 => ?_)
  · have hF := ite_t c3 hF
    refine lv_aload_n hx hb dX5_runBook_11 rfl (lv_at hl 0 rfl) ?_
    refine va_get (D := D) (ci := 5) (v := .ref aS) (C := RX5) (T := TX5) (N := 3) hx hb hts i_X5 hown hK.1 hP 0 rfl rfl 0 (by decide) (hts _ wd_139) (fun _ h9 => h9) rfl dX5_runBook_12 ?_
    refine va_get (D := D) (ci := 4) (v := .ref aB) (C := RX4) (T := TX4) (N := 3) hx hb hts i_X4 hown hK.1 hP 1 rfl rfl 1 (by decide) (hts _ wd_91) (fun _ h9 => h9) rfl dX5_runBook_15 ?_
    refine lv_iload_n hx hb dX5_runBook_18 rfl (lv_at hl 1 rfl) ?_
    refine lv_iload_n hx hb dX5_runBook_19 rfl (lv_at hl 2 rfl) ?_
    obtain ⟨q5, u6, u7, u8, u9, u10, h4, hF⟩ := bd6_at hF
    refine ucalli (ws' := ((W5x cI aC aS aL aW aB aF aZ aK aM aO aT aY sr wm wW u6 u7 u8 u9 u10 ol oS) ++ (HB cI cZ cS aY aV aU aR kd kf kA kV kQ kP))) (va_runV (As := [.int x1, .int x2]) (rest := []) S (K0_add l D cI cZ cS cJ aB aF aZ aK aM bh bF bZ bK bM x1 x2 q5 u6 u7 u8 u9 u10 h4) (cwV 2 hts (gd_V wd_303 wd_304 wd_305 wd_25 wd_306) rfl rfl rfl hd0_add ⟨Nat.le_of_ble_eq_true rfl, Nat.le_of_ble_eq_true rfl⟩) (uPreV hK (hP.sub (ws' := (W0 cI aB aF aZ aK aM bh bF bZ bK bM)) [4, 5, 6, 7, 8] rfl) (hD.sub (ws' := (W0 cI aB aF aZ aK aM bh bF bZ bK bM)) [4, 5, 6, 7, 8] (by decide) rfl) (ci := 0) (q := (RX0, TX0, 5)) rfl rfl) rfl rfl hl.1 rfl (lv_room (Nat.le_of_ble_eq_true rfl)) dX5_runBook_20 ⟨(Nat.zero_le _), (Nat.zero_le _)⟩) hS hP hD [4, 5, 6, 7, 8] rfl rfl rfl rfl (fun H locs hP hD hS => ?_)
    refine lv_pop hx hb dX5_runBook_23 rfl ?_
    refine lv_iconst hx hb dX5_runBook_24 kc_iconst_1 ?_
    cases hF
    exact uretz (by decide) hx hb hr hlocks hP hS dX5_runBook_25
  · have hF := ite_f c3 hF
    refine lv_iconst hx hb dX5_runBook_9 kc_iconst_0 ?_
    cases hF
    exact uretz (by decide) hx hb hr hlocks hP hS dX5_runBook_10
abbrev rm5_runWriting : Room := { frames := 3, cells := 0, slots := 0, locals := 67 }
theorem hd5_runWriting : yX5_runWriting.cls = RX5 ∧ yX5_runWriting.cls ≠ "java/lang/invoke/MethodHandle" ∧ yX5_runWriting.cls ≠ "java/lang/invoke/VarHandle" ∧ (parseMethodDescriptor yX5_runWriting.desc).map (fun d => d.parameters.length) = some 2 := by decide +kernel
set_option maxHeartbeats 4000000 in
set_option maxRecDepth 100000 in
theorem K5_runWriting (l : Launch) (D : va_G) (cI cZ cS cJ : ClassId) (aC aS aL aW aB aF aZ aK aM aO aT aY aV aU aR : Nat) (kQ : Nat → SA) (sr : Int32) (wm : Int32) (wW : Nat → Int32) (bh : Int32) (bF : Nat → Int32) (bZ : Nat → Int32) (bK : Nat → Int32) (bM : Nat → Int32) (ol : Int32) (oS : Nat → Int32) (kd : Int32) (kf : Nat → Int32) (kA : Nat → SA) (kV : Nat → SV) (kP : Nat → SV) (x1 : Int32) (x2 : Int32) (r : Int32) (z_bK : Nat → Int32) (z_bM : Nat → Int32) (hF : f5_runWriting bh bF bZ bK bM x1 x2 = some (r, z_bK, z_bM)) : Met l yX5_runWriting wsX5_runWriting rm5_runWriting (uP D (gT cI cZ cS cJ) ((W5x cI aC aS aL aW aB aF aZ aK aM aO aT aY sr wm wW bh bF bZ bK bM ol oS) ++ (HB cI cZ cS aY aV aU aR kd kf kA kV kQ kP)) [.ref aC, .int x1, .int x2]) (uQ D (some (.int r)) (uA ((W5x cI aC aS aL aW aB aF aZ aK aM aO aT aY sr wm wW bh bF bZ bK bM ol oS) ++ (HB cI cZ cS aY aV aU aR kd kf kA kV kQ kP))) ((W5x cI aC aS aL aW aB aF aZ aK aM aO aT aY sr wm wW bh bF bZ z_bK z_bM ol oS) ++ (HB cI cZ cS aY aV aU aR kd kf kA kV kQ kP))) 0 0 (uA ((W5x cI aC aS aL aW aB aF aZ aK aM aO aT aY sr wm wW bh bF bZ bK bM ol oS) ++ (HB cI cZ cS aY aV aU aR kd kf kA kV kQ kP))) := by
  refine Met.ofW (cc := cX5_runWriting) (maxL := 3) (ret := (some .boolean)) (by decide) rfl ?_
  intro p e s m args below meth c s₁ B hml hv
  obtain ⟨ha, hK, hP, hD0⟩ := hv
  have hx := B.exec
  have hb := B.bytes
  have hr := B.returns
  have hlocks := B.notSynchronized
  have hts : ∀ w ∈ lw_all, w.before args s = true := fun w h => atoms_spec (ws := wsX5_runWriting) B.pre w (List.mem_cons_of_mem _ h)
  have hown : s.vm.findClass RX5 = some m.cls := findClass_of_methodNamed B.named
  have S : CallFix p m c cX5_runWriting 3 s args lw_all RX5 := ⟨hx, hb, hml, hown, hts⟩
  have hD := hD0.own
  generalize uA ((W5x cI aC aS aL aW aB aF aZ aK aM aO aT aY sr wm wW bh bF bZ bK bM ol oS) ++ (HB cI cZ cS aY aV aU aR kd kf kA kV kQ kP)) = A0 at hD ⊢
  have hS : va_S A0 s.heap s.heap [] := va_S.rf
  have hl := lv_entry ([.ref aC, .int x1, .int x2] : List Value) (n := 3) (Nat.le_of_ble_eq_true rfl)
  refine W.eq (g2 := F0 m 0 ((lg_sl ([.ref aC, .int x1, .int x2] : List Value) ++ List.replicate (3 - (lg_sl ([.ref aC, .int x1, .int x2] : List Value)).length) Slot.unset).toArray) []) (by rw [ha]; exact lg_entry_eq _ _ _) ?_
  generalize (lg_sl ([.ref aC, .int x1, .int x2] : List Value) ++ List.replicate (3 - (lg_sl ([.ref aC, .int x1, .int x2] : List Value)).length) Slot.unset).toArray = ls at hl ⊢
  have hl : lv_has ls 3 [(0, .ref aC), (1, .int x1), (2, .int x2)] := hl
  rw [f5_runWriting] at hF
  show uW p l e wsX5_runWriting rm5_runWriting s m args below meth c D (some (.int r)) A0 ((W5x cI aC aS aL aW aB aF aZ aK aM aO aT aY sr wm wW bh bF bZ z_bK z_bM ol oS) ++ (HB cI cZ cS aY aV aU aR kd kf kA kV kQ kP)) s.heap [] (F0 m 0 ls [])
  refine lv_aload_n hx hb dX5_runWriting_0 rfl (lv_at hl 0 rfl) ?_
  refine lv_iload_n hx hb dX5_runWriting_1 rfl (lv_at hl 1 rfl) ?_
  refine lv_iload_n hx hb dX5_runWriting_2 rfl (lv_at hl 2 rfl) ?_
  obtain ⟨q2, h1, hF⟩ := bd1_at hF
  refine rcall (va_runV (As := [.int x1, .int x2]) (rest := []) S (K5_faultOfWriting l D cI cZ cS cJ aC aS aL aW aB aF aZ aK aM aO aT aY aV aU aR kQ sr wm wW bh bF bZ bK bM ol oS kd kf kA kV kP x1 x2 q2 h1) (cwV 2 hts (gd_V wd_315 wd_317 wd_4 wd_22 wd_318) rfl rfl rfl hd5_faultOfWriting ⟨Nat.le_of_ble_eq_true rfl, Nat.le_of_ble_eq_true rfl⟩) (rPreV hK hP (ci := 5) (q := (RX5, TX5, 3)) rfl rfl) rfl rfl hl.1 rfl (lv_room (Nat.le_of_ble_eq_true rfl)) dX5_runWriting_3 ⟨(Nat.zero_le _), (Nat.zero_le _)⟩) ?_
  refine lv_if_eq (tgt := 11) hx hb dX5_runWriting_6 (by decide) (fun c3 => ?_) (fun c3 => ?_)
  · have hF := ite_t c3 hF
    refine lv_aload_n hx hb dX5_runWriting_11 rfl (lv_at hl 0 rfl) ?_
    refine va_get (D := D) (ci := 5) (v := .ref aS) (C := RX5) (T := TX5) (N := 3) hx hb hts i_X5 hown hK.1 hP 0 rfl rfl 0 (by decide) (hts _ wd_139) (fun _ h9 => h9) rfl dX5_runWriting_12 ?_
    refine va_get (D := D) (ci := 4) (v := .ref aB) (C := RX4) (T := TX4) (N := 3) hx hb hts i_X4 hown hK.1 hP 1 rfl rfl 1 (by decide) (hts _ wd_91) (fun _ h9 => h9) rfl dX5_runWriting_15 ?_
    refine lv_aload_n hx hb dX5_runWriting_18 rfl (lv_at hl 0 rfl) ?_
    refine va_get (D := D) (ci := 5) (v := .ref aS) (C := RX5) (T := TX5) (N := 3) hx hb hts i_X5 hown hK.1 hP 0 rfl rfl 0 (by decide) (hts _ wd_139) (fun _ h9 => h9) rfl dX5_runWriting_19 ?_
    refine va_get (D := D) (ci := 4) (v := .ref aB) (C := RX4) (T := TX4) (N := 3) hx hb hts i_X4 hown hK.1 hP 1 rfl rfl 1 (by decide) (hts _ wd_91) (fun _ h9 => h9) rfl dX5_runWriting_22 ?_
    refine lv_iload_n hx hb dX5_runWriting_25 rfl (lv_at hl 1 rfl) ?_
    obtain ⟨q5, h4, hF⟩ := bd1_at hF
    refine rcall (va_runV (As := [.int x1]) (rest := [.ref aB]) S (K0_cellOf l D cI cZ cS cJ aB aF aZ aK aM bh bF bZ bK bM x1 q5 h4) (cwV 1 hts (gd_V wd_319 wd_320 wd_321 wd_25 wd_322) rfl rfl rfl hd0_cellOf ⟨Nat.le_of_ble_eq_true rfl, Nat.le_of_ble_eq_true rfl⟩) (rPreV hK (hP.sub (ws' := (W0 cI aB aF aZ aK aM bh bF bZ bK bM)) [4, 5, 6, 7, 8] rfl) (ci := 0) (q := (RX0, TX0, 5)) rfl rfl) rfl rfl hl.1 rfl (lv_room (Nat.le_of_ble_eq_true rfl)) dX5_runWriting_26 ⟨(Nat.zero_le _), (Nat.zero_le _)⟩) ?_
    refine lv_iload_n hx hb dX5_runWriting_29 rfl (lv_at hl 2 rfl) ?_
    obtain ⟨u7, u8, h6, hF⟩ := bd2_at hF
    refine ucallv (ws' := ((W5x cI aC aS aL aW aB aF aZ aK aM aO aT aY sr wm wW bh bF bZ u7 u8 ol oS) ++ (HB cI cZ cS aY aV aU aR kd kf kA kV kQ kP))) (va_runV (As := [.int q5, .int x2]) (rest := []) S (K0_makeWritten l D cI cZ cS cJ aB aF aZ aK aM bh bF bZ bK bM q5 x2 u7 u8 h6) (cwV 2 hts (gd_V wd_327 wd_328 wd_329 wd_25 wd_330) rfl rfl rfl hd0_makeWritten ⟨Nat.le_of_ble_eq_true rfl, Nat.le_of_ble_eq_true rfl⟩) (uPreV hK (hP.sub (ws' := (W0 cI aB aF aZ aK aM bh bF bZ bK bM)) [4, 5, 6, 7, 8] rfl) (hD.sub (ws' := (W0 cI aB aF aZ aK aM bh bF bZ bK bM)) [4, 5, 6, 7, 8] (by decide) rfl) (ci := 0) (q := (RX0, TX0, 5)) rfl rfl) rfl rfl hl.1 rfl (lv_room (Nat.le_of_ble_eq_true rfl)) dX5_runWriting_30 ⟨(Nat.zero_le _), (Nat.zero_le _)⟩) hS hP hD [4, 5, 6, 7, 8] rfl rfl rfl rfl (fun H locs hP hD hS => ?_)
    refine lv_iconst hx hb dX5_runWriting_33 kc_iconst_1 ?_
    cases hF
    exact uretz (by decide) hx hb hr hlocks hP hS dX5_runWriting_34
  · have hF := ite_f c3 hF
    refine lv_iconst hx hb dX5_runWriting_9 kc_iconst_0 ?_
    cases hF
    exact uretz (by decide) hx hb hr hlocks hP hS dX5_runWriting_10
abbrev rm5_runVoiding : Room := { frames := 3, cells := 0, slots := 0, locals := 72 }
theorem hd5_runVoiding : yX5_runVoiding.cls = RX5 ∧ yX5_runVoiding.cls ≠ "java/lang/invoke/MethodHandle" ∧ yX5_runVoiding.cls ≠ "java/lang/invoke/VarHandle" ∧ (parseMethodDescriptor yX5_runVoiding.desc).map (fun d => d.parameters.length) = some 2 := by decide +kernel
set_option maxHeartbeats 4000000 in
set_option maxRecDepth 100000 in
theorem K5_runVoiding (l : Launch) (D : va_G) (cI cZ cS cJ : ClassId) (aC aS aL aW aB aF aZ aK aM aO aT aY aV aU aR : Nat) (kQ : Nat → SA) (sr : Int32) (wm : Int32) (wW : Nat → Int32) (bh : Int32) (bF : Nat → Int32) (bZ : Nat → Int32) (bK : Nat → Int32) (bM : Nat → Int32) (ol : Int32) (oS : Nat → Int32) (kd : Int32) (kf : Nat → Int32) (kA : Nat → SA) (kV : Nat → SV) (kP : Nat → SV) (x1 : Int32) (x2 : Int32) (r : Int32) (z_bK : Nat → Int32) (z_bM : Nat → Int32) (hF : f5_runVoiding bh bF bZ bK bM x1 x2 = some (r, z_bK, z_bM)) : Met l yX5_runVoiding wsX5_runVoiding rm5_runVoiding (uP D (gT cI cZ cS cJ) ((W5x cI aC aS aL aW aB aF aZ aK aM aO aT aY sr wm wW bh bF bZ bK bM ol oS) ++ (HB cI cZ cS aY aV aU aR kd kf kA kV kQ kP)) [.ref aC, .int x1, .int x2]) (uQ D (some (.int r)) (uA ((W5x cI aC aS aL aW aB aF aZ aK aM aO aT aY sr wm wW bh bF bZ bK bM ol oS) ++ (HB cI cZ cS aY aV aU aR kd kf kA kV kQ kP))) ((W5x cI aC aS aL aW aB aF aZ aK aM aO aT aY sr wm wW bh bF bZ z_bK z_bM ol oS) ++ (HB cI cZ cS aY aV aU aR kd kf kA kV kQ kP))) 0 0 (uA ((W5x cI aC aS aL aW aB aF aZ aK aM aO aT aY sr wm wW bh bF bZ bK bM ol oS) ++ (HB cI cZ cS aY aV aU aR kd kf kA kV kQ kP))) := by
  refine Met.ofW (cc := cX5_runVoiding) (maxL := 3) (ret := (some .boolean)) (by decide) rfl ?_
  intro p e s m args below meth c s₁ B hml hv
  obtain ⟨ha, hK, hP, hD0⟩ := hv
  have hx := B.exec
  have hb := B.bytes
  have hr := B.returns
  have hlocks := B.notSynchronized
  have hts : ∀ w ∈ lw_all, w.before args s = true := fun w h => atoms_spec (ws := wsX5_runVoiding) B.pre w (List.mem_cons_of_mem _ h)
  have hown : s.vm.findClass RX5 = some m.cls := findClass_of_methodNamed B.named
  have S : CallFix p m c cX5_runVoiding 3 s args lw_all RX5 := ⟨hx, hb, hml, hown, hts⟩
  have hD := hD0.own
  generalize uA ((W5x cI aC aS aL aW aB aF aZ aK aM aO aT aY sr wm wW bh bF bZ bK bM ol oS) ++ (HB cI cZ cS aY aV aU aR kd kf kA kV kQ kP)) = A0 at hD ⊢
  have hS : va_S A0 s.heap s.heap [] := va_S.rf
  have hl := lv_entry ([.ref aC, .int x1, .int x2] : List Value) (n := 3) (Nat.le_of_ble_eq_true rfl)
  refine W.eq (g2 := F0 m 0 ((lg_sl ([.ref aC, .int x1, .int x2] : List Value) ++ List.replicate (3 - (lg_sl ([.ref aC, .int x1, .int x2] : List Value)).length) Slot.unset).toArray) []) (by rw [ha]; exact lg_entry_eq _ _ _) ?_
  generalize (lg_sl ([.ref aC, .int x1, .int x2] : List Value) ++ List.replicate (3 - (lg_sl ([.ref aC, .int x1, .int x2] : List Value)).length) Slot.unset).toArray = ls at hl ⊢
  have hl : lv_has ls 3 [(0, .ref aC), (1, .int x1), (2, .int x2)] := hl
  rw [f5_runVoiding] at hF
  show uW p l e wsX5_runVoiding rm5_runVoiding s m args below meth c D (some (.int r)) A0 ((W5x cI aC aS aL aW aB aF aZ aK aM aO aT aY sr wm wW bh bF bZ z_bK z_bM ol oS) ++ (HB cI cZ cS aY aV aU aR kd kf kA kV kQ kP)) s.heap [] (F0 m 0 ls [])
  refine lv_iload_n hx hb dX5_runVoiding_0 rfl (lv_at hl 1 rfl) ?_
  refine lv_iload_n hx hb dX5_runVoiding_1 rfl (lv_at hl 2 rfl) ?_
  obtain ⟨q2, h1, hF⟩ := bd1_at hF
  refine rcall (va_runS (As := [.int x1, .int x2]) (rest := []) S (K5_faultOfRun l D cI cZ cS cJ x1 x2 q2 h1) (va_cwS 2 hts (gd_S wd_476 wd_477 wd_22 wd_478) rfl rfl rfl hdn5_faultOfRun ⟨Nat.le_of_ble_eq_true rfl, Nat.le_of_ble_eq_true rfl⟩) (rPreS hK (hP.sub (ws' := ([] : va_W)) [] rfl)) rfl rfl hl.1 rfl (lv_room (Nat.le_of_ble_eq_true rfl)) dX5_runVoiding_2 ⟨(Nat.zero_le _), (Nat.zero_le _)⟩) ?_
  refine lv_if_eq (tgt := 10) hx hb dX5_runVoiding_5 (by decide) (fun c3 => ?_) (fun c3 => ?_)
  · have hF := ite_t c3 hF
    refine lv_aload_n hx hb dX5_runVoiding_10 rfl (lv_at hl 0 rfl) ?_
    refine va_get (D := D) (ci := 5) (v := .ref aS) (C := RX5) (T := TX5) (N := 3) hx hb hts i_X5 hown hK.1 hP 0 rfl rfl 0 (by decide) (hts _ wd_139) (fun _ h9 => h9) rfl dX5_runVoiding_11 ?_
    refine va_get (D := D) (ci := 4) (v := .ref aB) (C := RX4) (T := TX4) (N := 3) hx hb hts i_X4 hown hK.1 hP 1 rfl rfl 1 (by decide) (hts _ wd_91) (fun _ h9 => h9) rfl dX5_runVoiding_14 ?_
    refine lv_iload_n hx hb dX5_runVoiding_17 rfl (lv_at hl 1 rfl) ?_
    refine lv_iload_n hx hb dX5_runVoiding_18 rfl (lv_at hl 2 rfl) ?_
    obtain ⟨q5, u6, u7, h4, hF⟩ := bd3_at hF
    refine ucalli (ws' := ((W5x cI aC aS aL aW aB aF aZ aK aM aO aT aY sr wm wW bh bF bZ u6 u7 ol oS) ++ (HB cI cZ cS aY aV aU aR kd kf kA kV kQ kP))) (va_runV (As := [.int x1, .int x2]) (rest := []) S (K0_makeRunVoid l D cI cZ cS cJ aB aF aZ aK aM bh bF bZ bK bM x1 x2 q5 u6 u7 h4) (cwV 2 hts (gd_V wd_479 wd_480 wd_481 wd_25 wd_482) rfl rfl rfl hd0_makeRunVoid ⟨Nat.le_of_ble_eq_true rfl, Nat.le_of_ble_eq_true rfl⟩) (uPreV hK (hP.sub (ws' := (W0 cI aB aF aZ aK aM bh bF bZ bK bM)) [4, 5, 6, 7, 8] rfl) (hD.sub (ws' := (W0 cI aB aF aZ aK aM bh bF bZ bK bM)) [4, 5, 6, 7, 8] (by decide) rfl) (ci := 0) (q := (RX0, TX0, 5)) rfl rfl) rfl rfl hl.1 rfl (lv_room (Nat.le_of_ble_eq_true rfl)) dX5_runVoiding_19 ⟨(Nat.zero_le _), (Nat.zero_le _)⟩) hS hP hD [4, 5, 6, 7, 8] rfl rfl rfl rfl (fun H locs hP hD hS => ?_)
    refine lv_pop hx hb dX5_runVoiding_22 rfl ?_
    refine lv_iconst hx hb dX5_runVoiding_23 kc_iconst_1 ?_
    cases hF
    exact uretz (by decide) hx hb hr hlocks hP hS dX5_runVoiding_24
  · have hF := ite_f c3 hF
    refine lv_iconst hx hb dX5_runVoiding_8 kc_iconst_0 ?_
    cases hF
    exact uretz (by decide) hx hb hr hlocks hP hS dX5_runVoiding_9
abbrev rm5_runOrder : Room := { frames := 4, cells := 0, slots := 0, locals := 94 }
theorem hd5_runOrder : yX5_runOrder.cls = RX5 ∧ yX5_runOrder.cls ≠ "java/lang/invoke/MethodHandle" ∧ yX5_runOrder.cls ≠ "java/lang/invoke/VarHandle" ∧ (parseMethodDescriptor yX5_runOrder.desc).map (fun d => d.parameters.length) = some 2 := by decide +kernel
set_option maxHeartbeats 4000000 in
set_option maxRecDepth 100000 in
theorem K5_runOrder (l : Launch) (D : va_G) (cI cZ cS cJ : ClassId) (aC aS aL aW aB aF aZ aK aM aO aT aY aV aU aR : Nat) (kQ : Nat → SA) (sr : Int32) (wm : Int32) (wW : Nat → Int32) (bh : Int32) (bF : Nat → Int32) (bZ : Nat → Int32) (bK : Nat → Int32) (bM : Nat → Int32) (ol : Int32) (oS : Nat → Int32) (kd : Int32) (kf : Nat → Int32) (kA : Nat → SA) (kV : Nat → SV) (kP : Nat → SV) (x1 : Int32) (x2 : Int32) (r : Int32) (z_sr : Int32) (z_bh : Int32) (z_bF : Nat → Int32) (z_bZ : Nat → Int32) (z_bK : Nat → Int32) (z_bM : Nat → Int32) (hF : f5_runOrder sr wm wW bh bF bZ bK bM ol oS x1 x2 = some (r, z_sr, z_bh, z_bF, z_bZ, z_bK, z_bM)) : Met l yX5_runOrder wsX5_runOrder rm5_runOrder (uP D (gT cI cZ cS cJ) ((W5x cI aC aS aL aW aB aF aZ aK aM aO aT aY sr wm wW bh bF bZ bK bM ol oS) ++ (HB cI cZ cS aY aV aU aR kd kf kA kV kQ kP)) [.ref aC, .int x1, .int x2]) (uQ D (some (.int r)) (uA ((W5x cI aC aS aL aW aB aF aZ aK aM aO aT aY sr wm wW bh bF bZ bK bM ol oS) ++ (HB cI cZ cS aY aV aU aR kd kf kA kV kQ kP))) ((W5x cI aC aS aL aW aB aF aZ aK aM aO aT aY z_sr wm wW z_bh z_bF z_bZ z_bK z_bM ol oS) ++ (HB cI cZ cS aY aV aU aR kd kf kA kV kQ kP))) 0 0 (uA ((W5x cI aC aS aL aW aB aF aZ aK aM aO aT aY sr wm wW bh bF bZ bK bM ol oS) ++ (HB cI cZ cS aY aV aU aR kd kf kA kV kQ kP))) := by
  refine Met.ofW (cc := cX5_runOrder) (maxL := 5) (ret := (some .boolean)) (by decide) rfl ?_
  intro p e s m args below meth c s₁ B hml hv
  obtain ⟨ha, hK, hP, hD0⟩ := hv
  have hx := B.exec
  have hb := B.bytes
  have hr := B.returns
  have hlocks := B.notSynchronized
  have hts : ∀ w ∈ lw_all, w.before args s = true := fun w h => atoms_spec (ws := wsX5_runOrder) B.pre w (List.mem_cons_of_mem _ h)
  have hown : s.vm.findClass RX5 = some m.cls := findClass_of_methodNamed B.named
  have S : CallFix p m c cX5_runOrder 5 s args lw_all RX5 := ⟨hx, hb, hml, hown, hts⟩
  have hD := hD0.own
  generalize uA ((W5x cI aC aS aL aW aB aF aZ aK aM aO aT aY sr wm wW bh bF bZ bK bM ol oS) ++ (HB cI cZ cS aY aV aU aR kd kf kA kV kQ kP)) = A0 at hD ⊢
  have hS : va_S A0 s.heap s.heap [] := va_S.rf
  have hl := lv_entry ([.ref aC, .int x1, .int x2] : List Value) (n := 5) (Nat.le_of_ble_eq_true rfl)
  refine W.eq (g2 := F0 m 0 ((lg_sl ([.ref aC, .int x1, .int x2] : List Value) ++ List.replicate (5 - (lg_sl ([.ref aC, .int x1, .int x2] : List Value)).length) Slot.unset).toArray) []) (by rw [ha]; exact lg_entry_eq _ _ _) ?_
  generalize (lg_sl ([.ref aC, .int x1, .int x2] : List Value) ++ List.replicate (5 - (lg_sl ([.ref aC, .int x1, .int x2] : List Value)).length) Slot.unset).toArray = ls at hl ⊢
  have hl : lv_has ls 5 [(0, .ref aC), (1, .int x1), (2, .int x2)] := hl
  rw [f5_runOrder] at hF
  show uW p l e wsX5_runOrder rm5_runOrder s m args below meth c D (some (.int r)) A0 ((W5x cI aC aS aL aW aB aF aZ aK aM aO aT aY z_sr wm wW z_bh z_bF z_bZ z_bK z_bM ol oS) ++ (HB cI cZ cS aY aV aU aR kd kf kA kV kQ kP)) s.heap [] (F0 m 0 ls [])
  refine lv_aload_n hx hb dX5_runOrder_0 rfl (lv_at hl 0 rfl) ?_
  refine va_get (D := D) (ci := 5) (v := .ref aO) (C := RX5) (T := TX5) (N := 3) hx hb hts i_X5 hown hK.1 hP 0 rfl rfl 2 (by decide) (hts _ wd_141) (fun _ h9 => h9) rfl dX5_runOrder_1 ?_
  refine lv_iload_n hx hb dX5_runOrder_4 rfl (lv_at hl 1 rfl) ?_
  refine lv_iconst hx hb dX5_runOrder_5 kc_iconst_1 ?_
  refine lv_iadd hx hb dX5_runOrder_6 ?_
  refine lv_iload_n hx hb dX5_runOrder_7 rfl (lv_at hl 1 rfl) ?_
  refine lv_iconst hx hb dX5_runOrder_8 kc_iconst_1 ?_
  refine lv_iadd hx hb dX5_runOrder_9 ?_
  refine lv_bipush hx hb dX5_runOrder_10 kc_bipush_6 ?_
  refine lv_iadd hx hb dX5_runOrder_12 ?_
  obtain ⟨q2, h1, hF⟩ := bd1_at hF
  refine rcall (va_runV (As := [.int (x1 + (1 : Int32)), .int ((x1 + (1 : Int32)) + (6 : Int32))]) (rest := []) S (K3_numberIn l D cI cZ cS cJ aO aT ol oS (x1 + (1 : Int32)) ((x1 + (1 : Int32)) + (6 : Int32)) q2 h1) (cwV 2 hts (gd_V wd_555 wd_542 wd_543 wd_27 wd_544) rfl rfl rfl hd3_numberIn ⟨Nat.le_of_ble_eq_true rfl, Nat.le_of_ble_eq_true rfl⟩) (rPreV hK (hP.sub (ws' := (W3 cI aO aT ol oS)) [9, 10] rfl) (ci := 3) (q := (RX3, TX3, 2)) rfl rfl) rfl rfl hl.1 rfl (lv_room (Nat.le_of_ble_eq_true rfl)) dX5_runOrder_13 ⟨(Nat.zero_le _), (Nat.zero_le _)⟩) ?_
  refine lv_istore_n (lv' := [(3, .int q2), (0, .ref aC), (1, .int x1), (2, .int x2)]) hx hb dX5_runOrder_16 rfl hl (by decide) rfl (fun ls hl => ?_)
  refine lv_aload_n hx hb dX5_runOrder_17 rfl (lv_at hl 1 rfl) ?_
  refine va_get (D := D) (ci := 5) (v := .ref aO) (C := RX5) (T := TX5) (N := 3) hx hb hts i_X5 hown hK.1 hP 0 rfl rfl 2 (by decide) (hts _ wd_141) (fun _ h9 => h9) rfl dX5_runOrder_18 ?_
  refine lv_iload_n hx hb dX5_runOrder_21 rfl (lv_at hl 2 rfl) ?_
  refine lv_bipush hx hb dX5_runOrder_22 kc_bipush_8 ?_
  refine lv_iadd hx hb dX5_runOrder_24 ?_
  refine lv_iload_n hx hb dX5_runOrder_25 rfl (lv_at hl 3 rfl) ?_
  obtain ⟨q4, h3, hF⟩ := bd1_at hF
  refine rcall (va_runV (As := [.int (x1 + (8 : Int32)), .int x2]) (rest := []) S (K3_numberIn l D cI cZ cS cJ aO aT ol oS (x1 + (8 : Int32)) x2 q4 h3) (cwV 2 hts (gd_V wd_555 wd_542 wd_543 wd_27 wd_544) rfl rfl rfl hd3_numberIn ⟨Nat.le_of_ble_eq_true rfl, Nat.le_of_ble_eq_true rfl⟩) (rPreV hK (hP.sub (ws' := (W3 cI aO aT ol oS)) [9, 10] rfl) (ci := 3) (q := (RX3, TX3, 2)) rfl rfl) rfl rfl hl.1 rfl (lv_room (Nat.le_of_ble_eq_true rfl)) dX5_runOrder_26 ⟨(Nat.zero_le _), (Nat.zero_le _)⟩) ?_
  refine lv_istore (lv' := [(4, .int q4), (3, .int q2), (0, .ref aC), (1, .int x1), (2, .int x2)]) hx hb dX5_runOrder_29 hl (by decide) rfl (fun ls hl => ?_)
  refine lv_aload_n hx hb dX5_runOrder_31 rfl (lv_at hl 2 rfl) ?_
  refine va_get (D := D) (ci := 5) (v := .ref aO) (C := RX5) (T := TX5) (N := 3) hx hb hts i_X5 hown hK.1 hP 0 rfl rfl 2 (by decide) (hts _ wd_141) (fun _ h9 => h9) rfl dX5_runOrder_32 ?_
  refine lv_iload_n hx hb dX5_runOrder_35 rfl (lv_at hl 3 rfl) ?_
  obtain ⟨q6, h5, hF⟩ := bd1_at hF
  refine rcall (va_runV (As := [.int x1]) (rest := []) S (K3_signAt l D cI cZ cS cJ aO aT ol oS x1 q6 h5) (cwV 1 hts (gd_V wd_550 wd_524 wd_525 wd_27 wd_526) rfl rfl rfl hd3_signAt ⟨Nat.le_of_ble_eq_true rfl, Nat.le_of_ble_eq_true rfl⟩) (rPreV hK (hP.sub (ws' := (W3 cI aO aT ol oS)) [9, 10] rfl) (ci := 3) (q := (RX3, TX3, 2)) rfl rfl) rfl rfl hl.1 rfl (lv_room (Nat.le_of_ble_eq_true rfl)) dX5_runOrder_36 ⟨(Nat.zero_le _), (Nat.zero_le _)⟩) ?_
  by_cases c7 : q6 = (98 : Int32)
  · have hF := ite_t c7 hF
    refine lv_lookup (tgt := 80) (off := 41) hx hb dX5_runOrder_39 (by decide) (by rw [c7]; decide) (by decide) ?_
    refine lv_aload_n hx hb dX5_runOrder_80 rfl (lv_at hl 2 rfl) ?_
    refine lv_iload_n hx hb dX5_runOrder_81 rfl (lv_at hl 1 rfl) ?_
    refine lv_iload hx hb dX5_runOrder_82 (lv_at hl 0 rfl) ?_
    obtain ⟨q9, u10, u11, u12, u13, u14, h8, hF⟩ := bd6_at hF
    refine ufulli (ws' := ((W5x cI aC aS aL aW aB aF aZ aK aM aO aT aY sr wm wW u10 u11 u12 u13 u14 ol oS) ++ (HB cI cZ cS aY aV aU aR kd kf kA kV kQ kP))) (va_runV (As := [.int q2, .int q4]) (rest := []) S (K5_runBook l D cI cZ cS cJ aC aS aL aW aB aF aZ aK aM aO aT aY aV aU aR kQ sr wm wW bh bF bZ bK bM ol oS kd kf kA kV kP q2 q4 q9 u10 u11 u12 u13 u14 h8) (cwV 2 hts (gd_V wd_556 wd_558 wd_16 wd_22 wd_559) rfl rfl rfl hd5_runBook ⟨Nat.le_of_ble_eq_true rfl, Nat.le_of_ble_eq_true rfl⟩) (uPreV hK hP hD (ci := 5) (q := (RX5, TX5, 3)) rfl rfl) rfl rfl hl.1 rfl (lv_room (Nat.le_of_ble_eq_true rfl)) dX5_runOrder_84 ⟨(Nat.zero_le _), (Nat.zero_le _)⟩) hS hP hD rfl (fun H locs hP hD hS => ?_)
    obtain ⟨hz, hF⟩ := gd_at hF
    cases hF
    exact uretz hz hx hb hr hlocks hP hS dX5_runOrder_87
  have hF := ite_f c7 hF
  by_cases c15 : q6 = (99 : Int32)
  · have hF := ite_t c15 hF
    refine lv_lookup (tgt := 96) (off := 57) hx hb dX5_runOrder_39 (by decide) (by rw [c15]; decide) (by decide) ?_
    refine lv_aload_n hx hb dX5_runOrder_96 rfl (lv_at hl 2 rfl) ?_
    refine va_get (D := D) (ci := 5) (v := .ref aS) (C := RX5) (T := TX5) (N := 3) hx hb hts i_X5 hown hK.1 hP 0 rfl rfl 0 (by decide) (hts _ wd_139) (fun _ h9 => h9) rfl dX5_runOrder_97 ?_
    refine lv_iload_n hx hb dX5_runOrder_100 rfl (lv_at hl 1 rfl) ?_
    refine lv_aload_n hx hb dX5_runOrder_101 rfl (lv_at hl 2 rfl) ?_
    refine va_get (D := D) (ci := 5) (v := .ref aO) (C := RX5) (T := TX5) (N := 3) hx hb hts i_X5 hown hK.1 hP 0 rfl rfl 2 (by decide) (hts _ wd_141) (fun _ h9 => h9) rfl dX5_runOrder_102 ?_
    refine lv_iload_n hx hb dX5_runOrder_105 rfl (lv_at hl 4 rfl) ?_
    refine lv_iconst hx hb dX5_runOrder_106 kc_iconst_1 ?_
    refine lv_isub hx hb dX5_runOrder_107 ?_
    obtain ⟨q17, h16, hF⟩ := bd1_at hF
    refine rcall (va_runV (As := [.int (x2 - (1 : Int32))]) (rest := [.int q2, .ref aS]) S (K3_signAt l D cI cZ cS cJ aO aT ol oS (x2 - (1 : Int32)) q17 h16) (cwV 1 hts (gd_V wd_550 wd_524 wd_525 wd_27 wd_526) rfl rfl rfl hd3_signAt ⟨Nat.le_of_ble_eq_true rfl, Nat.le_of_ble_eq_true rfl⟩) (rPreV hK (hP.sub (ws' := (W3 cI aO aT ol oS)) [9, 10] rfl) (ci := 3) (q := (RX3, TX3, 2)) rfl rfl) rfl rfl hl.1 rfl (lv_room (Nat.le_of_ble_eq_true rfl)) dX5_runOrder_108 ⟨(Nat.zero_le _), (Nat.zero_le _)⟩) ?_
    refine lv_bipush hx hb dX5_runOrder_111 kc_bipush_65 ?_
    refine lv_isub hx hb dX5_runOrder_113 ?_
    obtain ⟨q19, u20, u21, u22, h18, hF⟩ := bd4_at hF
    refine ucalli (ws' := ((W5x cI aC aS aL aW aB aF aZ aK aM aO aT aY u20 wm wW bh bF bZ u21 u22 ol oS) ++ (HB cI cZ cS aY aV aU aR kd kf kA kV kQ kP))) (va_runV (As := [.int q2, .int (q17 - (65 : Int32))]) (rest := []) S (K4_cashByReading l D cI cZ cS cJ aS aL aW aB aF aZ aK aM sr wm wW bh bF bZ bK bM q2 (q17 - (65 : Int32)) q19 u20 u21 u22 h18) (cwV 2 hts (gd_V wd_355 wd_356 wd_357 wd_23 wd_358) rfl rfl rfl hd4_cashByReading ⟨Nat.le_of_ble_eq_true rfl, Nat.le_of_ble_eq_true rfl⟩) (uPreV hK (hP.sub (ws' := (W4 cI aS aL aW aB aF aZ aK aM sr wm wW bh bF bZ bK bM)) [1, 2, 3, 4, 5, 6, 7, 8] rfl) (hD.sub (ws' := (W4 cI aS aL aW aB aF aZ aK aM sr wm wW bh bF bZ bK bM)) [1, 2, 3, 4, 5, 6, 7, 8] (by decide) rfl) (ci := 4) (q := (RX4, TX4, 3)) rfl rfl) rfl rfl hl.1 rfl (lv_room (Nat.le_of_ble_eq_true rfl)) dX5_runOrder_114 ⟨(Nat.zero_le _), (Nat.zero_le _)⟩) hS hP hD [1, 2, 3, 4, 5, 6, 7, 8] rfl rfl rfl rfl (fun H locs hP hD hS => ?_)
    refine lv_if_le (tgt := 124) hx hb dX5_runOrder_117 (by decide) (fun c23 => ?_) (fun c23 => ?_)
    · rw [if_pos c23] at hF
      refine lv_iconst hx hb dX5_runOrder_124 kc_iconst_0 ?_
      cases hF
      exact uretz (by decide) hx hb hr hlocks hP hS dX5_runOrder_125
    · rw [if_neg c23] at hF
      refine lv_iconst hx hb dX5_runOrder_120 kc_iconst_1 ?_
      refine lv_goto (tgt := 125) hx hb dX5_runOrder_121 (by decide) ?_
      cases hF
      exact uretz (by decide) hx hb hr hlocks hP hS dX5_runOrder_125
  have hF := ite_f c15 hF
  by_cases c24 : q6 = (118 : Int32)
  · have hF := ite_t c24 hF
    refine lv_lookup (tgt := 126) (off := 87) hx hb dX5_runOrder_39 (by decide) (by rw [c24]; decide) (by decide) ?_
    refine lv_aload_n hx hb dX5_runOrder_126 rfl (lv_at hl 2 rfl) ?_
    refine lv_iload_n hx hb dX5_runOrder_127 rfl (lv_at hl 1 rfl) ?_
    refine lv_iload hx hb dX5_runOrder_128 (lv_at hl 0 rfl) ?_
    obtain ⟨q26, u27, u28, h25, hF⟩ := bd3_at hF
    refine ufulli (ws' := ((W5x cI aC aS aL aW aB aF aZ aK aM aO aT aY sr wm wW bh bF bZ u27 u28 ol oS) ++ (HB cI cZ cS aY aV aU aR kd kf kA kV kQ kP))) (va_runV (As := [.int q2, .int q4]) (rest := []) S (K5_runVoiding l D cI cZ cS cJ aC aS aL aW aB aF aZ aK aM aO aT aY aV aU aR kQ sr wm wW bh bF bZ bK bM ol oS kd kf kA kV kP q2 q4 q26 u27 u28 h25) (cwV 2 hts (gd_V wd_564 wd_566 wd_18 wd_22 wd_567) rfl rfl rfl hd5_runVoiding ⟨Nat.le_of_ble_eq_true rfl, Nat.le_of_ble_eq_true rfl⟩) (uPreV hK hP hD (ci := 5) (q := (RX5, TX5, 3)) rfl rfl) rfl rfl hl.1 rfl (lv_room (Nat.le_of_ble_eq_true rfl)) dX5_runOrder_130 ⟨(Nat.zero_le _), (Nat.zero_le _)⟩) hS hP hD rfl (fun H locs hP hD hS => ?_)
    obtain ⟨hz, hF⟩ := gd_at hF
    cases hF
    exact uretz hz hx hb hr hlocks hP hS dX5_runOrder_133
  have hF := ite_f c24 hF
  by_cases c29 : q6 = (119 : Int32)
  · have hF := ite_t c29 hF
    refine lv_lookup (tgt := 88) (off := 49) hx hb dX5_runOrder_39 (by decide) (by rw [c29]; decide) (by decide) ?_
    refine lv_aload_n hx hb dX5_runOrder_88 rfl (lv_at hl 2 rfl) ?_
    refine lv_iload_n hx hb dX5_runOrder_89 rfl (lv_at hl 1 rfl) ?_
    refine lv_iload hx hb dX5_runOrder_90 (lv_at hl 0 rfl) ?_
    obtain ⟨q31, u32, u33, h30, hF⟩ := bd3_at hF
    refine ufulli (ws' := ((W5x cI aC aS aL aW aB aF aZ aK aM aO aT aY sr wm wW bh bF bZ u32 u33 ol oS) ++ (HB cI cZ cS aY aV aU aR kd kf kA kV kQ kP))) (va_runV (As := [.int q2, .int q4]) (rest := []) S (K5_runWriting l D cI cZ cS cJ aC aS aL aW aB aF aZ aK aM aO aT aY aV aU aR kQ sr wm wW bh bF bZ bK bM ol oS kd kf kA kV kP q2 q4 q31 u32 u33 h30) (cwV 2 hts (gd_V wd_560 wd_562 wd_17 wd_22 wd_563) rfl rfl rfl hd5_runWriting ⟨Nat.le_of_ble_eq_true rfl, Nat.le_of_ble_eq_true rfl⟩) (uPreV hK hP hD (ci := 5) (q := (RX5, TX5, 3)) rfl rfl) rfl rfl hl.1 rfl (lv_room (Nat.le_of_ble_eq_true rfl)) dX5_runOrder_92 ⟨(Nat.zero_le _), (Nat.zero_le _)⟩) hS hP hD rfl (fun H locs hP hD hS => ?_)
    obtain ⟨hz, hF⟩ := gd_at hF
    cases hF
    exact uretz hz hx hb hr hlocks hP hS dX5_runOrder_95
  have hF := ite_f c29 hF
  refine lv_lookup (tgt := 134) (off := 95) hx hb dX5_runOrder_39 (by decide) (by show Op.lookupswitch.offset [(98, 41), (99, 57), (118, 87), (119, 49)] (95) _ = _; rw [lv_osw c7 (show (98 : Int32).toInt = 98 by decide), lv_osw c15 (show (99 : Int32).toInt = 99 by decide), lv_osw c24 (show (118 : Int32).toInt = 118 by decide), lv_osw c29 (show (119 : Int32).toInt = 119 by decide)]; rfl) (by decide) ?_
  refine lv_iconst hx hb dX5_runOrder_134 kc_iconst_0 ?_
  cases hF
  exact uretz (by decide) hx hb hr hlocks hP hS dX5_runOrder_135
abbrev rm5_runOrders : Room := { frames := 5, cells := 0, slots := 0, locals := 118 }
theorem hd5_runOrders : yX5_runOrders.cls = RX5 ∧ yX5_runOrders.cls ≠ "java/lang/invoke/MethodHandle" ∧ yX5_runOrders.cls ≠ "java/lang/invoke/VarHandle" ∧ (parseMethodDescriptor yX5_runOrders.desc).map (fun d => d.parameters.length) = some 0 := by decide +kernel
set_option maxHeartbeats 4000000 in
set_option maxRecDepth 100000 in
theorem K5_runOrders (l : Launch) (D : va_G) (cI cZ cS cJ : ClassId) (aC aS aL aW aB aF aZ aK aM aO aT aY aV aU aR : Nat) (kQ : Nat → SA) (sr : Int32) (wm : Int32) (wW : Nat → Int32) (bh : Int32) (bF : Nat → Int32) (bZ : Nat → Int32) (bK : Nat → Int32) (bM : Nat → Int32) (ol : Int32) (oS : Nat → Int32) (kd : Int32) (kf : Nat → Int32) (kA : Nat → SA) (kV : Nat → SV) (kP : Nat → SV) (r : Int32) (z_sr : Int32) (z_bh : Int32) (z_bF : Nat → Int32) (z_bZ : Nat → Int32) (z_bK : Nat → Int32) (z_bM : Nat → Int32) (hF : f5_runOrders sr wm wW bh bF bZ bK bM ol oS = some (r, z_sr, z_bh, z_bF, z_bZ, z_bK, z_bM)) : Met l yX5_runOrders wsX5_runOrders rm5_runOrders (uP D (gT cI cZ cS cJ) ((W5x cI aC aS aL aW aB aF aZ aK aM aO aT aY sr wm wW bh bF bZ bK bM ol oS) ++ (HB cI cZ cS aY aV aU aR kd kf kA kV kQ kP)) [.ref aC]) (uQ D (some (.int r)) (uA ((W5x cI aC aS aL aW aB aF aZ aK aM aO aT aY sr wm wW bh bF bZ bK bM ol oS) ++ (HB cI cZ cS aY aV aU aR kd kf kA kV kQ kP))) ((W5x cI aC aS aL aW aB aF aZ aK aM aO aT aY z_sr wm wW z_bh z_bF z_bZ z_bK z_bM ol oS) ++ (HB cI cZ cS aY aV aU aR kd kf kA kV kQ kP))) 0 0 (uA ((W5x cI aC aS aL aW aB aF aZ aK aM aO aT aY sr wm wW bh bF bZ bK bM ol oS) ++ (HB cI cZ cS aY aV aU aR kd kf kA kV kQ kP))) := by
  refine Met.ofW (cc := cX5_runOrders) (maxL := 5) (ret := (some .int)) (by decide) rfl ?_
  intro p e s m args below meth c s₁ B hml hv
  obtain ⟨ha, hK, hP, hD0⟩ := hv
  have hx := B.exec
  have hb := B.bytes
  have hr := B.returns
  have hlocks := B.notSynchronized
  have hts : ∀ w ∈ lw_all, w.before args s = true := fun w h => atoms_spec (ws := wsX5_runOrders) B.pre w (List.mem_cons_of_mem _ h)
  have hown : s.vm.findClass RX5 = some m.cls := findClass_of_methodNamed B.named
  have S : CallFix p m c cX5_runOrders 5 s args lw_all RX5 := ⟨hx, hb, hml, hown, hts⟩
  have hD := hD0.own
  generalize uA ((W5x cI aC aS aL aW aB aF aZ aK aM aO aT aY sr wm wW bh bF bZ bK bM ol oS) ++ (HB cI cZ cS aY aV aU aR kd kf kA kV kQ kP)) = A0 at hD ⊢
  have hS : va_S A0 s.heap s.heap [] := va_S.rf
  have hl := lv_entry ([.ref aC] : List Value) (n := 5) (Nat.le_of_ble_eq_true rfl)
  refine W.eq (g2 := F0 m 0 ((lg_sl ([.ref aC] : List Value) ++ List.replicate (5 - (lg_sl ([.ref aC] : List Value)).length) Slot.unset).toArray) []) (by rw [ha]; exact lg_entry_eq _ _ _) ?_
  generalize (lg_sl ([.ref aC] : List Value) ++ List.replicate (5 - (lg_sl ([.ref aC] : List Value)).length) Slot.unset).toArray = ls at hl ⊢
  have hl : lv_has ls 5 [(0, .ref aC)] := hl
  clear ha
  have W_41 : ∀ (sr : Int32) (bh : Int32) (bF : Nat → Int32) (bZ : Nat → Int32) (bK : Nat → Int32) (bM : Nat → Int32) (x1 : Int32) (x2 : Int32) (x3 : Int32) (x4 : Int32) (k15 : Int32 → Int32 → Int32 → Int32 → Int32 → (Nat → Int32) → (Nat → Int32) → (Nat → Int32) → (Nat → Int32) → Option (Int32 × Int32 × Int32 × (Nat → Int32) × (Nat → Int32) × (Nat → Int32) × (Nat → Int32))) (hk15 : ∀ (x1 : Int32) (x2 : Int32) (x4 : Int32) (sr : Int32) (bh : Int32) (bF : Nat → Int32) (bZ : Nat → Int32) (bK : Nat → Int32) (bM : Nat → Int32), ∀ (H : Heap) (locs : List Loc), va_P D vwCl ((W5x cI aC aS aL aW aB aF aZ aK aM aO aT aY sr wm wW bh bF bZ bK bM ol oS) ++ (HB cI cZ cS aY aV aU aR kd kf kA kV kQ kP)) H → va_D A0 ((W5x cI aC aS aL aW aB aF aZ aK aM aO aT aY sr wm wW bh bF bZ bK bM ol oS) ++ (HB cI cZ cS aY aV aU aR kd kf kA kV kQ kP)) → va_S A0 s.heap H locs → ∀ (ls : Array Slot), lv_has ls 5 [(0, .ref aC), (1, .int x1), (2, .int x2), (3, .int x3), (4, .int x4)] → k15 x1 x2 x4 sr bh bF bZ bK bM = some (r, z_sr, z_bh, z_bF, z_bZ, z_bK, z_bM) → uW p l e wsX5_runOrders rm5_runOrders s m args below meth c D (some (.int r)) A0 ((W5x cI aC aS aL aW aB aF aZ aK aM aO aT aY z_sr wm wW z_bh z_bF z_bZ z_bK z_bM ol oS) ++ (HB cI cZ cS aY aV aU aR kd kf kA kV kQ kP)) H locs (F0 m 15 ls [])), ∀ (H : Heap) (locs : List Loc), va_P D vwCl ((W5x cI aC aS aL aW aB aF aZ aK aM aO aT aY sr wm wW bh bF bZ bK bM ol oS) ++ (HB cI cZ cS aY aV aU aR kd kf kA kV kQ kP)) H → va_D A0 ((W5x cI aC aS aL aW aB aF aZ aK aM aO aT aY sr wm wW bh bF bZ bK bM ol oS) ++ (HB cI cZ cS aY aV aU aR kd kf kA kV kQ kP)) → va_S A0 s.heap H locs → ∀ (ls : Array Slot), lv_has ls 5 [(0, .ref aC), (1, .int x1), (2, .int x2), (3, .int x3), (4, .int x4)] → f5_runOrders_j41 k15 sr wm wW bh bF bZ bK bM ol oS x1 x2 x3 x4 = some (r, z_sr, z_bh, z_bF, z_bZ, z_bK, z_bM) → uW p l e wsX5_runOrders rm5_runOrders s m args below meth c D (some (.int r)) A0 ((W5x cI aC aS aL aW aB aF aZ aK aM aO aT aY z_sr wm wW z_bh z_bF z_bZ z_bK z_bM ol oS) ++ (HB cI cZ cS aY aV aU aR kd kf kA kV kQ kP)) H locs (F0 m 41 ls []) := by
    intro sr bh bF bZ bK bM x1 x2 x3 x4 k15 hk15 H locs hP hD hS ls hl hF
    rw [f5_runOrders_j41] at hF
    refine lv_aload_n hx hb dX5_runOrders_41 rfl (lv_at hl 0 rfl) ?_
    refine lv_iload_n hx hb dX5_runOrders_42 rfl (lv_at hl 2 rfl) ?_
    refine lv_iload hx hb dX5_runOrders_43 (lv_at hl 4 rfl) ?_
    obtain ⟨q7, u8, u9, u10, u11, u12, u13, h6, hF⟩ := bd7_at hF
    refine ufulli (ws' := ((W5x cI aC aS aL aW aB aF aZ aK aM aO aT aY u8 wm wW u9 u10 u11 u12 u13 ol oS) ++ (HB cI cZ cS aY aV aU aR kd kf kA kV kQ kP))) (va_runV (As := [.int x2, .int x4]) (rest := []) S (K5_runOrder l D cI cZ cS cJ aC aS aL aW aB aF aZ aK aM aO aT aY aV aU aR kQ sr wm wW bh bF bZ bK bM ol oS kd kf kA kV kP x2 x4 q7 u8 u9 u10 u11 u12 u13 h6) (cwV 2 hts (gd_V wd_551 wd_553 wd_15 wd_22 wd_554) rfl rfl rfl hd5_runOrder ⟨Nat.le_of_ble_eq_true rfl, Nat.le_of_ble_eq_true rfl⟩) (uPreV hK hP hD (ci := 5) (q := (RX5, TX5, 3)) rfl rfl) rfl rfl hl.1 rfl (lv_room (Nat.le_of_ble_eq_true rfl)) dX5_runOrders_45 ⟨(Nat.zero_le _), (Nat.zero_le _)⟩) hS hP hD rfl (fun H locs hP hD hS => ?_)
    refine lv_if_ne (tgt := 53) hx hb dX5_runOrders_48 (by decide) (fun c14 => ?_) (fun c14 => ?_)
    · have hF := ite_f c14 hF
      refine lv_iinc (v := (x1 + 1)) (lv' := [(1, .int (x1 + 1)), (0, .ref aC), (2, .int x2), (3, .int x3), (4, .int x4)]) hx hb dX5_runOrders_53 hl (k := 1) rfl rfl (by decide) rfl (fun ls hl => ?_)
      refine lv_iload hx hb dX5_runOrders_56 (lv_at hl 4 rfl) ?_
      refine lv_iconst hx hb dX5_runOrders_58 kc_iconst_1 ?_
      refine lv_iadd hx hb dX5_runOrders_59 ?_
      refine lv_istore_n (lv' := [(2, .int (x4 + (1 : Int32))), (1, .int (x1 + 1)), (0, .ref aC), (3, .int x3), (4, .int x4)]) hx hb dX5_runOrders_60 rfl hl (by decide) rfl (fun ls hl => ?_)
      refine lv_iinc (v := (x4 + 1)) (lv' := [(4, .int (x4 + 1)), (2, .int (x4 + (1 : Int32))), (1, .int (x1 + 1)), (0, .ref aC), (3, .int x3)]) hx hb dX5_runOrders_61 hl (k := 4) rfl rfl (by decide) rfl (fun ls hl => ?_)
      refine lv_goto (tgt := 15) hx hb dX5_runOrders_64 (by decide) ?_
      exact hk15 (x1 + 1) (x4 + (1 : Int32)) (x4 + 1) u8 u9 u10 u11 u12 u13 _ _ hP hD hS ls (lv_sub hl [3, 2, 1, 4, 0] rfl) hF
    · have hF := ite_t c14 hF
      refine lv_iload_n hx hb dX5_runOrders_51 rfl (lv_at hl 1 rfl) ?_
      cases hF
      exact ureti hx hb hr hlocks hP hS dX5_runOrders_52
  have W_15 : ∀ (x3 : Int32) (n : Nat) (x1 : Int32) (x2 : Int32) (x4 : Int32) (sr : Int32) (bh : Int32) (bF : Nat → Int32) (bZ : Nat → Int32) (bK : Nat → Int32) (bM : Nat → Int32), ∀ (H : Heap) (locs : List Loc), va_P D vwCl ((W5x cI aC aS aL aW aB aF aZ aK aM aO aT aY sr wm wW bh bF bZ bK bM ol oS) ++ (HB cI cZ cS aY aV aU aR kd kf kA kV kQ kP)) H → va_D A0 ((W5x cI aC aS aL aW aB aF aZ aK aM aO aT aY sr wm wW bh bF bZ bK bM ol oS) ++ (HB cI cZ cS aY aV aU aR kd kf kA kV kQ kP)) → va_S A0 s.heap H locs → ∀ (ls : Array Slot), lv_has ls 5 [(0, .ref aC), (1, .int x1), (2, .int x2), (3, .int x3), (4, .int x4)] → f5_runOrders_l15 wm wW ol oS x3 n x1 x2 x4 sr bh bF bZ bK bM = some (r, z_sr, z_bh, z_bF, z_bZ, z_bK, z_bM) → uW p l e wsX5_runOrders rm5_runOrders s m args below meth c D (some (.int r)) A0 ((W5x cI aC aS aL aW aB aF aZ aK aM aO aT aY z_sr wm wW z_bh z_bF z_bZ z_bK z_bM ol oS) ++ (HB cI cZ cS aY aV aU aR kd kf kA kV kQ kP)) H locs (F0 m 15 ls []) := by
    intro x3  n
    induction n with
    | zero =>
      intro x1 x2 x4 sr bh bF bZ bK bM H locs hP hD hS ls hl hF
      rw [f5_runOrders_l15] at hF
      cases hF
    | succ n ih =>
      intro x1 x2 x4 sr bh bF bZ bK bM H locs hP hD hS ls hl hF
      rw [f5_runOrders_l15] at hF
      refine lv_iload hx hb dX5_runOrders_15 (lv_at hl 4 rfl) ?_
      refine lv_iload_n hx hb dX5_runOrders_17 rfl (lv_at hl 3 rfl) ?_
      refine lv_icmp_gt (tgt := 67) hx hb dX5_runOrders_18 (by decide) (fun c1 => ?_) (fun c1 => ?_)
      · have hF := ite_t c1 hF
        refine lv_iload_n hx hb dX5_runOrders_67 rfl (lv_at hl 1 rfl) ?_
        cases hF
        exact ureti hx hb hr hlocks hP hS dX5_runOrders_68
      · have hF := ite_f c1 hF
        refine lv_iload hx hb dX5_runOrders_21 (lv_at hl 4 rfl) ?_
        refine lv_iload_n hx hb dX5_runOrders_23 rfl (lv_at hl 3 rfl) ?_
        refine lv_icmp_eq (tgt := 41) hx hb dX5_runOrders_24 (by decide) (fun c2 => ?_) (fun c2 => ?_)
        · have hF := ite_t c2 hF
          exact W_41 sr bh bF bZ bK bM x1 x2 x3 x4 (f5_runOrders_l15 wm wW ol oS x3 n) ih _ _ hP hD hS ls (lv_sub hl [0, 1, 2, 3, 4] rfl) hF
        · have hF := ite_f c2 hF
          refine lv_aload_n hx hb dX5_runOrders_27 rfl (lv_at hl 0 rfl) ?_
          refine va_get (D := D) (ci := 5) (v := .ref aO) (C := RX5) (T := TX5) (N := 3) hx hb hts i_X5 hown hK.1 hP 0 rfl rfl 2 (by decide) (hts _ wd_141) (fun _ h9 => h9) rfl dX5_runOrders_28 ?_
          refine lv_iload hx hb dX5_runOrders_31 (lv_at hl 4 rfl) ?_
          obtain ⟨q4, h3, hF⟩ := bd1_at hF
          refine rcall (va_runV (As := [.int x4]) (rest := []) S (K3_signAt l D cI cZ cS cJ aO aT ol oS x4 q4 h3) (cwV 1 hts (gd_V wd_550 wd_524 wd_525 wd_27 wd_526) rfl rfl rfl hd3_signAt ⟨Nat.le_of_ble_eq_true rfl, Nat.le_of_ble_eq_true rfl⟩) (rPreV hK (hP.sub (ws' := (W3 cI aO aT ol oS)) [9, 10] rfl) (ci := 3) (q := (RX3, TX3, 2)) rfl rfl) rfl rfl hl.1 rfl (lv_room (Nat.le_of_ble_eq_true rfl)) dX5_runOrders_33 ⟨(Nat.zero_le _), (Nat.zero_le _)⟩) ?_
          refine lv_bipush hx hb dX5_runOrders_36 kc_bipush_59 ?_
          refine lv_icmp_ne (tgt := 61) hx hb dX5_runOrders_38 (by decide) (fun c5 => ?_) (fun c5 => ?_)
          · have hF := ite_f c5 hF
            refine lv_iinc (v := (x4 + 1)) (lv' := [(4, .int (x4 + 1)), (0, .ref aC), (1, .int x1), (2, .int x2), (3, .int x3)]) hx hb dX5_runOrders_61 hl (k := 4) rfl rfl (by decide) rfl (fun ls hl => ?_)
            refine lv_goto (tgt := 15) hx hb dX5_runOrders_64 (by decide) ?_
            exact ih x1 x2 (x4 + 1) sr bh bF bZ bK bM _ _ hP hD hS ls (lv_sub hl [1, 2, 3, 4, 0] rfl) hF
          · have hF := ite_t c5 hF
            exact W_41 sr bh bF bZ bK bM x1 x2 x3 x4 (f5_runOrders_l15 wm wW ol oS x3 n) ih _ _ hP hD hS ls (lv_sub hl [0, 1, 2, 3, 4] rfl) hF
  rw [f5_runOrders] at hF
  show uW p l e wsX5_runOrders rm5_runOrders s m args below meth c D (some (.int r)) A0 ((W5x cI aC aS aL aW aB aF aZ aK aM aO aT aY z_sr wm wW z_bh z_bF z_bZ z_bK z_bM ol oS) ++ (HB cI cZ cS aY aV aU aR kd kf kA kV kQ kP)) s.heap [] (F0 m 0 ls [])
  refine lv_iconst hx hb dX5_runOrders_0 kc_iconst_0 ?_
  refine lv_istore_n (lv' := [(1, .int (0 : Int32)), (0, .ref aC)]) hx hb dX5_runOrders_1 rfl hl (by decide) rfl (fun ls hl => ?_)
  refine lv_iconst hx hb dX5_runOrders_2 kc_iconst_0 ?_
  refine lv_istore_n (lv' := [(2, .int (0 : Int32)), (1, .int (0 : Int32)), (0, .ref aC)]) hx hb dX5_runOrders_3 rfl hl (by decide) rfl (fun ls hl => ?_)
  refine lv_aload_n hx hb dX5_runOrders_4 rfl (lv_at hl 2 rfl) ?_
  refine va_get (D := D) (ci := 5) (v := .ref aO) (C := RX5) (T := TX5) (N := 3) hx hb hts i_X5 hown hK.1 hP 0 rfl rfl 2 (by decide) (hts _ wd_141) (fun _ h9 => h9) rfl dX5_runOrders_5 ?_
  refine va_get (D := D) (ci := 3) (v := .int ol) (C := RX3) (T := TX3) (N := 2) hx hb hts i_X3 hown hK.1 hP 9 rfl rfl 1 (by decide) (hts _ wd_133) (fun _ h9 => h9) rfl dX5_runOrders_8 ?_
  refine lv_istore_n (lv' := [(3, .int ol), (2, .int (0 : Int32)), (1, .int (0 : Int32)), (0, .ref aC)]) hx hb dX5_runOrders_11 rfl hl (by decide) rfl (fun ls hl => ?_)
  refine lv_iconst hx hb dX5_runOrders_12 kc_iconst_0 ?_
  refine lv_istore (lv' := [(4, .int (0 : Int32)), (3, .int ol), (2, .int (0 : Int32)), (1, .int (0 : Int32)), (0, .ref aC)]) hx hb dX5_runOrders_13 hl (by decide) rfl (fun ls hl => ?_)
  exact W_15 ol  fu (0 : Int32) (0 : Int32) (0 : Int32) sr bh bF bZ bK bM _ _ hP hD hS ls (lv_sub hl [4, 3, 2, 1, 0] rfl) hF
abbrev rm5_weight : Room := { frames := 7, cells := 2, slots := 12, locals := 106 }
theorem hd5_weight : yX5_weight.cls = RX5 ∧ yX5_weight.cls ≠ "java/lang/invoke/MethodHandle" ∧ yX5_weight.cls ≠ "java/lang/invoke/VarHandle" ∧ (parseMethodDescriptor yX5_weight.desc).map (fun d => d.parameters.length) = some 2 := by decide +kernel
set_option maxHeartbeats 4000000 in
set_option maxRecDepth 100000 in
theorem K5_weight (l : Launch) (hfl : l.stackTraces = false) (D : va_G) (cI cZ cS cJ : ClassId) (aC aS aL aW aB aF aZ aK aM aO aT aY aV aU aR : Nat) (kQ : Nat → SA) (sr : Int32) (wm : Int32) (wW : Nat → Int32) (bh : Int32) (bF : Nat → Int32) (bZ : Nat → Int32) (bK : Nat → Int32) (bM : Nat → Int32) (ol : Int32) (oS : Nat → Int32) (kd : Int32) (kf : Nat → Int32) (kA : Nat → SA) (kV : Nat → SV) (kP : Nat → SV) (x1 : Int32) (x2 : Int32) (k : Nat) (r : Int32) (z_wW : Nat → Int32) (z_kd : Int32) (z_kA : Nat → SA) (z_kV : Nat → SV) (hF : f5_weight sr wm wW bh bF bZ bK bM kd kA kV x1 x2 = some (k, r, z_wW, z_kd, z_kA, z_kV)) : vx_Met l yX5_weight wsX5_weight rm5_weight (xP D (gT cI cZ cS cJ) ((W5x cI aC aS aL aW aB aF aZ aK aM aO aT aY sr wm wW bh bF bZ bK bM ol oS) ++ (HB cI cZ cS aY aV aU aR kd kf kA kV kQ kP)) [.ref aC, .int x1, .int x2]) (xQ D k (some (.int r)) (uA ((W5x cI aC aS aL aW aB aF aZ aK aM aO aT aY sr wm wW bh bF bZ bK bM ol oS) ++ (HB cI cZ cS aY aV aU aR kd kf kA kV kQ kP))) ((W5x cI aC aS aL aW aB aF aZ aK aM aO aT aY sr wm z_wW bh bF bZ bK bM ol oS) ++ (HB cI cZ cS aY aV aU aR z_kd kf z_kA z_kV kQ kP))) (xX D k (uA ((W5x cI aC aS aL aW aB aF aZ aK aM aO aT aY sr wm wW bh bF bZ bK bM ol oS) ++ (HB cI cZ cS aY aV aU aR kd kf kA kV kQ kP))) ((W5x cI aC aS aL aW aB aF aZ aK aM aO aT aY sr wm z_wW bh bF bZ bK bM ol oS) ++ (HB cI cZ cS aY aV aU aR z_kd kf z_kA z_kV kQ kP))) 2 12 (uA ((W5x cI aC aS aL aW aB aF aZ aK aM aO aT aY sr wm wW bh bF bZ bK bM ol oS) ++ (HB cI cZ cS aY aV aU aR kd kf kA kV kQ kP))) := by
  refine vx_ofW (cc := cX5_weight) (maxL := 4) (ret := (some .int)) (by decide) rfl ?_
  intro p e s m args below meth c s₁ B hml hout hv
  obtain ⟨ha, hK, hP, hD0, hX, hZ⟩ := hv
  have hx := B.exec
  have hb := B.bytes
  have hr := B.returns
  have hlocks := B.notSynchronized
  have hts : ∀ w ∈ lw_all, w.before args s = true := fun w h => atoms_spec (ws := wsX5_weight) B.pre w (List.mem_cons_of_mem _ h)
  have hown : s.vm.findClass RX5 = some m.cls := findClass_of_methodNamed B.named
  have S : CallFix p m c cX5_weight 4 s args lw_all RX5 := ⟨hx, hb, hml, hown, hts⟩
  have hD := hD0.own
  generalize uA ((W5x cI aC aS aL aW aB aF aZ aK aM aO aT aY sr wm wW bh bF bZ bK bM ol oS) ++ (HB cI cZ cS aY aV aU aR kd kf kA kV kQ kP)) = A0 at hD hZ ⊢
  have hS : va_S A0 s.heap s.heap [] := va_S.rf
  have hl := lv_entry ([.ref aC, .int x1, .int x2] : List Value) (n := 4) (Nat.le_of_ble_eq_true rfl)
  refine W.eq (g2 := F0 m 0 ((lg_sl ([.ref aC, .int x1, .int x2] : List Value) ++ List.replicate (4 - (lg_sl ([.ref aC, .int x1, .int x2] : List Value)).length) Slot.unset).toArray) []) (by rw [ha]; exact lg_entry_eq _ _ _) ?_
  generalize (lg_sl ([.ref aC, .int x1, .int x2] : List Value) ++ List.replicate (4 - (lg_sl ([.ref aC, .int x1, .int x2] : List Value)).length) Slot.unset).toArray = ls at hl ⊢
  have hl : lv_has ls 4 [(0, .ref aC), (1, .int x1), (2, .int x2)] := hl
  rw [f5_weight] at hF
  show xW p l e wsX5_weight rm5_weight s m args below meth c D k (some (.int r)) A0 ((W5x cI aC aS aL aW aB aF aZ aK aM aO aT aY sr wm z_wW bh bF bZ bK bM ol oS) ++ (HB cI cZ cS aY aV aU aR z_kd kf z_kA z_kV kQ kP)) 2 12 s.heap [] 0 0 (F0 m 0 ls [])
  refine lv_iload_n hx hb dX5_weight_0 rfl (lv_at hl 1 rfl) ?_
  obtain ⟨k2, h1, hF⟩ := bd1_at hF
  refine xcall (ws' := ((W5x cI aC aS aL aW aB aF aZ aK aM aO aT aY sr wm wW bh bF bZ bK bM ol oS) ++ (HB cI cZ cS aY aV aU aR kd kf kA kV kQ kP))) (vx_runS (As := [.int x1]) (rest := []) S (K5_throwIfNoPosition l hfl D cI cZ cS cJ x1 k2 h1) (va_cwS 1 hts (gd_S wd_458 wd_459 wd_22 wd_460) rfl rfl rfl hdn5_throwIfNoPosition ⟨Nat.le_of_ble_eq_true rfl, Nat.le_of_ble_eq_true rfl⟩) (xPreS hK hX hZ hS hD [] (wc := ([] : va_W)) rfl (hP.sub (ws' := ([] : va_W)) [] rfl) (hD.sub (ws' := ([] : va_W)) [] (by decide) rfl)) rfl rfl hl.1 rfl (lv_room (Nat.le_of_ble_eq_true rfl)) dX5_weight_1 ⟨(Nat.le_of_ble_eq_true rfl), (Nat.le_of_ble_eq_true rfl)⟩) hS hP hD [] rfl rfl rfl rfl (fun ce q9 H locs hk hP hD hS hce hcv hcl => ?_) (fun H locs hk hP hD hS => ?_)
  · have hF := ite_f hk hF
    cases hF
    exact xout hk hout hlocks hce hcv hcl hP hS (Nat.le_of_ble_eq_true rfl) (Nat.le_of_ble_eq_true rfl)
  · have hF := ite_t hk hF
    refine lv_iload_n hx hb dX5_weight_4 rfl (lv_at hl 2 rfl) ?_
    refine lv_iconst hx hb dX5_weight_5 kc_iconst_1 ?_
    refine lv_icmp_lt (tgt := 15) hx hb dX5_weight_6 (by decide) (fun c3 => ?_) (fun c3 => ?_)
    · have hF := ite_t c3 hF
      cases hF
      exact xthrow (k := 2) (text := "a weight is 1 to 9") (names := ["java/lang/RuntimeException", "java/lang/Exception"]) rfl (by decide) hx hb hfl hown (by decide +kernel) (by decide +kernel) (hts _ wd_244) (hts _ wd_32) (hX.1 (36, "a weight is 1 to 9") (by decide +kernel)) at38g at38b hts hX ot38 hZ hS (hl.1.trans hml.symm) dX5_weight_15 dX5_weight_18 dX5_weight_19 dX5_weight_21 dX5_weight_24 hout (Nat.le_of_ble_eq_true rfl) (Nat.le_of_ble_eq_true rfl) (Nat.le_of_ble_eq_true rfl) (Nat.le_of_ble_eq_true rfl) hlocks hP (Nat.le_of_ble_eq_true rfl) (Nat.le_of_ble_eq_true rfl)
    · have hF := ite_f c3 hF
      refine lv_iload_n hx hb dX5_weight_9 rfl (lv_at hl 2 rfl) ?_
      refine lv_bipush hx hb dX5_weight_10 kc_bipush_9 ?_
      refine lv_icmp_le (tgt := 25) hx hb dX5_weight_12 (by decide) (fun c4 => ?_) (fun c4 => ?_)
      · have hF := ite_t c4 hF
        refine lv_aload_n hx hb dX5_weight_25 rfl (lv_at hl 0 rfl) ?_
        refine va_get (D := D) (ci := 5) (v := .ref aY) (C := RX5) (T := TX5) (N := 3) hx hb hts i_X5 hown hK.1 hP 0 rfl rfl 1 (by decide) (hts _ wd_140) (fun _ h9 => h9) rfl dX5_weight_26 ?_
        refine lv_aload_n hx hb dX5_weight_29 rfl (lv_at hl 0 rfl) ?_
        refine va_get (D := D) (ci := 5) (v := .ref aS) (C := RX5) (T := TX5) (N := 3) hx hb hts i_X5 hown hK.1 hP 0 rfl rfl 0 (by decide) (hts _ wd_139) (fun _ h9 => h9) rfl dX5_weight_30 ?_
        obtain ⟨u6, u7, u8, h5, hF⟩ := bd3_at hF
        refine hcallv (wc := (W4 cI aS aL aW aB aF aZ aK aM sr wm wW bh bF bZ bK bM)) (wc' := (W4 cI aS aL aW aB aF aZ aK aM sr wm wW bh bF bZ bK bM)) (Hb := (HB cI cZ cS aY aV aU aR kd kf kA kV kQ kP)) (Hb' := (HB cI cZ cS aY aV aU aR u6 kf u7 u8 kQ kP)) (X := (W5x cI aC aS aL aW aB aF aZ aK aM aO aT aY sr wm wW bh bF bZ bK bM ol oS)) (X' := (W5x cI aC aS aL aW aB aF aZ aK aM aO aT aY sr wm wW bh bF bZ bK bM ol oS)) (va_runV (As := [.ref aS]) (rest := []) S (K1_save l D cI cZ cS cJ aS aL aW aB aF aZ aK aM sr wm wW bh bF bZ bK bM aY aV aU aR kd kf kA kQ kV kP  u6 u7 u8 h5) (cwV 1 hts (gd_V wd_276 wd_277 wd_278 wd_26 wd_279) rfl rfl rfl hd1_save ⟨Nat.le_of_ble_eq_true rfl, Nat.le_of_ble_eq_true rfl⟩) (uPreVq hK (hP.sub (ws' := (W4 cI aS aL aW aB aF aZ aK aM sr wm wW bh bF bZ bK bM) ++ (HB cI cZ cS aY aV aU aR kd kf kA kV kQ kP)) [1, 2, 3, 4, 5, 6, 7, 8, 11, 12, 13, 14, 15, 16, 17, 18, 19, 20, 21, 22, 23, 24, 25, 26, 27, 28, 29, 30, 31, 32, 33, 34, 35, 36, 37, 38, 39, 40, 41, 42, 43, 44, 45, 46, 47, 48, 49, 50, 51, 52, 53, 54, 55, 56, 57, 58, 59, 60, 61, 62, 63, 64, 65, 66, 67, 68, 69, 70, 71, 72, 73, 74, 75, 76, 77, 78] rfl) (hD.sub (ws' := (W4 cI aS aL aW aB aF aZ aK aM sr wm wW bh bF bZ bK bM) ++ (HB cI cZ cS aY aV aU aR kd kf kA kV kQ kP)) [1, 2, 3, 4, 5, 6, 7, 8, 11, 12, 13, 14, 15, 16, 17, 18, 19, 20, 21, 22, 23, 24, 25, 26, 27, 28, 29, 30, 31, 32, 33, 34, 35, 36, 37, 38, 39, 40, 41, 42, 43, 44, 45, 46, 47, 48, 49, 50, 51, 52, 53, 54, 55, 56, 57, 58, 59, 60, 61, 62, 63, 64, 65, 66, 67, 68, 69, 70, 71, 72, 73, 74, 75, 76, 77, 78] (by decide +kernel) rfl) 8 (ci := 1) (q := (RX1, TX1, 4)) rfl rfl) rfl rfl hl.1 rfl (lv_room (Nat.le_of_ble_eq_true rfl)) dX5_weight_33 ⟨Nat.le_of_ble_eq_true rfl, Nat.le_of_ble_eq_true rfl⟩) hS hP hD [1, 2, 3, 4, 5, 6, 7, 8] rfl rfl rfl rfl (fun H locs hP hD hS => ?_)
        refine lv_aload_n hx hb dX5_weight_36 rfl (lv_at hl 0 rfl) ?_
        refine va_get (D := D) (ci := 5) (v := .ref aS) (C := RX5) (T := TX5) (N := 3) hx hb hts i_X5 hown hK.1 hP 0 rfl rfl 0 (by decide) (hts _ wd_139) (fun _ h9 => h9) rfl dX5_weight_37 ?_
        refine va_get (D := D) (ci := 4) (v := .ref aL) (C := RX4) (T := TX4) (N := 3) hx hb hts i_X4 hown hK.1 hP 1 rfl rfl 0 (by decide) (hts _ wd_89) (fun _ h9 => h9) rfl dX5_weight_40 ?_
        refine lv_iload_n hx hb dX5_weight_43 rfl (lv_at hl 1 rfl) ?_
        obtain ⟨q10, h9, hF⟩ := bd1_at hF
        refine rcall (va_runV (As := [.int x1]) (rest := []) S (K2_weightAt l D cI cZ cS cJ aL aW wm wW x1 q10 h9) (cwV 1 hts (gd_V wd_418 wd_336 wd_337 wd_24 wd_338) rfl rfl rfl hd2_weightAt ⟨Nat.le_of_ble_eq_true rfl, Nat.le_of_ble_eq_true rfl⟩) (rPreV hK (hP.sub (ws' := (W2 cI aL aW wm wW)) [2, 3] rfl) (ci := 2) (q := (RX2, TX2, 2)) rfl rfl) rfl rfl hl.1 rfl (lv_room (Nat.le_of_ble_eq_true rfl)) dX5_weight_44 ⟨(Nat.le_of_ble_eq_true rfl), (Nat.le_of_ble_eq_true rfl)⟩) ?_
        refine lv_istore_n (lv' := [(3, .int q10), (0, .ref aC), (1, .int x1), (2, .int x2)]) hx hb dX5_weight_47 rfl hl (by decide) rfl (fun ls hl => ?_)
        refine lv_aload_n hx hb dX5_weight_48 rfl (lv_at hl 1 rfl) ?_
        refine va_get (D := D) (ci := 5) (v := .ref aS) (C := RX5) (T := TX5) (N := 3) hx hb hts i_X5 hown hK.1 hP 0 rfl rfl 0 (by decide) (hts _ wd_139) (fun _ h9 => h9) rfl dX5_weight_49 ?_
        refine va_get (D := D) (ci := 4) (v := .ref aL) (C := RX4) (T := TX4) (N := 3) hx hb hts i_X4 hown hK.1 hP 1 rfl rfl 0 (by decide) (hts _ wd_89) (fun _ h9 => h9) rfl dX5_weight_52 ?_
        refine lv_iload_n hx hb dX5_weight_55 rfl (lv_at hl 2 rfl) ?_
        refine lv_iload_n hx hb dX5_weight_56 rfl (lv_at hl 3 rfl) ?_
        obtain ⟨u12, h11, hF⟩ := bd1_at hF
        refine ucallv (ws' := ((W5x cI aC aS aL aW aB aF aZ aK aM aO aT aY sr wm u12 bh bF bZ bK bM ol oS) ++ (HB cI cZ cS aY aV aU aR u6 kf u7 u8 kQ kP))) (va_runV (As := [.int x1, .int x2]) (rest := []) S (K2_setWeight l D cI cZ cS cJ aL aW wm wW x1 x2 u12 h11) (cwV 2 hts (gd_V wd_463 wd_464 wd_465 wd_24 wd_466) rfl rfl rfl hd2_setWeight ⟨Nat.le_of_ble_eq_true rfl, Nat.le_of_ble_eq_true rfl⟩) (uPreV hK (hP.sub (ws' := (W2 cI aL aW wm wW)) [2, 3] rfl) (hD.sub (ws' := (W2 cI aL aW wm wW)) [2, 3] (by decide) rfl) (ci := 2) (q := (RX2, TX2, 2)) rfl rfl) rfl rfl hl.1 rfl (lv_room (Nat.le_of_ble_eq_true rfl)) dX5_weight_57 ⟨(Nat.le_of_ble_eq_true rfl), (Nat.le_of_ble_eq_true rfl)⟩) hS hP hD [2, 3] rfl rfl rfl rfl (fun H locs hP hD hS => ?_)
        refine lv_iload_n hx hb dX5_weight_60 rfl (lv_at hl 0 rfl) ?_
        cases hF
        exact xreti (Nat.le_of_ble_eq_true rfl) (Nat.le_of_ble_eq_true rfl) hx hb hr hlocks hP hS dX5_weight_61
      · have hF := ite_f c4 hF
        cases hF
        exact xthrow (k := 2) (text := "a weight is 1 to 9") (names := ["java/lang/RuntimeException", "java/lang/Exception"]) rfl (by decide) hx hb hfl hown (by decide +kernel) (by decide +kernel) (hts _ wd_244) (hts _ wd_32) (hX.1 (36, "a weight is 1 to 9") (by decide +kernel)) at38g at38b hts hX ot38 hZ hS (hl.1.trans hml.symm) dX5_weight_15 dX5_weight_18 dX5_weight_19 dX5_weight_21 dX5_weight_24 hout (Nat.le_of_ble_eq_true rfl) (Nat.le_of_ble_eq_true rfl) (Nat.le_of_ble_eq_true rfl) (Nat.le_of_ble_eq_true rfl) hlocks hP (Nat.le_of_ble_eq_true rfl) (Nat.le_of_ble_eq_true rfl)
abbrev rm5_modulus : Room := { frames := 6, cells := 1, slots := 6, locals := 106 }
theorem hd5_modulus : yX5_modulus.cls = RX5 ∧ yX5_modulus.cls ≠ "java/lang/invoke/MethodHandle" ∧ yX5_modulus.cls ≠ "java/lang/invoke/VarHandle" ∧ (parseMethodDescriptor yX5_modulus.desc).map (fun d => d.parameters.length) = some 1 := by decide +kernel
set_option maxHeartbeats 4000000 in
set_option maxRecDepth 100000 in
theorem K5_modulus (l : Launch) (hfl : l.stackTraces = false) (D : va_G) (cI cZ cS cJ : ClassId) (aC aS aL aW aB aF aZ aK aM aO aT aY aV aU aR : Nat) (kQ : Nat → SA) (sr : Int32) (wm : Int32) (wW : Nat → Int32) (bh : Int32) (bF : Nat → Int32) (bZ : Nat → Int32) (bK : Nat → Int32) (bM : Nat → Int32) (ol : Int32) (oS : Nat → Int32) (kd : Int32) (kf : Nat → Int32) (kA : Nat → SA) (kV : Nat → SV) (kP : Nat → SV) (x1 : Int32) (k : Nat) (r : Int32) (z_wm : Int32) (z_kd : Int32) (z_kA : Nat → SA) (z_kV : Nat → SV) (hF : f5_modulus sr wm wW bh bF bZ bK bM kd kA kV x1 = some (k, r, z_wm, z_kd, z_kA, z_kV)) : vx_Met l yX5_modulus wsX5_modulus rm5_modulus (xP D (gT cI cZ cS cJ) ((W5x cI aC aS aL aW aB aF aZ aK aM aO aT aY sr wm wW bh bF bZ bK bM ol oS) ++ (HB cI cZ cS aY aV aU aR kd kf kA kV kQ kP)) [.ref aC, .int x1]) (xQ D k (some (.int r)) (uA ((W5x cI aC aS aL aW aB aF aZ aK aM aO aT aY sr wm wW bh bF bZ bK bM ol oS) ++ (HB cI cZ cS aY aV aU aR kd kf kA kV kQ kP))) ((W5x cI aC aS aL aW aB aF aZ aK aM aO aT aY sr z_wm wW bh bF bZ bK bM ol oS) ++ (HB cI cZ cS aY aV aU aR z_kd kf z_kA z_kV kQ kP))) (xX D k (uA ((W5x cI aC aS aL aW aB aF aZ aK aM aO aT aY sr wm wW bh bF bZ bK bM ol oS) ++ (HB cI cZ cS aY aV aU aR kd kf kA kV kQ kP))) ((W5x cI aC aS aL aW aB aF aZ aK aM aO aT aY sr z_wm wW bh bF bZ bK bM ol oS) ++ (HB cI cZ cS aY aV aU aR z_kd kf z_kA z_kV kQ kP))) 1 6 (uA ((W5x cI aC aS aL aW aB aF aZ aK aM aO aT aY sr wm wW bh bF bZ bK bM ol oS) ++ (HB cI cZ cS aY aV aU aR kd kf kA kV kQ kP))) := by
  refine vx_ofW (cc := cX5_modulus) (maxL := 3) (ret := (some .int)) (by decide) rfl ?_
  intro p e s m args below meth c s₁ B hml hout hv
  obtain ⟨ha, hK, hP, hD0, hX, hZ⟩ := hv
  have hx := B.exec
  have hb := B.bytes
  have hr := B.returns
  have hlocks := B.notSynchronized
  have hts : ∀ w ∈ lw_all, w.before args s = true := fun w h => atoms_spec (ws := wsX5_modulus) B.pre w (List.mem_cons_of_mem _ h)
  have hown : s.vm.findClass RX5 = some m.cls := findClass_of_methodNamed B.named
  have S : CallFix p m c cX5_modulus 3 s args lw_all RX5 := ⟨hx, hb, hml, hown, hts⟩
  have hD := hD0.own
  generalize uA ((W5x cI aC aS aL aW aB aF aZ aK aM aO aT aY sr wm wW bh bF bZ bK bM ol oS) ++ (HB cI cZ cS aY aV aU aR kd kf kA kV kQ kP)) = A0 at hD hZ ⊢
  have hS : va_S A0 s.heap s.heap [] := va_S.rf
  have hl := lv_entry ([.ref aC, .int x1] : List Value) (n := 3) (Nat.le_of_ble_eq_true rfl)
  refine W.eq (g2 := F0 m 0 ((lg_sl ([.ref aC, .int x1] : List Value) ++ List.replicate (3 - (lg_sl ([.ref aC, .int x1] : List Value)).length) Slot.unset).toArray) []) (by rw [ha]; exact lg_entry_eq _ _ _) ?_
  generalize (lg_sl ([.ref aC, .int x1] : List Value) ++ List.replicate (3 - (lg_sl ([.ref aC, .int x1] : List Value)).length) Slot.unset).toArray = ls at hl ⊢
  have hl : lv_has ls 3 [(0, .ref aC), (1, .int x1)] := hl
  rw [f5_modulus] at hF
  show xW p l e wsX5_modulus rm5_modulus s m args below meth c D k (some (.int r)) A0 ((W5x cI aC aS aL aW aB aF aZ aK aM aO aT aY sr z_wm wW bh bF bZ bK bM ol oS) ++ (HB cI cZ cS aY aV aU aR z_kd kf z_kA z_kV kQ kP)) 1 6 s.heap [] 0 0 (F0 m 0 ls [])
  refine lv_iload_n hx hb dX5_modulus_0 rfl (lv_at hl 1 rfl) ?_
  refine lv_bipush hx hb dX5_modulus_1 kc_bipush_7 ?_
  refine lv_icmp_lt (tgt := 12) hx hb dX5_modulus_3 (by decide) (fun c1 => ?_) (fun c1 => ?_)
  · have hF := ite_t c1 hF
    cases hF
    exact xthrow (k := 2) (text := "a modulus is 7 to 26") (names := ["java/lang/RuntimeException", "java/lang/Exception"]) rfl (by decide) hx hb hfl hown (by decide +kernel) (by decide +kernel) (hts _ wd_244) (hts _ wd_32) (hX.1 (59, "a modulus is 7 to 26") (by decide +kernel)) at38g at38b hts hX ot38 hZ hS (hl.1.trans hml.symm) dX5_modulus_12 dX5_modulus_15 dX5_modulus_16 dX5_modulus_18 dX5_modulus_21 hout (Nat.le_of_ble_eq_true rfl) (Nat.le_of_ble_eq_true rfl) (Nat.le_of_ble_eq_true rfl) (Nat.le_of_ble_eq_true rfl) hlocks hP (Nat.le_of_ble_eq_true rfl) (Nat.le_of_ble_eq_true rfl)
  · have hF := ite_f c1 hF
    refine lv_iload_n hx hb dX5_modulus_6 rfl (lv_at hl 1 rfl) ?_
    refine lv_bipush hx hb dX5_modulus_7 kc_bipush_26 ?_
    refine lv_icmp_le (tgt := 22) hx hb dX5_modulus_9 (by decide) (fun c2 => ?_) (fun c2 => ?_)
    · have hF := ite_t c2 hF
      refine lv_aload_n hx hb dX5_modulus_22 rfl (lv_at hl 0 rfl) ?_
      refine va_get (D := D) (ci := 5) (v := .ref aY) (C := RX5) (T := TX5) (N := 3) hx hb hts i_X5 hown hK.1 hP 0 rfl rfl 1 (by decide) (hts _ wd_140) (fun _ h9 => h9) rfl dX5_modulus_23 ?_
      refine lv_aload_n hx hb dX5_modulus_26 rfl (lv_at hl 0 rfl) ?_
      refine va_get (D := D) (ci := 5) (v := .ref aS) (C := RX5) (T := TX5) (N := 3) hx hb hts i_X5 hown hK.1 hP 0 rfl rfl 0 (by decide) (hts _ wd_139) (fun _ h9 => h9) rfl dX5_modulus_27 ?_
      obtain ⟨u4, u5, u6, h3, hF⟩ := bd3_at hF
      refine hcallv (wc := (W4 cI aS aL aW aB aF aZ aK aM sr wm wW bh bF bZ bK bM)) (wc' := (W4 cI aS aL aW aB aF aZ aK aM sr wm wW bh bF bZ bK bM)) (Hb := (HB cI cZ cS aY aV aU aR kd kf kA kV kQ kP)) (Hb' := (HB cI cZ cS aY aV aU aR u4 kf u5 u6 kQ kP)) (X := (W5x cI aC aS aL aW aB aF aZ aK aM aO aT aY sr wm wW bh bF bZ bK bM ol oS)) (X' := (W5x cI aC aS aL aW aB aF aZ aK aM aO aT aY sr wm wW bh bF bZ bK bM ol oS)) (va_runV (As := [.ref aS]) (rest := []) S (K1_save l D cI cZ cS cJ aS aL aW aB aF aZ aK aM sr wm wW bh bF bZ bK bM aY aV aU aR kd kf kA kQ kV kP  u4 u5 u6 h3) (cwV 1 hts (gd_V wd_276 wd_277 wd_278 wd_26 wd_279) rfl rfl rfl hd1_save ⟨Nat.le_of_ble_eq_true rfl, Nat.le_of_ble_eq_true rfl⟩) (uPreVq hK (hP.sub (ws' := (W4 cI aS aL aW aB aF aZ aK aM sr wm wW bh bF bZ bK bM) ++ (HB cI cZ cS aY aV aU aR kd kf kA kV kQ kP)) [1, 2, 3, 4, 5, 6, 7, 8, 11, 12, 13, 14, 15, 16, 17, 18, 19, 20, 21, 22, 23, 24, 25, 26, 27, 28, 29, 30, 31, 32, 33, 34, 35, 36, 37, 38, 39, 40, 41, 42, 43, 44, 45, 46, 47, 48, 49, 50, 51, 52, 53, 54, 55, 56, 57, 58, 59, 60, 61, 62, 63, 64, 65, 66, 67, 68, 69, 70, 71, 72, 73, 74, 75, 76, 77, 78] rfl) (hD.sub (ws' := (W4 cI aS aL aW aB aF aZ aK aM sr wm wW bh bF bZ bK bM) ++ (HB cI cZ cS aY aV aU aR kd kf kA kV kQ kP)) [1, 2, 3, 4, 5, 6, 7, 8, 11, 12, 13, 14, 15, 16, 17, 18, 19, 20, 21, 22, 23, 24, 25, 26, 27, 28, 29, 30, 31, 32, 33, 34, 35, 36, 37, 38, 39, 40, 41, 42, 43, 44, 45, 46, 47, 48, 49, 50, 51, 52, 53, 54, 55, 56, 57, 58, 59, 60, 61, 62, 63, 64, 65, 66, 67, 68, 69, 70, 71, 72, 73, 74, 75, 76, 77, 78] (by decide +kernel) rfl) 8 (ci := 1) (q := (RX1, TX1, 4)) rfl rfl) rfl rfl hl.1 rfl (lv_room (Nat.le_of_ble_eq_true rfl)) dX5_modulus_30 ⟨Nat.le_of_ble_eq_true rfl, Nat.le_of_ble_eq_true rfl⟩) hS hP hD [1, 2, 3, 4, 5, 6, 7, 8] rfl rfl rfl rfl (fun H locs hP hD hS => ?_)
      refine lv_aload_n hx hb dX5_modulus_33 rfl (lv_at hl 0 rfl) ?_
      refine va_get (D := D) (ci := 5) (v := .ref aS) (C := RX5) (T := TX5) (N := 3) hx hb hts i_X5 hown hK.1 hP 0 rfl rfl 0 (by decide) (hts _ wd_139) (fun _ h9 => h9) rfl dX5_modulus_34 ?_
      refine va_get (D := D) (ci := 4) (v := .ref aL) (C := RX4) (T := TX4) (N := 3) hx hb hts i_X4 hown hK.1 hP 1 rfl rfl 0 (by decide) (hts _ wd_89) (fun _ h9 => h9) rfl dX5_modulus_37 ?_
      refine va_get (D := D) (ci := 2) (v := .int wm) (C := RX2) (T := TX2) (N := 2) hx hb hts i_X2 hown hK.1 hP 2 rfl rfl 1 (by decide) (hts _ wd_57) (fun _ h9 => h9) rfl dX5_modulus_40 ?_
      refine lv_istore_n (lv' := [(2, .int wm), (0, .ref aC), (1, .int x1)]) hx hb dX5_modulus_43 rfl hl (by decide) rfl (fun ls hl => ?_)
      refine lv_aload_n hx hb dX5_modulus_44 rfl (lv_at hl 1 rfl) ?_
      refine va_get (D := D) (ci := 5) (v := .ref aS) (C := RX5) (T := TX5) (N := 3) hx hb hts i_X5 hown hK.1 hP 0 rfl rfl 0 (by decide) (hts _ wd_139) (fun _ h9 => h9) rfl dX5_modulus_45 ?_
      refine va_get (D := D) (ci := 4) (v := .ref aL) (C := RX4) (T := TX4) (N := 3) hx hb hts i_X4 hown hK.1 hP 1 rfl rfl 0 (by decide) (hts _ wd_89) (fun _ h9 => h9) rfl dX5_modulus_48 ?_
      refine lv_iload_n hx hb dX5_modulus_51 rfl (lv_at hl 2 rfl) ?_
      refine va_put (D := D) (ci := 2) (v := .int x1) (ty := .int) (C := RX2) (T := TX2) (N := 2) hx hb hts i_X2 tyX2 tyX2_ok nmX2 hown hK.1 hP hD hS 2 rfl rfl 1 (by decide) (hts _ wd_57) (fun _ h9 => h9) rfl (by decide +kernel) rfl rfl (Nat.le_of_ble_eq_true rfl) dX5_modulus_52 (fun H locs hP hD hS => ?_)
      have hP : va_P D vwCl ((W5x cI aC aS aL aW aB aF aZ aK aM aO aT aY sr x1 wW bh bF bZ bK bM ol oS) ++ (HB cI cZ cS aY aV aU aR u4 kf u5 u6 kQ kP)) H := hP
      have hD : va_D A0 ((W5x cI aC aS aL aW aB aF aZ aK aM aO aT aY sr x1 wW bh bF bZ bK bM ol oS) ++ (HB cI cZ cS aY aV aU aR u4 kf u5 u6 kQ kP)) := hD
      refine lv_iload_n hx hb dX5_modulus_55 rfl (lv_at hl 0 rfl) ?_
      cases hF
      exact xreti (Nat.le_of_ble_eq_true rfl) (Nat.le_of_ble_eq_true rfl) hx hb hr hlocks hP hS dX5_modulus_56
    · have hF := ite_f c2 hF
      cases hF
      exact xthrow (k := 2) (text := "a modulus is 7 to 26") (names := ["java/lang/RuntimeException", "java/lang/Exception"]) rfl (by decide) hx hb hfl hown (by decide +kernel) (by decide +kernel) (hts _ wd_244) (hts _ wd_32) (hX.1 (59, "a modulus is 7 to 26") (by decide +kernel)) at38g at38b hts hX ot38 hZ hS (hl.1.trans hml.symm) dX5_modulus_12 dX5_modulus_15 dX5_modulus_16 dX5_modulus_18 dX5_modulus_21 hout (Nat.le_of_ble_eq_true rfl) (Nat.le_of_ble_eq_true rfl) (Nat.le_of_ble_eq_true rfl) (Nat.le_of_ble_eq_true rfl) hlocks hP (Nat.le_of_ble_eq_true rfl) (Nat.le_of_ble_eq_true rfl)
abbrev rm5_book : Room := { frames := 7, cells := 1, slots := 6, locals := 106 }
theorem hd5_book : yX5_book.cls = RX5 ∧ yX5_book.cls ≠ "java/lang/invoke/MethodHandle" ∧ yX5_book.cls ≠ "java/lang/invoke/VarHandle" ∧ (parseMethodDescriptor yX5_book.desc).map (fun d => d.parameters.length) = some 2 := by decide +kernel
set_option maxHeartbeats 4000000 in
set_option maxRecDepth 100000 in
theorem K5_book (l : Launch) (hfl : l.stackTraces = false) (D : va_G) (cI cZ cS cJ : ClassId) (aC aS aL aW aB aF aZ aK aM aO aT aY aV aU aR : Nat) (kQ : Nat → SA) (sr : Int32) (wm : Int32) (wW : Nat → Int32) (bh : Int32) (bF : Nat → Int32) (bZ : Nat → Int32) (bK : Nat → Int32) (bM : Nat → Int32) (ol : Int32) (oS : Nat → Int32) (kd : Int32) (kf : Nat → Int32) (kA : Nat → SA) (kV : Nat → SV) (kP : Nat → SV) (x1 : Int32) (x2 : Int32) (k : Nat) (r : Int32) (z_bh : Int32) (z_bF : Nat → Int32) (z_bZ : Nat → Int32) (z_bK : Nat → Int32) (z_bM : Nat → Int32) (z_kd : Int32) (z_kA : Nat → SA) (z_kV : Nat → SV) (hF : f5_book sr wm wW bh bF bZ bK bM kd kA kV x1 x2 = some (k, r, z_bh, z_bF, z_bZ, z_bK, z_bM, z_kd, z_kA, z_kV)) : vx_Met l yX5_book wsX5_book rm5_book (xP D (gT cI cZ cS cJ) ((W5x cI aC aS aL aW aB aF aZ aK aM aO aT aY sr wm wW bh bF bZ bK bM ol oS) ++ (HB cI cZ cS aY aV aU aR kd kf kA kV kQ kP)) [.ref aC, .int x1, .int x2]) (xQ D k (some (.int r)) (uA ((W5x cI aC aS aL aW aB aF aZ aK aM aO aT aY sr wm wW bh bF bZ bK bM ol oS) ++ (HB cI cZ cS aY aV aU aR kd kf kA kV kQ kP))) ((W5x cI aC aS aL aW aB aF aZ aK aM aO aT aY sr wm wW z_bh z_bF z_bZ z_bK z_bM ol oS) ++ (HB cI cZ cS aY aV aU aR z_kd kf z_kA z_kV kQ kP))) (xX D k (uA ((W5x cI aC aS aL aW aB aF aZ aK aM aO aT aY sr wm wW bh bF bZ bK bM ol oS) ++ (HB cI cZ cS aY aV aU aR kd kf kA kV kQ kP))) ((W5x cI aC aS aL aW aB aF aZ aK aM aO aT aY sr wm wW z_bh z_bF z_bZ z_bK z_bM ol oS) ++ (HB cI cZ cS aY aV aU aR z_kd kf z_kA z_kV kQ kP))) 1 6 (uA ((W5x cI aC aS aL aW aB aF aZ aK aM aO aT aY sr wm wW bh bF bZ bK bM ol oS) ++ (HB cI cZ cS aY aV aU aR kd kf kA kV kQ kP))) := by
  refine vx_ofW (cc := cX5_book) (maxL := 3) (ret := (some .int)) (by decide) rfl ?_
  intro p e s m args below meth c s₁ B hml hout hv
  obtain ⟨ha, hK, hP, hD0, hX, hZ⟩ := hv
  have hx := B.exec
  have hb := B.bytes
  have hr := B.returns
  have hlocks := B.notSynchronized
  have hts : ∀ w ∈ lw_all, w.before args s = true := fun w h => atoms_spec (ws := wsX5_book) B.pre w (List.mem_cons_of_mem _ h)
  have hown : s.vm.findClass RX5 = some m.cls := findClass_of_methodNamed B.named
  have S : CallFix p m c cX5_book 3 s args lw_all RX5 := ⟨hx, hb, hml, hown, hts⟩
  have hD := hD0.own
  generalize uA ((W5x cI aC aS aL aW aB aF aZ aK aM aO aT aY sr wm wW bh bF bZ bK bM ol oS) ++ (HB cI cZ cS aY aV aU aR kd kf kA kV kQ kP)) = A0 at hD hZ ⊢
  have hS : va_S A0 s.heap s.heap [] := va_S.rf
  have hl := lv_entry ([.ref aC, .int x1, .int x2] : List Value) (n := 3) (Nat.le_of_ble_eq_true rfl)
  refine W.eq (g2 := F0 m 0 ((lg_sl ([.ref aC, .int x1, .int x2] : List Value) ++ List.replicate (3 - (lg_sl ([.ref aC, .int x1, .int x2] : List Value)).length) Slot.unset).toArray) []) (by rw [ha]; exact lg_entry_eq _ _ _) ?_
  generalize (lg_sl ([.ref aC, .int x1, .int x2] : List Value) ++ List.replicate (3 - (lg_sl ([.ref aC, .int x1, .int x2] : List Value)).length) Slot.unset).toArray = ls at hl ⊢
  have hl : lv_has ls 3 [(0, .ref aC), (1, .int x1), (2, .int x2)] := hl
  rw [f5_book] at hF
  show xW p l e wsX5_book rm5_book s m args below meth c D k (some (.int r)) A0 ((W5x cI aC aS aL aW aB aF aZ aK aM aO aT aY sr wm wW z_bh z_bF z_bZ z_bK z_bM ol oS) ++ (HB cI cZ cS aY aV aU aR z_kd kf z_kA z_kV kQ kP)) 1 6 s.heap [] 0 0 (F0 m 0 ls [])
  refine lv_aload_n hx hb dX5_book_0 rfl (lv_at hl 0 rfl) ?_
  refine lv_iload_n hx hb dX5_book_1 rfl (lv_at hl 1 rfl) ?_
  refine lv_iload_n hx hb dX5_book_2 rfl (lv_at hl 2 rfl) ?_
  obtain ⟨q2, h1, hF⟩ := bd1_at hF
  refine rcall (va_runV (As := [.int x1, .int x2]) (rest := []) S (K5_faultOfBook l D cI cZ cS cJ aC aS aL aW aB aF aZ aK aM aO aT aY aV aU aR kQ sr wm wW bh bF bZ bK bM ol oS kd kf kA kV kP x1 x2 q2 h1) (cwV 2 hts (gd_V wd_153 wd_155 wd_0 wd_22 wd_156) rfl rfl rfl hd5_faultOfBook ⟨Nat.le_of_ble_eq_true rfl, Nat.le_of_ble_eq_true rfl⟩) (rPreV hK hP (ci := 5) (q := (RX5, TX5, 3)) rfl rfl) rfl rfl hl.1 rfl (lv_room (Nat.le_of_ble_eq_true rfl)) dX5_book_3 ⟨(Nat.le_of_ble_eq_true rfl), (Nat.le_of_ble_eq_true rfl)⟩) ?_
  obtain ⟨k4, h3, hF⟩ := bd1_at hF
  refine xcall (ws' := ((W5x cI aC aS aL aW aB aF aZ aK aM aO aT aY sr wm wW bh bF bZ bK bM ol oS) ++ (HB cI cZ cS aY aV aU aR kd kf kA kV kQ kP))) (vx_runS (As := [.int q2]) (rest := []) S (K5_throwIfFaulty l hfl D cI cZ cS cJ q2 k4 h3) (va_cwS 1 hts (gd_S wd_173 wd_174 wd_22 wd_175) rfl rfl rfl hdn5_throwIfFaulty ⟨Nat.le_of_ble_eq_true rfl, Nat.le_of_ble_eq_true rfl⟩) (xPreS hK hX hZ hS hD [] (wc := ([] : va_W)) rfl (hP.sub (ws' := ([] : va_W)) [] rfl) (hD.sub (ws' := ([] : va_W)) [] (by decide) rfl)) rfl rfl hl.1 rfl (lv_room (Nat.le_of_ble_eq_true rfl)) dX5_book_6 ⟨(Nat.le_of_ble_eq_true rfl), (Nat.le_of_ble_eq_true rfl)⟩) hS hP hD [] rfl rfl rfl rfl (fun ce q9 H locs hk hP hD hS hce hcv hcl => ?_) (fun H locs hk hP hD hS => ?_)
  · have hF := ite_f hk hF
    cases hF
    exact xout hk hout hlocks hce hcv hcl hP hS (Nat.le_of_ble_eq_true rfl) (Nat.le_of_ble_eq_true rfl)
  · have hF := ite_t hk hF
    refine lv_aload_n hx hb dX5_book_9 rfl (lv_at hl 0 rfl) ?_
    refine va_get (D := D) (ci := 5) (v := .ref aY) (C := RX5) (T := TX5) (N := 3) hx hb hts i_X5 hown hK.1 hP 0 rfl rfl 1 (by decide) (hts _ wd_140) (fun _ h9 => h9) rfl dX5_book_10 ?_
    refine lv_aload_n hx hb dX5_book_13 rfl (lv_at hl 0 rfl) ?_
    refine va_get (D := D) (ci := 5) (v := .ref aS) (C := RX5) (T := TX5) (N := 3) hx hb hts i_X5 hown hK.1 hP 0 rfl rfl 0 (by decide) (hts _ wd_139) (fun _ h9 => h9) rfl dX5_book_14 ?_
    obtain ⟨u6, u7, u8, h5, hF⟩ := bd3_at hF
    refine hcallv (wc := (W4 cI aS aL aW aB aF aZ aK aM sr wm wW bh bF bZ bK bM)) (wc' := (W4 cI aS aL aW aB aF aZ aK aM sr wm wW bh bF bZ bK bM)) (Hb := (HB cI cZ cS aY aV aU aR kd kf kA kV kQ kP)) (Hb' := (HB cI cZ cS aY aV aU aR u6 kf u7 u8 kQ kP)) (X := (W5x cI aC aS aL aW aB aF aZ aK aM aO aT aY sr wm wW bh bF bZ bK bM ol oS)) (X' := (W5x cI aC aS aL aW aB aF aZ aK aM aO aT aY sr wm wW bh bF bZ bK bM ol oS)) (va_runV (As := [.ref aS]) (rest := []) S (K1_save l D cI cZ cS cJ aS aL aW aB aF aZ aK aM sr wm wW bh bF bZ bK bM aY aV aU aR kd kf kA kQ kV kP  u6 u7 u8 h5) (cwV 1 hts (gd_V wd_276 wd_277 wd_278 wd_26 wd_279) rfl rfl rfl hd1_save ⟨Nat.le_of_ble_eq_true rfl, Nat.le_of_ble_eq_true rfl⟩) (uPreVq hK (hP.sub (ws' := (W4 cI aS aL aW aB aF aZ aK aM sr wm wW bh bF bZ bK bM) ++ (HB cI cZ cS aY aV aU aR kd kf kA kV kQ kP)) [1, 2, 3, 4, 5, 6, 7, 8, 11, 12, 13, 14, 15, 16, 17, 18, 19, 20, 21, 22, 23, 24, 25, 26, 27, 28, 29, 30, 31, 32, 33, 34, 35, 36, 37, 38, 39, 40, 41, 42, 43, 44, 45, 46, 47, 48, 49, 50, 51, 52, 53, 54, 55, 56, 57, 58, 59, 60, 61, 62, 63, 64, 65, 66, 67, 68, 69, 70, 71, 72, 73, 74, 75, 76, 77, 78] rfl) (hD.sub (ws' := (W4 cI aS aL aW aB aF aZ aK aM sr wm wW bh bF bZ bK bM) ++ (HB cI cZ cS aY aV aU aR kd kf kA kV kQ kP)) [1, 2, 3, 4, 5, 6, 7, 8, 11, 12, 13, 14, 15, 16, 17, 18, 19, 20, 21, 22, 23, 24, 25, 26, 27, 28, 29, 30, 31, 32, 33, 34, 35, 36, 37, 38, 39, 40, 41, 42, 43, 44, 45, 46, 47, 48, 49, 50, 51, 52, 53, 54, 55, 56, 57, 58, 59, 60, 61, 62, 63, 64, 65, 66, 67, 68, 69, 70, 71, 72, 73, 74, 75, 76, 77, 78] (by decide +kernel) rfl) 8 (ci := 1) (q := (RX1, TX1, 4)) rfl rfl) rfl rfl hl.1 rfl (lv_room (Nat.le_of_ble_eq_true rfl)) dX5_book_17 ⟨Nat.le_of_ble_eq_true rfl, Nat.le_of_ble_eq_true rfl⟩) hS hP hD [1, 2, 3, 4, 5, 6, 7, 8] rfl rfl rfl rfl (fun H locs hP hD hS => ?_)
    refine lv_aload_n hx hb dX5_book_20 rfl (lv_at hl 0 rfl) ?_
    refine va_get (D := D) (ci := 5) (v := .ref aS) (C := RX5) (T := TX5) (N := 3) hx hb hts i_X5 hown hK.1 hP 0 rfl rfl 0 (by decide) (hts _ wd_139) (fun _ h9 => h9) rfl dX5_book_21 ?_
    refine va_get (D := D) (ci := 4) (v := .ref aB) (C := RX4) (T := TX4) (N := 3) hx hb hts i_X4 hown hK.1 hP 1 rfl rfl 1 (by decide) (hts _ wd_91) (fun _ h9 => h9) rfl dX5_book_24 ?_
    refine lv_iload_n hx hb dX5_book_27 rfl (lv_at hl 1 rfl) ?_
    refine lv_iload_n hx hb dX5_book_28 rfl (lv_at hl 2 rfl) ?_
    obtain ⟨q10, u11, u12, u13, u14, u15, h9, hF⟩ := bd6_at hF
    refine ucalli (ws' := ((W5x cI aC aS aL aW aB aF aZ aK aM aO aT aY sr wm wW u11 u12 u13 u14 u15 ol oS) ++ (HB cI cZ cS aY aV aU aR u6 kf u7 u8 kQ kP))) (va_runV (As := [.int x1, .int x2]) (rest := []) S (K0_add l D cI cZ cS cJ aB aF aZ aK aM bh bF bZ bK bM x1 x2 q10 u11 u12 u13 u14 u15 h9) (cwV 2 hts (gd_V wd_303 wd_304 wd_305 wd_25 wd_306) rfl rfl rfl hd0_add ⟨Nat.le_of_ble_eq_true rfl, Nat.le_of_ble_eq_true rfl⟩) (uPreV hK (hP.sub (ws' := (W0 cI aB aF aZ aK aM bh bF bZ bK bM)) [4, 5, 6, 7, 8] rfl) (hD.sub (ws' := (W0 cI aB aF aZ aK aM bh bF bZ bK bM)) [4, 5, 6, 7, 8] (by decide) rfl) (ci := 0) (q := (RX0, TX0, 5)) rfl rfl) rfl rfl hl.1 rfl (lv_room (Nat.le_of_ble_eq_true rfl)) dX5_book_29 ⟨(Nat.le_of_ble_eq_true rfl), (Nat.le_of_ble_eq_true rfl)⟩) hS hP hD [4, 5, 6, 7, 8] rfl rfl rfl rfl (fun H locs hP hD hS => ?_)
    cases hF
    exact xreti (Nat.le_of_ble_eq_true rfl) (Nat.le_of_ble_eq_true rfl) hx hb hr hlocks hP hS dX5_book_32
abbrev rm5_write : Room := { frames := 7, cells := 1, slots := 6, locals := 106 }
theorem hd5_write : yX5_write.cls = RX5 ∧ yX5_write.cls ≠ "java/lang/invoke/MethodHandle" ∧ yX5_write.cls ≠ "java/lang/invoke/VarHandle" ∧ (parseMethodDescriptor yX5_write.desc).map (fun d => d.parameters.length) = some 2 := by decide +kernel
set_option maxHeartbeats 4000000 in
set_option maxRecDepth 100000 in
theorem K5_write (l : Launch) (hfl : l.stackTraces = false) (D : va_G) (cI cZ cS cJ : ClassId) (aC aS aL aW aB aF aZ aK aM aO aT aY aV aU aR : Nat) (kQ : Nat → SA) (sr : Int32) (wm : Int32) (wW : Nat → Int32) (bh : Int32) (bF : Nat → Int32) (bZ : Nat → Int32) (bK : Nat → Int32) (bM : Nat → Int32) (ol : Int32) (oS : Nat → Int32) (kd : Int32) (kf : Nat → Int32) (kA : Nat → SA) (kV : Nat → SV) (kP : Nat → SV) (x1 : Int32) (x2 : Int32) (k : Nat) (r : Int32) (z_bK : Nat → Int32) (z_bM : Nat → Int32) (z_kd : Int32) (z_kA : Nat → SA) (z_kV : Nat → SV) (hF : f5_write sr wm wW bh bF bZ bK bM kd kA kV x1 x2 = some (k, r, z_bK, z_bM, z_kd, z_kA, z_kV)) : vx_Met l yX5_write wsX5_write rm5_write (xP D (gT cI cZ cS cJ) ((W5x cI aC aS aL aW aB aF aZ aK aM aO aT aY sr wm wW bh bF bZ bK bM ol oS) ++ (HB cI cZ cS aY aV aU aR kd kf kA kV kQ kP)) [.ref aC, .int x1, .int x2]) (xQ D k (some (.int r)) (uA ((W5x cI aC aS aL aW aB aF aZ aK aM aO aT aY sr wm wW bh bF bZ bK bM ol oS) ++ (HB cI cZ cS aY aV aU aR kd kf kA kV kQ kP))) ((W5x cI aC aS aL aW aB aF aZ aK aM aO aT aY sr wm wW bh bF bZ z_bK z_bM ol oS) ++ (HB cI cZ cS aY aV aU aR z_kd kf z_kA z_kV kQ kP))) (xX D k (uA ((W5x cI aC aS aL aW aB aF aZ aK aM aO aT aY sr wm wW bh bF bZ bK bM ol oS) ++ (HB cI cZ cS aY aV aU aR kd kf kA kV kQ kP))) ((W5x cI aC aS aL aW aB aF aZ aK aM aO aT aY sr wm wW bh bF bZ z_bK z_bM ol oS) ++ (HB cI cZ cS aY aV aU aR z_kd kf z_kA z_kV kQ kP))) 1 6 (uA ((W5x cI aC aS aL aW aB aF aZ aK aM aO aT aY sr wm wW bh bF bZ bK bM ol oS) ++ (HB cI cZ cS aY aV aU aR kd kf kA kV kQ kP))) := by
  refine vx_ofW (cc := cX5_write) (maxL := 3) (ret := (some .int)) (by decide) rfl ?_
  intro p e s m args below meth c s₁ B hml hout hv
  obtain ⟨ha, hK, hP, hD0, hX, hZ⟩ := hv
  have hx := B.exec
  have hb := B.bytes
  have hr := B.returns
  have hlocks := B.notSynchronized
  have hts : ∀ w ∈ lw_all, w.before args s = true := fun w h => atoms_spec (ws := wsX5_write) B.pre w (List.mem_cons_of_mem _ h)
  have hown : s.vm.findClass RX5 = some m.cls := findClass_of_methodNamed B.named
  have S : CallFix p m c cX5_write 3 s args lw_all RX5 := ⟨hx, hb, hml, hown, hts⟩
  have hD := hD0.own
  generalize uA ((W5x cI aC aS aL aW aB aF aZ aK aM aO aT aY sr wm wW bh bF bZ bK bM ol oS) ++ (HB cI cZ cS aY aV aU aR kd kf kA kV kQ kP)) = A0 at hD hZ ⊢
  have hS : va_S A0 s.heap s.heap [] := va_S.rf
  have hl := lv_entry ([.ref aC, .int x1, .int x2] : List Value) (n := 3) (Nat.le_of_ble_eq_true rfl)
  refine W.eq (g2 := F0 m 0 ((lg_sl ([.ref aC, .int x1, .int x2] : List Value) ++ List.replicate (3 - (lg_sl ([.ref aC, .int x1, .int x2] : List Value)).length) Slot.unset).toArray) []) (by rw [ha]; exact lg_entry_eq _ _ _) ?_
  generalize (lg_sl ([.ref aC, .int x1, .int x2] : List Value) ++ List.replicate (3 - (lg_sl ([.ref aC, .int x1, .int x2] : List Value)).length) Slot.unset).toArray = ls at hl ⊢
  have hl : lv_has ls 3 [(0, .ref aC), (1, .int x1), (2, .int x2)] := hl
  rw [f5_write] at hF
  show xW p l e wsX5_write rm5_write s m args below meth c D k (some (.int r)) A0 ((W5x cI aC aS aL aW aB aF aZ aK aM aO aT aY sr wm wW bh bF bZ z_bK z_bM ol oS) ++ (HB cI cZ cS aY aV aU aR z_kd kf z_kA z_kV kQ kP)) 1 6 s.heap [] 0 0 (F0 m 0 ls [])
  refine lv_aload_n hx hb dX5_write_0 rfl (lv_at hl 0 rfl) ?_
  refine lv_iload_n hx hb dX5_write_1 rfl (lv_at hl 1 rfl) ?_
  refine lv_iload_n hx hb dX5_write_2 rfl (lv_at hl 2 rfl) ?_
  obtain ⟨q2, h1, hF⟩ := bd1_at hF
  refine rcall (va_runV (As := [.int x1, .int x2]) (rest := []) S (K5_faultOfWriting l D cI cZ cS cJ aC aS aL aW aB aF aZ aK aM aO aT aY aV aU aR kQ sr wm wW bh bF bZ bK bM ol oS kd kf kA kV kP x1 x2 q2 h1) (cwV 2 hts (gd_V wd_315 wd_317 wd_4 wd_22 wd_318) rfl rfl rfl hd5_faultOfWriting ⟨Nat.le_of_ble_eq_true rfl, Nat.le_of_ble_eq_true rfl⟩) (rPreV hK hP (ci := 5) (q := (RX5, TX5, 3)) rfl rfl) rfl rfl hl.1 rfl (lv_room (Nat.le_of_ble_eq_true rfl)) dX5_write_3 ⟨(Nat.le_of_ble_eq_true rfl), (Nat.le_of_ble_eq_true rfl)⟩) ?_
  obtain ⟨k4, h3, hF⟩ := bd1_at hF
  refine xcall (ws' := ((W5x cI aC aS aL aW aB aF aZ aK aM aO aT aY sr wm wW bh bF bZ bK bM ol oS) ++ (HB cI cZ cS aY aV aU aR kd kf kA kV kQ kP))) (vx_runS (As := [.int q2]) (rest := []) S (K5_throwIfFaulty l hfl D cI cZ cS cJ q2 k4 h3) (va_cwS 1 hts (gd_S wd_173 wd_174 wd_22 wd_175) rfl rfl rfl hdn5_throwIfFaulty ⟨Nat.le_of_ble_eq_true rfl, Nat.le_of_ble_eq_true rfl⟩) (xPreS hK hX hZ hS hD [] (wc := ([] : va_W)) rfl (hP.sub (ws' := ([] : va_W)) [] rfl) (hD.sub (ws' := ([] : va_W)) [] (by decide) rfl)) rfl rfl hl.1 rfl (lv_room (Nat.le_of_ble_eq_true rfl)) dX5_write_6 ⟨(Nat.le_of_ble_eq_true rfl), (Nat.le_of_ble_eq_true rfl)⟩) hS hP hD [] rfl rfl rfl rfl (fun ce q9 H locs hk hP hD hS hce hcv hcl => ?_) (fun H locs hk hP hD hS => ?_)
  · have hF := ite_f hk hF
    cases hF
    exact xout hk hout hlocks hce hcv hcl hP hS (Nat.le_of_ble_eq_true rfl) (Nat.le_of_ble_eq_true rfl)
  · have hF := ite_t hk hF
    refine lv_aload_n hx hb dX5_write_9 rfl (lv_at hl 0 rfl) ?_
    refine va_get (D := D) (ci := 5) (v := .ref aY) (C := RX5) (T := TX5) (N := 3) hx hb hts i_X5 hown hK.1 hP 0 rfl rfl 1 (by decide) (hts _ wd_140) (fun _ h9 => h9) rfl dX5_write_10 ?_
    refine lv_aload_n hx hb dX5_write_13 rfl (lv_at hl 0 rfl) ?_
    refine va_get (D := D) (ci := 5) (v := .ref aS) (C := RX5) (T := TX5) (N := 3) hx hb hts i_X5 hown hK.1 hP 0 rfl rfl 0 (by decide) (hts _ wd_139) (fun _ h9 => h9) rfl dX5_write_14 ?_
    obtain ⟨u6, u7, u8, h5, hF⟩ := bd3_at hF
    refine hcallv (wc := (W4 cI aS aL aW aB aF aZ aK aM sr wm wW bh bF bZ bK bM)) (wc' := (W4 cI aS aL aW aB aF aZ aK aM sr wm wW bh bF bZ bK bM)) (Hb := (HB cI cZ cS aY aV aU aR kd kf kA kV kQ kP)) (Hb' := (HB cI cZ cS aY aV aU aR u6 kf u7 u8 kQ kP)) (X := (W5x cI aC aS aL aW aB aF aZ aK aM aO aT aY sr wm wW bh bF bZ bK bM ol oS)) (X' := (W5x cI aC aS aL aW aB aF aZ aK aM aO aT aY sr wm wW bh bF bZ bK bM ol oS)) (va_runV (As := [.ref aS]) (rest := []) S (K1_save l D cI cZ cS cJ aS aL aW aB aF aZ aK aM sr wm wW bh bF bZ bK bM aY aV aU aR kd kf kA kQ kV kP  u6 u7 u8 h5) (cwV 1 hts (gd_V wd_276 wd_277 wd_278 wd_26 wd_279) rfl rfl rfl hd1_save ⟨Nat.le_of_ble_eq_true rfl, Nat.le_of_ble_eq_true rfl⟩) (uPreVq hK (hP.sub (ws' := (W4 cI aS aL aW aB aF aZ aK aM sr wm wW bh bF bZ bK bM) ++ (HB cI cZ cS aY aV aU aR kd kf kA kV kQ kP)) [1, 2, 3, 4, 5, 6, 7, 8, 11, 12, 13, 14, 15, 16, 17, 18, 19, 20, 21, 22, 23, 24, 25, 26, 27, 28, 29, 30, 31, 32, 33, 34, 35, 36, 37, 38, 39, 40, 41, 42, 43, 44, 45, 46, 47, 48, 49, 50, 51, 52, 53, 54, 55, 56, 57, 58, 59, 60, 61, 62, 63, 64, 65, 66, 67, 68, 69, 70, 71, 72, 73, 74, 75, 76, 77, 78] rfl) (hD.sub (ws' := (W4 cI aS aL aW aB aF aZ aK aM sr wm wW bh bF bZ bK bM) ++ (HB cI cZ cS aY aV aU aR kd kf kA kV kQ kP)) [1, 2, 3, 4, 5, 6, 7, 8, 11, 12, 13, 14, 15, 16, 17, 18, 19, 20, 21, 22, 23, 24, 25, 26, 27, 28, 29, 30, 31, 32, 33, 34, 35, 36, 37, 38, 39, 40, 41, 42, 43, 44, 45, 46, 47, 48, 49, 50, 51, 52, 53, 54, 55, 56, 57, 58, 59, 60, 61, 62, 63, 64, 65, 66, 67, 68, 69, 70, 71, 72, 73, 74, 75, 76, 77, 78] (by decide +kernel) rfl) 8 (ci := 1) (q := (RX1, TX1, 4)) rfl rfl) rfl rfl hl.1 rfl (lv_room (Nat.le_of_ble_eq_true rfl)) dX5_write_17 ⟨Nat.le_of_ble_eq_true rfl, Nat.le_of_ble_eq_true rfl⟩) hS hP hD [1, 2, 3, 4, 5, 6, 7, 8] rfl rfl rfl rfl (fun H locs hP hD hS => ?_)
    refine lv_aload_n hx hb dX5_write_20 rfl (lv_at hl 0 rfl) ?_
    refine va_get (D := D) (ci := 5) (v := .ref aS) (C := RX5) (T := TX5) (N := 3) hx hb hts i_X5 hown hK.1 hP 0 rfl rfl 0 (by decide) (hts _ wd_139) (fun _ h9 => h9) rfl dX5_write_21 ?_
    refine va_get (D := D) (ci := 4) (v := .ref aB) (C := RX4) (T := TX4) (N := 3) hx hb hts i_X4 hown hK.1 hP 1 rfl rfl 1 (by decide) (hts _ wd_91) (fun _ h9 => h9) rfl dX5_write_24 ?_
    refine lv_aload_n hx hb dX5_write_27 rfl (lv_at hl 0 rfl) ?_
    refine va_get (D := D) (ci := 5) (v := .ref aS) (C := RX5) (T := TX5) (N := 3) hx hb hts i_X5 hown hK.1 hP 0 rfl rfl 0 (by decide) (hts _ wd_139) (fun _ h9 => h9) rfl dX5_write_28 ?_
    refine va_get (D := D) (ci := 4) (v := .ref aB) (C := RX4) (T := TX4) (N := 3) hx hb hts i_X4 hown hK.1 hP 1 rfl rfl 1 (by decide) (hts _ wd_91) (fun _ h9 => h9) rfl dX5_write_31 ?_
    refine lv_iload_n hx hb dX5_write_34 rfl (lv_at hl 1 rfl) ?_
    obtain ⟨q10, h9, hF⟩ := bd1_at hF
    refine rcall (va_runV (As := [.int x1]) (rest := [.ref aB]) S (K0_cellOf l D cI cZ cS cJ aB aF aZ aK aM bh bF bZ bK bM x1 q10 h9) (cwV 1 hts (gd_V wd_319 wd_320 wd_321 wd_25 wd_322) rfl rfl rfl hd0_cellOf ⟨Nat.le_of_ble_eq_true rfl, Nat.le_of_ble_eq_true rfl⟩) (rPreV hK (hP.sub (ws' := (W0 cI aB aF aZ aK aM bh bF bZ bK bM)) [4, 5, 6, 7, 8] rfl) (ci := 0) (q := (RX0, TX0, 5)) rfl rfl) rfl rfl hl.1 rfl (lv_room (Nat.le_of_ble_eq_true rfl)) dX5_write_35 ⟨(Nat.le_of_ble_eq_true rfl), (Nat.le_of_ble_eq_true rfl)⟩) ?_
    refine lv_iload_n hx hb dX5_write_38 rfl (lv_at hl 2 rfl) ?_
    obtain ⟨u12, u13, h11, hF⟩ := bd2_at hF
    refine ucallv (ws' := ((W5x cI aC aS aL aW aB aF aZ aK aM aO aT aY sr wm wW bh bF bZ u12 u13 ol oS) ++ (HB cI cZ cS aY aV aU aR u6 kf u7 u8 kQ kP))) (va_runV (As := [.int q10, .int x2]) (rest := []) S (K0_makeWritten l D cI cZ cS cJ aB aF aZ aK aM bh bF bZ bK bM q10 x2 u12 u13 h11) (cwV 2 hts (gd_V wd_327 wd_328 wd_329 wd_25 wd_330) rfl rfl rfl hd0_makeWritten ⟨Nat.le_of_ble_eq_true rfl, Nat.le_of_ble_eq_true rfl⟩) (uPreV hK (hP.sub (ws' := (W0 cI aB aF aZ aK aM bh bF bZ bK bM)) [4, 5, 6, 7, 8] rfl) (hD.sub (ws' := (W0 cI aB aF aZ aK aM bh bF bZ bK bM)) [4, 5, 6, 7, 8] (by decide) rfl) (ci := 0) (q := (RX0, TX0, 5)) rfl rfl) rfl rfl hl.1 rfl (lv_room (Nat.le_of_ble_eq_true rfl)) dX5_write_39 ⟨(Nat.le_of_ble_eq_true rfl), (Nat.le_of_ble_eq_true rfl)⟩) hS hP hD [4, 5, 6, 7, 8] rfl rfl rfl rfl (fun H locs hP hD hS => ?_)
    refine lv_aload_n hx hb dX5_write_42 rfl (lv_at hl 0 rfl) ?_
    refine va_get (D := D) (ci := 5) (v := .ref aS) (C := RX5) (T := TX5) (N := 3) hx hb hts i_X5 hown hK.1 hP 0 rfl rfl 0 (by decide) (hts _ wd_139) (fun _ h9 => h9) rfl dX5_write_43 ?_
    refine va_get (D := D) (ci := 4) (v := .ref aL) (C := RX4) (T := TX4) (N := 3) hx hb hts i_X4 hown hK.1 hP 1 rfl rfl 0 (by decide) (hts _ wd_89) (fun _ h9 => h9) rfl dX5_write_46 ?_
    refine lv_iload_n hx hb dX5_write_49 rfl (lv_at hl 1 rfl) ?_
    obtain ⟨q15, h14, hF⟩ := bd1_at hF
    refine rcall (va_runV (As := [.int x1]) (rest := []) S (K2_letterOf l D cI cZ cS cJ aL aW wm wW x1 q15 h14) (cwV 1 hts (gd_V wd_331 wd_332 wd_333 wd_24 wd_334) rfl rfl rfl hd2_letterOf ⟨Nat.le_of_ble_eq_true rfl, Nat.le_of_ble_eq_true rfl⟩) (rPreV hK (hP.sub (ws' := (W2 cI aL aW wm wW)) [2, 3] rfl) (ci := 2) (q := (RX2, TX2, 2)) rfl rfl) rfl rfl hl.1 rfl (lv_room (Nat.le_of_ble_eq_true rfl)) dX5_write_50 ⟨(Nat.le_of_ble_eq_true rfl), (Nat.le_of_ble_eq_true rfl)⟩) ?_
    cases hF
    exact xreti (Nat.le_of_ble_eq_true rfl) (Nat.le_of_ble_eq_true rfl) hx hb hr hlocks hP hS dX5_write_53
abbrev rm5_cash : Room := { frames := 7, cells := 2, slots := 12, locals := 106 }
theorem hd5_cash : yX5_cash.cls = RX5 ∧ yX5_cash.cls ≠ "java/lang/invoke/MethodHandle" ∧ yX5_cash.cls ≠ "java/lang/invoke/VarHandle" ∧ (parseMethodDescriptor yX5_cash.desc).map (fun d => d.parameters.length) = some 2 := by decide +kernel
set_option maxHeartbeats 4000000 in
set_option maxRecDepth 100000 in
theorem K5_cash (l : Launch) (hfl : l.stackTraces = false) (D : va_G) (cI cZ cS cJ : ClassId) (aC aS aL aW aB aF aZ aK aM aO aT aY aV aU aR : Nat) (kQ : Nat → SA) (sr : Int32) (wm : Int32) (wW : Nat → Int32) (bh : Int32) (bF : Nat → Int32) (bZ : Nat → Int32) (bK : Nat → Int32) (bM : Nat → Int32) (ol : Int32) (oS : Nat → Int32) (kd : Int32) (kf : Nat → Int32) (kA : Nat → SA) (kV : Nat → SV) (kP : Nat → SV) (x1 : Int32) (x2 : Int32) (k : Nat) (r : Int32) (z_sr : Int32) (z_bK : Nat → Int32) (z_bM : Nat → Int32) (z_kd : Int32) (z_kA : Nat → SA) (z_kV : Nat → SV) (hF : f5_cash sr wm wW bh bF bZ bK bM kd kA kV x1 x2 = some (k, r, z_sr, z_bK, z_bM, z_kd, z_kA, z_kV)) : vx_Met l yX5_cash wsX5_cash rm5_cash (xP D (gT cI cZ cS cJ) ((W5x cI aC aS aL aW aB aF aZ aK aM aO aT aY sr wm wW bh bF bZ bK bM ol oS) ++ (HB cI cZ cS aY aV aU aR kd kf kA kV kQ kP)) [.ref aC, .int x1, .int x2]) (xQ D k (some (.int r)) (uA ((W5x cI aC aS aL aW aB aF aZ aK aM aO aT aY sr wm wW bh bF bZ bK bM ol oS) ++ (HB cI cZ cS aY aV aU aR kd kf kA kV kQ kP))) ((W5x cI aC aS aL aW aB aF aZ aK aM aO aT aY z_sr wm wW bh bF bZ z_bK z_bM ol oS) ++ (HB cI cZ cS aY aV aU aR z_kd kf z_kA z_kV kQ kP))) (xX D k (uA ((W5x cI aC aS aL aW aB aF aZ aK aM aO aT aY sr wm wW bh bF bZ bK bM ol oS) ++ (HB cI cZ cS aY aV aU aR kd kf kA kV kQ kP))) ((W5x cI aC aS aL aW aB aF aZ aK aM aO aT aY z_sr wm wW bh bF bZ z_bK z_bM ol oS) ++ (HB cI cZ cS aY aV aU aR z_kd kf z_kA z_kV kQ kP))) 2 12 (uA ((W5x cI aC aS aL aW aB aF aZ aK aM aO aT aY sr wm wW bh bF bZ bK bM ol oS) ++ (HB cI cZ cS aY aV aU aR kd kf kA kV kQ kP))) := by
  refine vx_ofW (cc := cX5_cash) (maxL := 3) (ret := (some .int)) (by decide) rfl ?_
  intro p e s m args below meth c s₁ B hml hout hv
  obtain ⟨ha, hK, hP, hD0, hX, hZ⟩ := hv
  have hx := B.exec
  have hb := B.bytes
  have hr := B.returns
  have hlocks := B.notSynchronized
  have hts : ∀ w ∈ lw_all, w.before args s = true := fun w h => atoms_spec (ws := wsX5_cash) B.pre w (List.mem_cons_of_mem _ h)
  have hown : s.vm.findClass RX5 = some m.cls := findClass_of_methodNamed B.named
  have S : CallFix p m c cX5_cash 3 s args lw_all RX5 := ⟨hx, hb, hml, hown, hts⟩
  have hD := hD0.own
  generalize uA ((W5x cI aC aS aL aW aB aF aZ aK aM aO aT aY sr wm wW bh bF bZ bK bM ol oS) ++ (HB cI cZ cS aY aV aU aR kd kf kA kV kQ kP)) = A0 at hD hZ ⊢
  have hS : va_S A0 s.heap s.heap [] := va_S.rf
  have hl := lv_entry ([.ref aC, .int x1, .int x2] : List Value) (n := 3) (Nat.le_of_ble_eq_true rfl)
  refine W.eq (g2 := F0 m 0 ((lg_sl ([.ref aC, .int x1, .int x2] : List Value) ++ List.replicate (3 - (lg_sl ([.ref aC, .int x1, .int x2] : List Value)).length) Slot.unset).toArray) []) (by rw [ha]; exact lg_entry_eq _ _ _) ?_
  generalize (lg_sl ([.ref aC, .int x1, .int x2] : List Value) ++ List.replicate (3 - (lg_sl ([.ref aC, .int x1, .int x2] : List Value)).length) Slot.unset).toArray = ls at hl ⊢
  have hl : lv_has ls 3 [(0, .ref aC), (1, .int x1), (2, .int x2)] := hl
  rw [f5_cash] at hF
  show xW p l e wsX5_cash rm5_cash s m args below meth c D k (some (.int r)) A0 ((W5x cI aC aS aL aW aB aF aZ aK aM aO aT aY z_sr wm wW bh bF bZ z_bK z_bM ol oS) ++ (HB cI cZ cS aY aV aU aR z_kd kf z_kA z_kV kQ kP)) 2 12 s.heap [] 0 0 (F0 m 0 ls [])
  refine lv_iload_n hx hb dX5_cash_0 rfl (lv_at hl 1 rfl) ?_
  obtain ⟨k2, h1, hF⟩ := bd1_at hF
  refine xcall (ws' := ((W5x cI aC aS aL aW aB aF aZ aK aM aO aT aY sr wm wW bh bF bZ bK bM ol oS) ++ (HB cI cZ cS aY aV aU aR kd kf kA kV kQ kP))) (vx_runS (As := [.int x1]) (rest := []) S (K5_throwIfNoSerial l hfl D cI cZ cS cJ x1 k2 h1) (va_cwS 1 hts (gd_S wd_347 wd_348 wd_22 wd_349) rfl rfl rfl hdn5_throwIfNoSerial ⟨Nat.le_of_ble_eq_true rfl, Nat.le_of_ble_eq_true rfl⟩) (xPreS hK hX hZ hS hD [] (wc := ([] : va_W)) rfl (hP.sub (ws' := ([] : va_W)) [] rfl) (hD.sub (ws' := ([] : va_W)) [] (by decide) rfl)) rfl rfl hl.1 rfl (lv_room (Nat.le_of_ble_eq_true rfl)) dX5_cash_1 ⟨(Nat.le_of_ble_eq_true rfl), (Nat.le_of_ble_eq_true rfl)⟩) hS hP hD [] rfl rfl rfl rfl (fun ce q9 H locs hk hP hD hS hce hcv hcl => ?_) (fun H locs hk hP hD hS => ?_)
  · have hF := ite_f hk hF
    cases hF
    exact xout hk hout hlocks hce hcv hcl hP hS (Nat.le_of_ble_eq_true rfl) (Nat.le_of_ble_eq_true rfl)
  · have hF := ite_t hk hF
    refine lv_iload_n hx hb dX5_cash_4 rfl (lv_at hl 2 rfl) ?_
    obtain ⟨k4, h3, hF⟩ := bd1_at hF
    refine xcall (ws' := ((W5x cI aC aS aL aW aB aF aZ aK aM aO aT aY sr wm wW bh bF bZ bK bM ol oS) ++ (HB cI cZ cS aY aV aU aR kd kf kA kV kQ kP))) (vx_runS (As := [.int x2]) (rest := []) S (K5_throwIfNoLetter l hfl D cI cZ cS cJ x2 k4 h3) (va_cwS 1 hts (gd_S wd_351 wd_352 wd_22 wd_353) rfl rfl rfl hdn5_throwIfNoLetter ⟨Nat.le_of_ble_eq_true rfl, Nat.le_of_ble_eq_true rfl⟩) (xPreS hK hX hZ hS hD [] (wc := ([] : va_W)) rfl (hP.sub (ws' := ([] : va_W)) [] rfl) (hD.sub (ws' := ([] : va_W)) [] (by decide) rfl)) rfl rfl hl.1 rfl (lv_room (Nat.le_of_ble_eq_true rfl)) dX5_cash_5 ⟨(Nat.le_of_ble_eq_true rfl), (Nat.le_of_ble_eq_true rfl)⟩) hS hP hD [] rfl rfl rfl rfl (fun ce q9 H locs hk hP hD hS hce hcv hcl => ?_) (fun H locs hk hP hD hS => ?_)
    · have hF := ite_f hk hF
      cases hF
      exact xout hk hout hlocks hce hcv hcl hP hS (Nat.le_of_ble_eq_true rfl) (Nat.le_of_ble_eq_true rfl)
    · have hF := ite_t hk hF
      refine lv_aload_n hx hb dX5_cash_8 rfl (lv_at hl 0 rfl) ?_
      refine va_get (D := D) (ci := 5) (v := .ref aY) (C := RX5) (T := TX5) (N := 3) hx hb hts i_X5 hown hK.1 hP 0 rfl rfl 1 (by decide) (hts _ wd_140) (fun _ h9 => h9) rfl dX5_cash_9 ?_
      refine lv_aload_n hx hb dX5_cash_12 rfl (lv_at hl 0 rfl) ?_
      refine va_get (D := D) (ci := 5) (v := .ref aS) (C := RX5) (T := TX5) (N := 3) hx hb hts i_X5 hown hK.1 hP 0 rfl rfl 0 (by decide) (hts _ wd_139) (fun _ h9 => h9) rfl dX5_cash_13 ?_
      obtain ⟨u6, u7, u8, h5, hF⟩ := bd3_at hF
      refine hcallv (wc := (W4 cI aS aL aW aB aF aZ aK aM sr wm wW bh bF bZ bK bM)) (wc' := (W4 cI aS aL aW aB aF aZ aK aM sr wm wW bh bF bZ bK bM)) (Hb := (HB cI cZ cS aY aV aU aR kd kf kA kV kQ kP)) (Hb' := (HB cI cZ cS aY aV aU aR u6 kf u7 u8 kQ kP)) (X := (W5x cI aC aS aL aW aB aF aZ aK aM aO aT aY sr wm wW bh bF bZ bK bM ol oS)) (X' := (W5x cI aC aS aL aW aB aF aZ aK aM aO aT aY sr wm wW bh bF bZ bK bM ol oS)) (va_runV (As := [.ref aS]) (rest := []) S (K1_save l D cI cZ cS cJ aS aL aW aB aF aZ aK aM sr wm wW bh bF bZ bK bM aY aV aU aR kd kf kA kQ kV kP  u6 u7 u8 h5) (cwV 1 hts (gd_V wd_276 wd_277 wd_278 wd_26 wd_279) rfl rfl rfl hd1_save ⟨Nat.le_of_ble_eq_true rfl, Nat.le_of_ble_eq_true rfl⟩) (uPreVq hK (hP.sub (ws' := (W4 cI aS aL aW aB aF aZ aK aM sr wm wW bh bF bZ bK bM) ++ (HB cI cZ cS aY aV aU aR kd kf kA kV kQ kP)) [1, 2, 3, 4, 5, 6, 7, 8, 11, 12, 13, 14, 15, 16, 17, 18, 19, 20, 21, 22, 23, 24, 25, 26, 27, 28, 29, 30, 31, 32, 33, 34, 35, 36, 37, 38, 39, 40, 41, 42, 43, 44, 45, 46, 47, 48, 49, 50, 51, 52, 53, 54, 55, 56, 57, 58, 59, 60, 61, 62, 63, 64, 65, 66, 67, 68, 69, 70, 71, 72, 73, 74, 75, 76, 77, 78] rfl) (hD.sub (ws' := (W4 cI aS aL aW aB aF aZ aK aM sr wm wW bh bF bZ bK bM) ++ (HB cI cZ cS aY aV aU aR kd kf kA kV kQ kP)) [1, 2, 3, 4, 5, 6, 7, 8, 11, 12, 13, 14, 15, 16, 17, 18, 19, 20, 21, 22, 23, 24, 25, 26, 27, 28, 29, 30, 31, 32, 33, 34, 35, 36, 37, 38, 39, 40, 41, 42, 43, 44, 45, 46, 47, 48, 49, 50, 51, 52, 53, 54, 55, 56, 57, 58, 59, 60, 61, 62, 63, 64, 65, 66, 67, 68, 69, 70, 71, 72, 73, 74, 75, 76, 77, 78] (by decide +kernel) rfl) 8 (ci := 1) (q := (RX1, TX1, 4)) rfl rfl) rfl rfl hl.1 rfl (lv_room (Nat.le_of_ble_eq_true rfl)) dX5_cash_16 ⟨Nat.le_of_ble_eq_true rfl, Nat.le_of_ble_eq_true rfl⟩) hS hP hD [1, 2, 3, 4, 5, 6, 7, 8] rfl rfl rfl rfl (fun H locs hP hD hS => ?_)
      refine lv_aload_n hx hb dX5_cash_19 rfl (lv_at hl 0 rfl) ?_
      refine va_get (D := D) (ci := 5) (v := .ref aS) (C := RX5) (T := TX5) (N := 3) hx hb hts i_X5 hown hK.1 hP 0 rfl rfl 0 (by decide) (hts _ wd_139) (fun _ h9 => h9) rfl dX5_cash_20 ?_
      refine lv_iload_n hx hb dX5_cash_23 rfl (lv_at hl 1 rfl) ?_
      refine lv_iload_n hx hb dX5_cash_24 rfl (lv_at hl 2 rfl) ?_
      obtain ⟨q10, u11, u12, u13, h9, hF⟩ := bd4_at hF
      refine ucalli (ws' := ((W5x cI aC aS aL aW aB aF aZ aK aM aO aT aY u11 wm wW bh bF bZ u12 u13 ol oS) ++ (HB cI cZ cS aY aV aU aR u6 kf u7 u8 kQ kP))) (va_runV (As := [.int x1, .int x2]) (rest := []) S (K4_cashByReading l D cI cZ cS cJ aS aL aW aB aF aZ aK aM sr wm wW bh bF bZ bK bM x1 x2 q10 u11 u12 u13 h9) (cwV 2 hts (gd_V wd_355 wd_356 wd_357 wd_23 wd_358) rfl rfl rfl hd4_cashByReading ⟨Nat.le_of_ble_eq_true rfl, Nat.le_of_ble_eq_true rfl⟩) (uPreV hK (hP.sub (ws' := (W4 cI aS aL aW aB aF aZ aK aM sr wm wW bh bF bZ bK bM)) [1, 2, 3, 4, 5, 6, 7, 8] rfl) (hD.sub (ws' := (W4 cI aS aL aW aB aF aZ aK aM sr wm wW bh bF bZ bK bM)) [1, 2, 3, 4, 5, 6, 7, 8] (by decide) rfl) (ci := 4) (q := (RX4, TX4, 3)) rfl rfl) rfl rfl hl.1 rfl (lv_room (Nat.le_of_ble_eq_true rfl)) dX5_cash_25 ⟨(Nat.le_of_ble_eq_true rfl), (Nat.le_of_ble_eq_true rfl)⟩) hS hP hD [1, 2, 3, 4, 5, 6, 7, 8] rfl rfl rfl rfl (fun H locs hP hD hS => ?_)
      cases hF
      exact xreti (Nat.le_of_ble_eq_true rfl) (Nat.le_of_ble_eq_true rfl) hx hb hr hlocks hP hS dX5_cash_28
abbrev rm5_voidRun : Room := { frames := 7, cells := 1, slots := 6, locals := 106 }
theorem hd5_voidRun : yX5_voidRun.cls = RX5 ∧ yX5_voidRun.cls ≠ "java/lang/invoke/MethodHandle" ∧ yX5_voidRun.cls ≠ "java/lang/invoke/VarHandle" ∧ (parseMethodDescriptor yX5_voidRun.desc).map (fun d => d.parameters.length) = some 2 := by decide +kernel
set_option maxHeartbeats 4000000 in
set_option maxRecDepth 100000 in
theorem K5_voidRun (l : Launch) (hfl : l.stackTraces = false) (D : va_G) (cI cZ cS cJ : ClassId) (aC aS aL aW aB aF aZ aK aM aO aT aY aV aU aR : Nat) (kQ : Nat → SA) (sr : Int32) (wm : Int32) (wW : Nat → Int32) (bh : Int32) (bF : Nat → Int32) (bZ : Nat → Int32) (bK : Nat → Int32) (bM : Nat → Int32) (ol : Int32) (oS : Nat → Int32) (kd : Int32) (kf : Nat → Int32) (kA : Nat → SA) (kV : Nat → SV) (kP : Nat → SV) (x1 : Int32) (x2 : Int32) (k : Nat) (r : Int32) (z_bK : Nat → Int32) (z_bM : Nat → Int32) (z_kd : Int32) (z_kA : Nat → SA) (z_kV : Nat → SV) (hF : f5_voidRun sr wm wW bh bF bZ bK bM kd kA kV x1 x2 = some (k, r, z_bK, z_bM, z_kd, z_kA, z_kV)) : vx_Met l yX5_voidRun wsX5_voidRun rm5_voidRun (xP D (gT cI cZ cS cJ) ((W5x cI aC aS aL aW aB aF aZ aK aM aO aT aY sr wm wW bh bF bZ bK bM ol oS) ++ (HB cI cZ cS aY aV aU aR kd kf kA kV kQ kP)) [.ref aC, .int x1, .int x2]) (xQ D k (some (.int r)) (uA ((W5x cI aC aS aL aW aB aF aZ aK aM aO aT aY sr wm wW bh bF bZ bK bM ol oS) ++ (HB cI cZ cS aY aV aU aR kd kf kA kV kQ kP))) ((W5x cI aC aS aL aW aB aF aZ aK aM aO aT aY sr wm wW bh bF bZ z_bK z_bM ol oS) ++ (HB cI cZ cS aY aV aU aR z_kd kf z_kA z_kV kQ kP))) (xX D k (uA ((W5x cI aC aS aL aW aB aF aZ aK aM aO aT aY sr wm wW bh bF bZ bK bM ol oS) ++ (HB cI cZ cS aY aV aU aR kd kf kA kV kQ kP))) ((W5x cI aC aS aL aW aB aF aZ aK aM aO aT aY sr wm wW bh bF bZ z_bK z_bM ol oS) ++ (HB cI cZ cS aY aV aU aR z_kd kf z_kA z_kV kQ kP))) 1 6 (uA ((W5x cI aC aS aL aW aB aF aZ aK aM aO aT aY sr wm wW bh bF bZ bK bM ol oS) ++ (HB cI cZ cS aY aV aU aR kd kf kA kV kQ kP))) := by
  refine vx_ofW (cc := cX5_voidRun) (maxL := 3) (ret := (some .int)) (by decide) rfl ?_
  intro p e s m args below meth c s₁ B hml hout hv
  obtain ⟨ha, hK, hP, hD0, hX, hZ⟩ := hv
  have hx := B.exec
  have hb := B.bytes
  have hr := B.returns
  have hlocks := B.notSynchronized
  have hts : ∀ w ∈ lw_all, w.before args s = true := fun w h => atoms_spec (ws := wsX5_voidRun) B.pre w (List.mem_cons_of_mem _ h)
  have hown : s.vm.findClass RX5 = some m.cls := findClass_of_methodNamed B.named
  have S : CallFix p m c cX5_voidRun 3 s args lw_all RX5 := ⟨hx, hb, hml, hown, hts⟩
  have hD := hD0.own
  generalize uA ((W5x cI aC aS aL aW aB aF aZ aK aM aO aT aY sr wm wW bh bF bZ bK bM ol oS) ++ (HB cI cZ cS aY aV aU aR kd kf kA kV kQ kP)) = A0 at hD hZ ⊢
  have hS : va_S A0 s.heap s.heap [] := va_S.rf
  have hl := lv_entry ([.ref aC, .int x1, .int x2] : List Value) (n := 3) (Nat.le_of_ble_eq_true rfl)
  refine W.eq (g2 := F0 m 0 ((lg_sl ([.ref aC, .int x1, .int x2] : List Value) ++ List.replicate (3 - (lg_sl ([.ref aC, .int x1, .int x2] : List Value)).length) Slot.unset).toArray) []) (by rw [ha]; exact lg_entry_eq _ _ _) ?_
  generalize (lg_sl ([.ref aC, .int x1, .int x2] : List Value) ++ List.replicate (3 - (lg_sl ([.ref aC, .int x1, .int x2] : List Value)).length) Slot.unset).toArray = ls at hl ⊢
  have hl : lv_has ls 3 [(0, .ref aC), (1, .int x1), (2, .int x2)] := hl
  rw [f5_voidRun] at hF
  show xW p l e wsX5_voidRun rm5_voidRun s m args below meth c D k (some (.int r)) A0 ((W5x cI aC aS aL aW aB aF aZ aK aM aO aT aY sr wm wW bh bF bZ z_bK z_bM ol oS) ++ (HB cI cZ cS aY aV aU aR z_kd kf z_kA z_kV kQ kP)) 1 6 s.heap [] 0 0 (F0 m 0 ls [])
  refine lv_iload_n hx hb dX5_voidRun_0 rfl (lv_at hl 1 rfl) ?_
  refine lv_iload_n hx hb dX5_voidRun_1 rfl (lv_at hl 2 rfl) ?_
  obtain ⟨q2, h1, hF⟩ := bd1_at hF
  refine rcall (va_runS (As := [.int x1, .int x2]) (rest := []) S (K5_faultOfRun l D cI cZ cS cJ x1 x2 q2 h1) (va_cwS 2 hts (gd_S wd_476 wd_477 wd_22 wd_478) rfl rfl rfl hdn5_faultOfRun ⟨Nat.le_of_ble_eq_true rfl, Nat.le_of_ble_eq_true rfl⟩) (rPreS hK (hP.sub (ws' := ([] : va_W)) [] rfl)) rfl rfl hl.1 rfl (lv_room (Nat.le_of_ble_eq_true rfl)) dX5_voidRun_2 ⟨(Nat.le_of_ble_eq_true rfl), (Nat.le_of_ble_eq_true rfl)⟩) ?_
  obtain ⟨k4, h3, hF⟩ := bd1_at hF
  refine xcall (ws' := ((W5x cI aC aS aL aW aB aF aZ aK aM aO aT aY sr wm wW bh bF bZ bK bM ol oS) ++ (HB cI cZ cS aY aV aU aR kd kf kA kV kQ kP))) (vx_runS (As := [.int q2]) (rest := []) S (K5_throwIfFaulty l hfl D cI cZ cS cJ q2 k4 h3) (va_cwS 1 hts (gd_S wd_173 wd_174 wd_22 wd_175) rfl rfl rfl hdn5_throwIfFaulty ⟨Nat.le_of_ble_eq_true rfl, Nat.le_of_ble_eq_true rfl⟩) (xPreS hK hX hZ hS hD [] (wc := ([] : va_W)) rfl (hP.sub (ws' := ([] : va_W)) [] rfl) (hD.sub (ws' := ([] : va_W)) [] (by decide) rfl)) rfl rfl hl.1 rfl (lv_room (Nat.le_of_ble_eq_true rfl)) dX5_voidRun_5 ⟨(Nat.le_of_ble_eq_true rfl), (Nat.le_of_ble_eq_true rfl)⟩) hS hP hD [] rfl rfl rfl rfl (fun ce q9 H locs hk hP hD hS hce hcv hcl => ?_) (fun H locs hk hP hD hS => ?_)
  · have hF := ite_f hk hF
    cases hF
    exact xout hk hout hlocks hce hcv hcl hP hS (Nat.le_of_ble_eq_true rfl) (Nat.le_of_ble_eq_true rfl)
  · have hF := ite_t hk hF
    refine lv_aload_n hx hb dX5_voidRun_8 rfl (lv_at hl 0 rfl) ?_
    refine va_get (D := D) (ci := 5) (v := .ref aY) (C := RX5) (T := TX5) (N := 3) hx hb hts i_X5 hown hK.1 hP 0 rfl rfl 1 (by decide) (hts _ wd_140) (fun _ h9 => h9) rfl dX5_voidRun_9 ?_
    refine lv_aload_n hx hb dX5_voidRun_12 rfl (lv_at hl 0 rfl) ?_
    refine va_get (D := D) (ci := 5) (v := .ref aS) (C := RX5) (T := TX5) (N := 3) hx hb hts i_X5 hown hK.1 hP 0 rfl rfl 0 (by decide) (hts _ wd_139) (fun _ h9 => h9) rfl dX5_voidRun_13 ?_
    obtain ⟨u6, u7, u8, h5, hF⟩ := bd3_at hF
    refine hcallv (wc := (W4 cI aS aL aW aB aF aZ aK aM sr wm wW bh bF bZ bK bM)) (wc' := (W4 cI aS aL aW aB aF aZ aK aM sr wm wW bh bF bZ bK bM)) (Hb := (HB cI cZ cS aY aV aU aR kd kf kA kV kQ kP)) (Hb' := (HB cI cZ cS aY aV aU aR u6 kf u7 u8 kQ kP)) (X := (W5x cI aC aS aL aW aB aF aZ aK aM aO aT aY sr wm wW bh bF bZ bK bM ol oS)) (X' := (W5x cI aC aS aL aW aB aF aZ aK aM aO aT aY sr wm wW bh bF bZ bK bM ol oS)) (va_runV (As := [.ref aS]) (rest := []) S (K1_save l D cI cZ cS cJ aS aL aW aB aF aZ aK aM sr wm wW bh bF bZ bK bM aY aV aU aR kd kf kA kQ kV kP  u6 u7 u8 h5) (cwV 1 hts (gd_V wd_276 wd_277 wd_278 wd_26 wd_279) rfl rfl rfl hd1_save ⟨Nat.le_of_ble_eq_true rfl, Nat.le_of_ble_eq_true rfl⟩) (uPreVq hK (hP.sub (ws' := (W4 cI aS aL aW aB aF aZ aK aM sr wm wW bh bF bZ bK bM) ++ (HB cI cZ cS aY aV aU aR kd kf kA kV kQ kP)) [1, 2, 3, 4, 5, 6, 7, 8, 11, 12, 13, 14, 15, 16, 17, 18, 19, 20, 21, 22, 23, 24, 25, 26, 27, 28, 29, 30, 31, 32, 33, 34, 35, 36, 37, 38, 39, 40, 41, 42, 43, 44, 45, 46, 47, 48, 49, 50, 51, 52, 53, 54, 55, 56, 57, 58, 59, 60, 61, 62, 63, 64, 65, 66, 67, 68, 69, 70, 71, 72, 73, 74, 75, 76, 77, 78] rfl) (hD.sub (ws' := (W4 cI aS aL aW aB aF aZ aK aM sr wm wW bh bF bZ bK bM) ++ (HB cI cZ cS aY aV aU aR kd kf kA kV kQ kP)) [1, 2, 3, 4, 5, 6, 7, 8, 11, 12, 13, 14, 15, 16, 17, 18, 19, 20, 21, 22, 23, 24, 25, 26, 27, 28, 29, 30, 31, 32, 33, 34, 35, 36, 37, 38, 39, 40, 41, 42, 43, 44, 45, 46, 47, 48, 49, 50, 51, 52, 53, 54, 55, 56, 57, 58, 59, 60, 61, 62, 63, 64, 65, 66, 67, 68, 69, 70, 71, 72, 73, 74, 75, 76, 77, 78] (by decide +kernel) rfl) 8 (ci := 1) (q := (RX1, TX1, 4)) rfl rfl) rfl rfl hl.1 rfl (lv_room (Nat.le_of_ble_eq_true rfl)) dX5_voidRun_16 ⟨Nat.le_of_ble_eq_true rfl, Nat.le_of_ble_eq_true rfl⟩) hS hP hD [1, 2, 3, 4, 5, 6, 7, 8] rfl rfl rfl rfl (fun H locs hP hD hS => ?_)
    refine lv_aload_n hx hb dX5_voidRun_19 rfl (lv_at hl 0 rfl) ?_
    refine va_get (D := D) (ci := 5) (v := .ref aS) (C := RX5) (T := TX5) (N := 3) hx hb hts i_X5 hown hK.1 hP 0 rfl rfl 0 (by decide) (hts _ wd_139) (fun _ h9 => h9) rfl dX5_voidRun_20 ?_
    refine va_get (D := D) (ci := 4) (v := .ref aB) (C := RX4) (T := TX4) (N := 3) hx hb hts i_X4 hown hK.1 hP 1 rfl rfl 1 (by decide) (hts _ wd_91) (fun _ h9 => h9) rfl dX5_voidRun_23 ?_
    refine lv_iload_n hx hb dX5_voidRun_26 rfl (lv_at hl 1 rfl) ?_
    refine lv_iload_n hx hb dX5_voidRun_27 rfl (lv_at hl 2 rfl) ?_
    obtain ⟨q10, u11, u12, h9, hF⟩ := bd3_at hF
    refine ucalli (ws' := ((W5x cI aC aS aL aW aB aF aZ aK aM aO aT aY sr wm wW bh bF bZ u11 u12 ol oS) ++ (HB cI cZ cS aY aV aU aR u6 kf u7 u8 kQ kP))) (va_runV (As := [.int x1, .int x2]) (rest := []) S (K0_makeRunVoid l D cI cZ cS cJ aB aF aZ aK aM bh bF bZ bK bM x1 x2 q10 u11 u12 h9) (cwV 2 hts (gd_V wd_479 wd_480 wd_481 wd_25 wd_482) rfl rfl rfl hd0_makeRunVoid ⟨Nat.le_of_ble_eq_true rfl, Nat.le_of_ble_eq_true rfl⟩) (uPreV hK (hP.sub (ws' := (W0 cI aB aF aZ aK aM bh bF bZ bK bM)) [4, 5, 6, 7, 8] rfl) (hD.sub (ws' := (W0 cI aB aF aZ aK aM bh bF bZ bK bM)) [4, 5, 6, 7, 8] (by decide) rfl) (ci := 0) (q := (RX0, TX0, 5)) rfl rfl) rfl rfl hl.1 rfl (lv_room (Nat.le_of_ble_eq_true rfl)) dX5_voidRun_28 ⟨(Nat.le_of_ble_eq_true rfl), (Nat.le_of_ble_eq_true rfl)⟩) hS hP hD [4, 5, 6, 7, 8] rfl rfl rfl rfl (fun H locs hP hD hS => ?_)
    cases hF
    exact xreti (Nat.le_of_ble_eq_true rfl) (Nat.le_of_ble_eq_true rfl) hx hb hr hlocks hP hS dX5_voidRun_31
abbrev rm5_append : Room := { frames := 6, cells := 1, slots := 6, locals := 82 }
theorem hd5_append : yX5_append.cls = RX5 ∧ yX5_append.cls ≠ "java/lang/invoke/MethodHandle" ∧ yX5_append.cls ≠ "java/lang/invoke/VarHandle" ∧ (parseMethodDescriptor yX5_append.desc).map (fun d => d.parameters.length) = some 1 := by decide +kernel
set_option maxHeartbeats 4000000 in
set_option maxRecDepth 100000 in
theorem K5_append (l : Launch) (hfl : l.stackTraces = false) (D : va_G) (cI cZ cS cJ : ClassId) (aC aS aL aW aB aF aZ aK aM aO aT aY aV aU aR : Nat) (kQ : Nat → SA) (sr : Int32) (wm : Int32) (wW : Nat → Int32) (bh : Int32) (bF : Nat → Int32) (bZ : Nat → Int32) (bK : Nat → Int32) (bM : Nat → Int32) (ol : Int32) (oS : Nat → Int32) (kd : Int32) (kf : Nat → Int32) (kA : Nat → SA) (kV : Nat → SV) (kP : Nat → SV) (x1 : Int32) (k : Nat) (r : Int32) (z_ol : Int32) (z_oS : Nat → Int32) (hF : f5_append ol oS x1 = some (k, r, z_ol, z_oS)) : vx_Met l yX5_append wsX5_append rm5_append (xP D (gT cI cZ cS cJ) ((W5x cI aC aS aL aW aB aF aZ aK aM aO aT aY sr wm wW bh bF bZ bK bM ol oS) ++ (HB cI cZ cS aY aV aU aR kd kf kA kV kQ kP)) [.ref aC, .int x1]) (xQ D k (some (.int r)) (uA ((W5x cI aC aS aL aW aB aF aZ aK aM aO aT aY sr wm wW bh bF bZ bK bM ol oS) ++ (HB cI cZ cS aY aV aU aR kd kf kA kV kQ kP))) ((W5x cI aC aS aL aW aB aF aZ aK aM aO aT aY sr wm wW bh bF bZ bK bM z_ol z_oS) ++ (HB cI cZ cS aY aV aU aR kd kf kA kV kQ kP))) (xX D k (uA ((W5x cI aC aS aL aW aB aF aZ aK aM aO aT aY sr wm wW bh bF bZ bK bM ol oS) ++ (HB cI cZ cS aY aV aU aR kd kf kA kV kQ kP))) ((W5x cI aC aS aL aW aB aF aZ aK aM aO aT aY sr wm wW bh bF bZ bK bM z_ol z_oS) ++ (HB cI cZ cS aY aV aU aR kd kf kA kV kQ kP))) 1 6 (uA ((W5x cI aC aS aL aW aB aF aZ aK aM aO aT aY sr wm wW bh bF bZ bK bM ol oS) ++ (HB cI cZ cS aY aV aU aR kd kf kA kV kQ kP))) := by
  refine vx_ofW (cc := cX5_append) (maxL := 2) (ret := (some .int)) (by decide) rfl ?_
  intro p e s m args below meth c s₁ B hml hout hv
  obtain ⟨ha, hK, hP, hD0, hX, hZ⟩ := hv
  have hx := B.exec
  have hb := B.bytes
  have hr := B.returns
  have hlocks := B.notSynchronized
  have hts : ∀ w ∈ lw_all, w.before args s = true := fun w h => atoms_spec (ws := wsX5_append) B.pre w (List.mem_cons_of_mem _ h)
  have hown : s.vm.findClass RX5 = some m.cls := findClass_of_methodNamed B.named
  have S : CallFix p m c cX5_append 2 s args lw_all RX5 := ⟨hx, hb, hml, hown, hts⟩
  have hD := hD0.own
  generalize uA ((W5x cI aC aS aL aW aB aF aZ aK aM aO aT aY sr wm wW bh bF bZ bK bM ol oS) ++ (HB cI cZ cS aY aV aU aR kd kf kA kV kQ kP)) = A0 at hD hZ ⊢
  have hS : va_S A0 s.heap s.heap [] := va_S.rf
  have hl := lv_entry ([.ref aC, .int x1] : List Value) (n := 2) (Nat.le_of_ble_eq_true rfl)
  refine W.eq (g2 := F0 m 0 ((lg_sl ([.ref aC, .int x1] : List Value) ++ List.replicate (2 - (lg_sl ([.ref aC, .int x1] : List Value)).length) Slot.unset).toArray) []) (by rw [ha]; exact lg_entry_eq _ _ _) ?_
  generalize (lg_sl ([.ref aC, .int x1] : List Value) ++ List.replicate (2 - (lg_sl ([.ref aC, .int x1] : List Value)).length) Slot.unset).toArray = ls at hl ⊢
  have hl : lv_has ls 2 [(0, .ref aC), (1, .int x1)] := hl
  rw [f5_append] at hF
  show xW p l e wsX5_append rm5_append s m args below meth c D k (some (.int r)) A0 ((W5x cI aC aS aL aW aB aF aZ aK aM aO aT aY sr wm wW bh bF bZ bK bM z_ol z_oS) ++ (HB cI cZ cS aY aV aU aR kd kf kA kV kQ kP)) 1 6 s.heap [] 0 0 (F0 m 0 ls [])
  refine lv_iload_n hx hb dX5_append_0 rfl (lv_at hl 1 rfl) ?_
  refine lv_bipush hx hb dX5_append_1 kc_bipush_33 ?_
  refine lv_icmp_lt (tgt := 12) hx hb dX5_append_3 (by decide) (fun c1 => ?_) (fun c1 => ?_)
  · have hF := ite_t c1 hF
    cases hF
    exact xthrow (k := 2) (text := "a character code is 33 to 126") (names := ["java/lang/RuntimeException", "java/lang/Exception"]) rfl (by decide) hx hb hfl hown (by decide +kernel) (by decide +kernel) (hts _ wd_244) (hts _ wd_32) (hX.1 (108, "a character code is 33 to 126") (by decide +kernel)) at38g at38b hts hX ot38 hZ hS (hl.1.trans hml.symm) dX5_append_12 dX5_append_15 dX5_append_16 dX5_append_18 dX5_append_21 hout (Nat.le_of_ble_eq_true rfl) (Nat.le_of_ble_eq_true rfl) (Nat.le_of_ble_eq_true rfl) (Nat.le_of_ble_eq_true rfl) hlocks hP (Nat.le_of_ble_eq_true rfl) (Nat.le_of_ble_eq_true rfl)
  · have hF := ite_f c1 hF
    refine lv_iload_n hx hb dX5_append_6 rfl (lv_at hl 1 rfl) ?_
    refine lv_bipush hx hb dX5_append_7 kc_bipush_126 ?_
    refine lv_icmp_le (tgt := 22) hx hb dX5_append_9 (by decide) (fun c2 => ?_) (fun c2 => ?_)
    · have hF := ite_t c2 hF
      refine lv_aload_n hx hb dX5_append_22 rfl (lv_at hl 0 rfl) ?_
      refine va_get (D := D) (ci := 5) (v := .ref aO) (C := RX5) (T := TX5) (N := 3) hx hb hts i_X5 hown hK.1 hP 0 rfl rfl 2 (by decide) (hts _ wd_141) (fun _ h9 => h9) rfl dX5_append_23 ?_
      obtain ⟨q4, h3, hF⟩ := bd1_at hF
      refine rcall (va_runV (As := []) (rest := []) S (K3_isFull l D cI cZ cS cJ aO aT ol oS q4 h3) (cwV 0 hts (gd_V wd_498 wd_499 wd_500 wd_27 wd_501) rfl rfl rfl hd3_isFull ⟨Nat.le_of_ble_eq_true rfl, Nat.le_of_ble_eq_true rfl⟩) (rPreV hK (hP.sub (ws' := (W3 cI aO aT ol oS)) [9, 10] rfl) (ci := 3) (q := (RX3, TX3, 2)) rfl rfl) rfl rfl hl.1 rfl (lv_room (Nat.le_of_ble_eq_true rfl)) dX5_append_26 ⟨(Nat.le_of_ble_eq_true rfl), (Nat.le_of_ble_eq_true rfl)⟩) ?_
      refine lv_if_eq (tgt := 42) hx hb dX5_append_29 (by decide) (fun c5 => ?_) (fun c5 => ?_)
      · have hF := ite_t c5 hF
        refine lv_aload_n hx hb dX5_append_42 rfl (lv_at hl 0 rfl) ?_
        refine va_get (D := D) (ci := 5) (v := .ref aO) (C := RX5) (T := TX5) (N := 3) hx hb hts i_X5 hown hK.1 hP 0 rfl rfl 2 (by decide) (hts _ wd_141) (fun _ h9 => h9) rfl dX5_append_43 ?_
        refine lv_iload_n hx hb dX5_append_46 rfl (lv_at hl 1 rfl) ?_
        obtain ⟨q7, u8, u9, h6, hF⟩ := bd3_at hF
        refine ucalli (ws' := ((W5x cI aC aS aL aW aB aF aZ aK aM aO aT aY sr wm wW bh bF bZ bK bM u8 u9) ++ (HB cI cZ cS aY aV aU aR kd kf kA kV kQ kP))) (va_runV (As := [.int x1]) (rest := []) S (K3_add l D cI cZ cS cJ aO aT ol oS x1 q7 u8 u9 h6) (cwV 1 hts (gd_V wd_503 wd_504 wd_505 wd_27 wd_506) rfl rfl rfl hd3_add ⟨Nat.le_of_ble_eq_true rfl, Nat.le_of_ble_eq_true rfl⟩) (uPreV hK (hP.sub (ws' := (W3 cI aO aT ol oS)) [9, 10] rfl) (hD.sub (ws' := (W3 cI aO aT ol oS)) [9, 10] (by decide) rfl) (ci := 3) (q := (RX3, TX3, 2)) rfl rfl) rfl rfl hl.1 rfl (lv_room (Nat.le_of_ble_eq_true rfl)) dX5_append_47 ⟨(Nat.le_of_ble_eq_true rfl), (Nat.le_of_ble_eq_true rfl)⟩) hS hP hD [9, 10] rfl rfl rfl rfl (fun H locs hP hD hS => ?_)
        cases hF
        exact xreti (Nat.le_of_ble_eq_true rfl) (Nat.le_of_ble_eq_true rfl) hx hb hr hlocks hP hS dX5_append_50
      · have hF := ite_f c5 hF
        cases hF
        exact xthrow (k := 3) (text := "the buffer is full") (names := ["java/lang/RuntimeException", "java/lang/Exception"]) rfl (by decide) hx hb hfl hown (by decide +kernel) (by decide +kernel) (hts _ wd_260) (hts _ wd_33) (hX.1 (116, "the buffer is full") (by decide +kernel)) at118g at118b hts hX ot118 hZ hS (hl.1.trans hml.symm) dX5_append_32 dX5_append_35 dX5_append_36 dX5_append_38 dX5_append_41 hout (Nat.le_of_ble_eq_true rfl) (Nat.le_of_ble_eq_true rfl) (Nat.le_of_ble_eq_true rfl) (Nat.le_of_ble_eq_true rfl) hlocks hP (Nat.le_of_ble_eq_true rfl) (Nat.le_of_ble_eq_true rfl)
    · have hF := ite_f c2 hF
      cases hF
      exact xthrow (k := 2) (text := "a character code is 33 to 126") (names := ["java/lang/RuntimeException", "java/lang/Exception"]) rfl (by decide) hx hb hfl hown (by decide +kernel) (by decide +kernel) (hts _ wd_244) (hts _ wd_32) (hX.1 (108, "a character code is 33 to 126") (by decide +kernel)) at38g at38b hts hX ot38 hZ hS (hl.1.trans hml.symm) dX5_append_12 dX5_append_15 dX5_append_16 dX5_append_18 dX5_append_21 hout (Nat.le_of_ble_eq_true rfl) (Nat.le_of_ble_eq_true rfl) (Nat.le_of_ble_eq_true rfl) (Nat.le_of_ble_eq_true rfl) hlocks hP (Nat.le_of_ble_eq_true rfl) (Nat.le_of_ble_eq_true rfl)
abbrev rm5_clearBuffer : Room := { frames := 1, cells := 0, slots := 0, locals := 21 }
theorem hd5_clearBuffer : yX5_clearBuffer.cls = RX5 ∧ yX5_clearBuffer.cls ≠ "java/lang/invoke/MethodHandle" ∧ yX5_clearBuffer.cls ≠ "java/lang/invoke/VarHandle" ∧ (parseMethodDescriptor yX5_clearBuffer.desc).map (fun d => d.parameters.length) = some 0 := by decide +kernel
set_option maxHeartbeats 4000000 in
set_option maxRecDepth 100000 in
theorem K5_clearBuffer (l : Launch) (D : va_G) (cI cZ cS cJ : ClassId) (aC aS aL aW aB aF aZ aK aM aO aT aY aV aU aR : Nat) (kQ : Nat → SA) (sr : Int32) (wm : Int32) (wW : Nat → Int32) (bh : Int32) (bF : Nat → Int32) (bZ : Nat → Int32) (bK : Nat → Int32) (bM : Nat → Int32) (ol : Int32) (oS : Nat → Int32) (kd : Int32) (kf : Nat → Int32) (kA : Nat → SA) (kV : Nat → SV) (kP : Nat → SV) (r : Int32) (z_ol : Int32) (hF : f5_clearBuffer ol = some (r, z_ol)) : Met l yX5_clearBuffer wsX5_clearBuffer rm5_clearBuffer (uP D (gT cI cZ cS cJ) ((W5x cI aC aS aL aW aB aF aZ aK aM aO aT aY sr wm wW bh bF bZ bK bM ol oS) ++ (HB cI cZ cS aY aV aU aR kd kf kA kV kQ kP)) [.ref aC]) (uQ D (some (.int r)) (uA ((W5x cI aC aS aL aW aB aF aZ aK aM aO aT aY sr wm wW bh bF bZ bK bM ol oS) ++ (HB cI cZ cS aY aV aU aR kd kf kA kV kQ kP))) ((W5x cI aC aS aL aW aB aF aZ aK aM aO aT aY sr wm wW bh bF bZ bK bM z_ol oS) ++ (HB cI cZ cS aY aV aU aR kd kf kA kV kQ kP))) 0 0 (uA ((W5x cI aC aS aL aW aB aF aZ aK aM aO aT aY sr wm wW bh bF bZ bK bM ol oS) ++ (HB cI cZ cS aY aV aU aR kd kf kA kV kQ kP))) := by
  refine Met.ofW (cc := cX5_clearBuffer) (maxL := 1) (ret := (some .int)) (by decide) rfl ?_
  intro p e s m args below meth c s₁ B hml hv
  obtain ⟨ha, hK, hP, hD0⟩ := hv
  have hx := B.exec
  have hb := B.bytes
  have hr := B.returns
  have hlocks := B.notSynchronized
  have hts : ∀ w ∈ lw_all, w.before args s = true := fun w h => atoms_spec (ws := wsX5_clearBuffer) B.pre w (List.mem_cons_of_mem _ h)
  have hown : s.vm.findClass RX5 = some m.cls := findClass_of_methodNamed B.named
  have S : CallFix p m c cX5_clearBuffer 1 s args lw_all RX5 := ⟨hx, hb, hml, hown, hts⟩
  have hD := hD0.own
  generalize uA ((W5x cI aC aS aL aW aB aF aZ aK aM aO aT aY sr wm wW bh bF bZ bK bM ol oS) ++ (HB cI cZ cS aY aV aU aR kd kf kA kV kQ kP)) = A0 at hD ⊢
  have hS : va_S A0 s.heap s.heap [] := va_S.rf
  have hl := lv_entry ([.ref aC] : List Value) (n := 1) (Nat.le_of_ble_eq_true rfl)
  refine W.eq (g2 := F0 m 0 ((lg_sl ([.ref aC] : List Value) ++ List.replicate (1 - (lg_sl ([.ref aC] : List Value)).length) Slot.unset).toArray) []) (by rw [ha]; exact lg_entry_eq _ _ _) ?_
  generalize (lg_sl ([.ref aC] : List Value) ++ List.replicate (1 - (lg_sl ([.ref aC] : List Value)).length) Slot.unset).toArray = ls at hl ⊢
  have hl : lv_has ls 1 [(0, .ref aC)] := hl
  rw [f5_clearBuffer] at hF
  show uW p l e wsX5_clearBuffer rm5_clearBuffer s m args below meth c D (some (.int r)) A0 ((W5x cI aC aS aL aW aB aF aZ aK aM aO aT aY sr wm wW bh bF bZ bK bM z_ol oS) ++ (HB cI cZ cS aY aV aU aR kd kf kA kV kQ kP)) s.heap [] (F0 m 0 ls [])
  refine lv_aload_n hx hb dX5_clearBuffer_0 rfl (lv_at hl 0 rfl) ?_
  refine va_get (D := D) (ci := 5) (v := .ref aO) (C := RX5) (T := TX5) (N := 3) hx hb hts i_X5 hown hK.1 hP 0 rfl rfl 2 (by decide) (hts _ wd_141) (fun _ h9 => h9) rfl dX5_clearBuffer_1 ?_
  obtain ⟨q2, u3, h1, hF⟩ := bd2_at hF
  refine ucalli (ws' := ((W5x cI aC aS aL aW aB aF aZ aK aM aO aT aY sr wm wW bh bF bZ bK bM u3 oS) ++ (HB cI cZ cS aY aV aU aR kd kf kA kV kQ kP))) (va_runV (As := []) (rest := []) S (K3_clear l D cI cZ cS cJ aO aT ol oS q2 u3 h1) (cwV 0 hts (gd_V wd_568 wd_569 wd_570 wd_27 wd_571) rfl rfl rfl hd3_clear ⟨Nat.le_of_ble_eq_true rfl, Nat.le_of_ble_eq_true rfl⟩) (uPreV hK (hP.sub (ws' := (W3 cI aO aT ol oS)) [9, 10] rfl) (hD.sub (ws' := (W3 cI aO aT ol oS)) [9, 10] (by decide) rfl) (ci := 3) (q := (RX3, TX3, 2)) rfl rfl) rfl rfl hl.1 rfl (lv_room (Nat.le_of_ble_eq_true rfl)) dX5_clearBuffer_4 ⟨(Nat.zero_le _), (Nat.zero_le _)⟩) hS hP hD [9, 10] rfl rfl rfl rfl (fun H locs hP hD hS => ?_)
  cases hF
  exact ureti hx hb hr hlocks hP hS dX5_clearBuffer_7
abbrev rm5_firstError : Room := { frames := 5, cells := 0, slots := 0, locals := 114 }
theorem hd5_firstError : yX5_firstError.cls = RX5 ∧ yX5_firstError.cls ≠ "java/lang/invoke/MethodHandle" ∧ yX5_firstError.cls ≠ "java/lang/invoke/VarHandle" ∧ (parseMethodDescriptor yX5_firstError.desc).map (fun d => d.parameters.length) = some 0 := by decide +kernel
set_option maxHeartbeats 4000000 in
set_option maxRecDepth 100000 in
theorem K5_firstError (l : Launch) (D : va_G) (cI cZ cS cJ : ClassId) (aC aS aL aW aB aF aZ aK aM aO aT aY aV aU aR : Nat) (kQ : Nat → SA) (sr : Int32) (wm : Int32) (wW : Nat → Int32) (bh : Int32) (bF : Nat → Int32) (bZ : Nat → Int32) (bK : Nat → Int32) (bM : Nat → Int32) (ol : Int32) (oS : Nat → Int32) (kd : Int32) (kf : Nat → Int32) (kA : Nat → SA) (kV : Nat → SV) (kP : Nat → SV) (r : Int32) (hF : f5_firstError ol oS = some (r)) : Met l yX5_firstError wsX5_firstError rm5_firstError (rP D (gT cI cZ cS cJ) ((W5x cI aC aS aL aW aB aF aZ aK aM aO aT aY sr wm wW bh bF bZ bK bM ol oS) ++ (HB cI cZ cS aY aV aU aR kd kf kA kV kQ kP)) [.ref aC]) (rQ (.int r)) 0 0 (fun _ => False) := by
  refine Met.ofW (cc := cX5_firstError) (maxL := 1) (ret := (some .int)) (by decide) rfl ?_
  intro p e s m args below meth c s₁ B hml hv
  obtain ⟨ha, hK, hP⟩ := hv
  have hx := B.exec
  have hb := B.bytes
  have hr := B.returns
  have hlocks := B.notSynchronized
  have hts : ∀ w ∈ lw_all, w.before args s = true := fun w h => atoms_spec (ws := wsX5_firstError) B.pre w (List.mem_cons_of_mem _ h)
  have hown : s.vm.findClass RX5 = some m.cls := findClass_of_methodNamed B.named
  have S : CallFix p m c cX5_firstError 1 s args lw_all RX5 := ⟨hx, hb, hml, hown, hts⟩
  have hl := lv_entry ([.ref aC] : List Value) (n := 1) (Nat.le_of_ble_eq_true rfl)
  refine W.eq (g2 := F0 m 0 ((lg_sl ([.ref aC] : List Value) ++ List.replicate (1 - (lg_sl ([.ref aC] : List Value)).length) Slot.unset).toArray) []) (by rw [ha]; exact lg_entry_eq _ _ _) ?_
  generalize (lg_sl ([.ref aC] : List Value) ++ List.replicate (1 - (lg_sl ([.ref aC] : List Value)).length) Slot.unset).toArray = ls at hl ⊢
  have hl : lv_has ls 1 [(0, .ref aC)] := hl
  rw [f5_firstError] at hF
  show rW p l e wsX5_firstError rm5_firstError s m args below meth c (.int r) (F0 m 0 ls [])
  refine lv_aload_n hx hb dX5_firstError_0 rfl (lv_at hl 0 rfl) ?_
  refine va_get (D := D) (ci := 5) (v := .ref aO) (C := RX5) (T := TX5) (N := 3) hx hb hts i_X5 hown hK.1 hP 0 rfl rfl 2 (by decide) (hts _ wd_141) (fun _ h9 => h9) rfl dX5_firstError_1 ?_
  obtain ⟨q2, h1, hF⟩ := bd1_at hF
  refine rcall (va_runV (As := []) (rest := []) S (K3_errorIndex l D cI cZ cS cJ aO aT ol oS q2 h1) (cwV 0 hts (gd_V wd_748 wd_516 wd_517 wd_27 wd_518) rfl rfl rfl hd3_errorIndex ⟨Nat.le_of_ble_eq_true rfl, Nat.le_of_ble_eq_true rfl⟩) (rPreV hK (hP.sub (ws' := (W3 cI aO aT ol oS)) [9, 10] rfl) (ci := 3) (q := (RX3, TX3, 2)) rfl rfl) rfl rfl hl.1 rfl (lv_room (Nat.le_of_ble_eq_true rfl)) dX5_firstError_4 ⟨(Nat.zero_le _), (Nat.zero_le _)⟩) ?_
  exact rret hF hx hb hr hlocks dX5_firstError_7
abbrev rm5_execute : Room := { frames := 6, cells := 1, slots := 6, locals := 142 }
theorem hd5_execute : yX5_execute.cls = RX5 ∧ yX5_execute.cls ≠ "java/lang/invoke/MethodHandle" ∧ yX5_execute.cls ≠ "java/lang/invoke/VarHandle" ∧ (parseMethodDescriptor yX5_execute.desc).map (fun d => d.parameters.length) = some 0 := by decide +kernel
set_option maxHeartbeats 4000000 in
set_option maxRecDepth 100000 in
theorem K5_execute (l : Launch) (hfl : l.stackTraces = false) (D : va_G) (cI cZ cS cJ : ClassId) (aC aS aL aW aB aF aZ aK aM aO aT aY aV aU aR : Nat) (kQ : Nat → SA) (sr : Int32) (wm : Int32) (wW : Nat → Int32) (bh : Int32) (bF : Nat → Int32) (bZ : Nat → Int32) (bK : Nat → Int32) (bM : Nat → Int32) (ol : Int32) (oS : Nat → Int32) (kd : Int32) (kf : Nat → Int32) (kA : Nat → SA) (kV : Nat → SV) (kP : Nat → SV) (k : Nat) (r : Int32) (z_sr : Int32) (z_bh : Int32) (z_bF : Nat → Int32) (z_bZ : Nat → Int32) (z_bK : Nat → Int32) (z_bM : Nat → Int32) (z_ol : Int32) (z_kd : Int32) (z_kA : Nat → SA) (z_kV : Nat → SV) (hF : f5_execute sr wm wW bh bF bZ bK bM ol oS kd kA kV = some (k, r, z_sr, z_bh, z_bF, z_bZ, z_bK, z_bM, z_ol, z_kd, z_kA, z_kV)) : vx_Met l yX5_execute wsX5_execute rm5_execute (xP D (gT cI cZ cS cJ) ((W5x cI aC aS aL aW aB aF aZ aK aM aO aT aY sr wm wW bh bF bZ bK bM ol oS) ++ (HB cI cZ cS aY aV aU aR kd kf kA kV kQ kP)) [.ref aC]) (xQ D k (some (.int r)) (uA ((W5x cI aC aS aL aW aB aF aZ aK aM aO aT aY sr wm wW bh bF bZ bK bM ol oS) ++ (HB cI cZ cS aY aV aU aR kd kf kA kV kQ kP))) ((W5x cI aC aS aL aW aB aF aZ aK aM aO aT aY z_sr wm wW z_bh z_bF z_bZ z_bK z_bM z_ol oS) ++ (HB cI cZ cS aY aV aU aR z_kd kf z_kA z_kV kQ kP))) (xX D k (uA ((W5x cI aC aS aL aW aB aF aZ aK aM aO aT aY sr wm wW bh bF bZ bK bM ol oS) ++ (HB cI cZ cS aY aV aU aR kd kf kA kV kQ kP))) ((W5x cI aC aS aL aW aB aF aZ aK aM aO aT aY z_sr wm wW z_bh z_bF z_bZ z_bK z_bM z_ol oS) ++ (HB cI cZ cS aY aV aU aR z_kd kf z_kA z_kV kQ kP))) 1 6 (uA ((W5x cI aC aS aL aW aB aF aZ aK aM aO aT aY sr wm wW bh bF bZ bK bM ol oS) ++ (HB cI cZ cS aY aV aU aR kd kf kA kV kQ kP))) := by
  refine vx_ofW (cc := cX5_execute) (maxL := 2) (ret := (some .int)) (by decide) rfl ?_
  intro p e s m args below meth c s₁ B hml hout hv
  obtain ⟨ha, hK, hP, hD0, hX, hZ⟩ := hv
  have hx := B.exec
  have hb := B.bytes
  have hr := B.returns
  have hlocks := B.notSynchronized
  have hts : ∀ w ∈ lw_all, w.before args s = true := fun w h => atoms_spec (ws := wsX5_execute) B.pre w (List.mem_cons_of_mem _ h)
  have hown : s.vm.findClass RX5 = some m.cls := findClass_of_methodNamed B.named
  have S : CallFix p m c cX5_execute 2 s args lw_all RX5 := ⟨hx, hb, hml, hown, hts⟩
  have hD := hD0.own
  generalize uA ((W5x cI aC aS aL aW aB aF aZ aK aM aO aT aY sr wm wW bh bF bZ bK bM ol oS) ++ (HB cI cZ cS aY aV aU aR kd kf kA kV kQ kP)) = A0 at hD hZ ⊢
  have hS : va_S A0 s.heap s.heap [] := va_S.rf
  have hl := lv_entry ([.ref aC] : List Value) (n := 2) (Nat.le_of_ble_eq_true rfl)
  refine W.eq (g2 := F0 m 0 ((lg_sl ([.ref aC] : List Value) ++ List.replicate (2 - (lg_sl ([.ref aC] : List Value)).length) Slot.unset).toArray) []) (by rw [ha]; exact lg_entry_eq _ _ _) ?_
  generalize (lg_sl ([.ref aC] : List Value) ++ List.replicate (2 - (lg_sl ([.ref aC] : List Value)).length) Slot.unset).toArray = ls at hl ⊢
  have hl : lv_has ls 2 [(0, .ref aC)] := hl
  rw [f5_execute] at hF
  show xW p l e wsX5_execute rm5_execute s m args below meth c D k (some (.int r)) A0 ((W5x cI aC aS aL aW aB aF aZ aK aM aO aT aY z_sr wm wW z_bh z_bF z_bZ z_bK z_bM z_ol oS) ++ (HB cI cZ cS aY aV aU aR z_kd kf z_kA z_kV kQ kP)) 1 6 s.heap [] 0 0 (F0 m 0 ls [])
  refine lv_aload_n hx hb dX5_execute_0 rfl (lv_at hl 0 rfl) ?_
  refine va_get (D := D) (ci := 5) (v := .ref aO) (C := RX5) (T := TX5) (N := 3) hx hb hts i_X5 hown hK.1 hP 0 rfl rfl 2 (by decide) (hts _ wd_141) (fun _ h9 => h9) rfl dX5_execute_1 ?_
  obtain ⟨q2, h1, hF⟩ := bd1_at hF
  refine rcall (va_runV (As := []) (rest := []) S (K3_isComplete l D cI cZ cS cJ aO aT ol oS q2 h1) (cwV 0 hts (gd_V wd_511 wd_512 wd_513 wd_27 wd_514) rfl rfl rfl hd3_isComplete ⟨Nat.le_of_ble_eq_true rfl, Nat.le_of_ble_eq_true rfl⟩) (rPreV hK (hP.sub (ws' := (W3 cI aO aT ol oS)) [9, 10] rfl) (ci := 3) (q := (RX3, TX3, 2)) rfl rfl) rfl rfl hl.1 rfl (lv_room (Nat.le_of_ble_eq_true rfl)) dX5_execute_4 ⟨(Nat.le_of_ble_eq_true rfl), (Nat.le_of_ble_eq_true rfl)⟩) ?_
  refine lv_if_ne (tgt := 20) hx hb dX5_execute_7 (by decide) (fun c3 => ?_) (fun c3 => ?_)
  · have hF := ite_f c3 hF
    refine lv_aload_n hx hb dX5_execute_20 rfl (lv_at hl 0 rfl) ?_
    refine va_get (D := D) (ci := 5) (v := .ref aY) (C := RX5) (T := TX5) (N := 3) hx hb hts i_X5 hown hK.1 hP 0 rfl rfl 1 (by decide) (hts _ wd_140) (fun _ h9 => h9) rfl dX5_execute_21 ?_
    refine lv_aload_n hx hb dX5_execute_24 rfl (lv_at hl 0 rfl) ?_
    refine va_get (D := D) (ci := 5) (v := .ref aS) (C := RX5) (T := TX5) (N := 3) hx hb hts i_X5 hown hK.1 hP 0 rfl rfl 0 (by decide) (hts _ wd_139) (fun _ h9 => h9) rfl dX5_execute_25 ?_
    obtain ⟨u5, u6, u7, h4, hF⟩ := bd3_at hF
    refine hcallv (wc := (W4 cI aS aL aW aB aF aZ aK aM sr wm wW bh bF bZ bK bM)) (wc' := (W4 cI aS aL aW aB aF aZ aK aM sr wm wW bh bF bZ bK bM)) (Hb := (HB cI cZ cS aY aV aU aR kd kf kA kV kQ kP)) (Hb' := (HB cI cZ cS aY aV aU aR u5 kf u6 u7 kQ kP)) (X := (W5x cI aC aS aL aW aB aF aZ aK aM aO aT aY sr wm wW bh bF bZ bK bM ol oS)) (X' := (W5x cI aC aS aL aW aB aF aZ aK aM aO aT aY sr wm wW bh bF bZ bK bM ol oS)) (va_runV (As := [.ref aS]) (rest := []) S (K1_save l D cI cZ cS cJ aS aL aW aB aF aZ aK aM sr wm wW bh bF bZ bK bM aY aV aU aR kd kf kA kQ kV kP  u5 u6 u7 h4) (cwV 1 hts (gd_V wd_276 wd_277 wd_278 wd_26 wd_279) rfl rfl rfl hd1_save ⟨Nat.le_of_ble_eq_true rfl, Nat.le_of_ble_eq_true rfl⟩) (uPreVq hK (hP.sub (ws' := (W4 cI aS aL aW aB aF aZ aK aM sr wm wW bh bF bZ bK bM) ++ (HB cI cZ cS aY aV aU aR kd kf kA kV kQ kP)) [1, 2, 3, 4, 5, 6, 7, 8, 11, 12, 13, 14, 15, 16, 17, 18, 19, 20, 21, 22, 23, 24, 25, 26, 27, 28, 29, 30, 31, 32, 33, 34, 35, 36, 37, 38, 39, 40, 41, 42, 43, 44, 45, 46, 47, 48, 49, 50, 51, 52, 53, 54, 55, 56, 57, 58, 59, 60, 61, 62, 63, 64, 65, 66, 67, 68, 69, 70, 71, 72, 73, 74, 75, 76, 77, 78] rfl) (hD.sub (ws' := (W4 cI aS aL aW aB aF aZ aK aM sr wm wW bh bF bZ bK bM) ++ (HB cI cZ cS aY aV aU aR kd kf kA kV kQ kP)) [1, 2, 3, 4, 5, 6, 7, 8, 11, 12, 13, 14, 15, 16, 17, 18, 19, 20, 21, 22, 23, 24, 25, 26, 27, 28, 29, 30, 31, 32, 33, 34, 35, 36, 37, 38, 39, 40, 41, 42, 43, 44, 45, 46, 47, 48, 49, 50, 51, 52, 53, 54, 55, 56, 57, 58, 59, 60, 61, 62, 63, 64, 65, 66, 67, 68, 69, 70, 71, 72, 73, 74, 75, 76, 77, 78] (by decide +kernel) rfl) 8 (ci := 1) (q := (RX1, TX1, 4)) rfl rfl) rfl rfl hl.1 rfl (lv_room (Nat.le_of_ble_eq_true rfl)) dX5_execute_28 ⟨Nat.le_of_ble_eq_true rfl, Nat.le_of_ble_eq_true rfl⟩) hS hP hD [1, 2, 3, 4, 5, 6, 7, 8] rfl rfl rfl rfl (fun H locs hP hD hS => ?_)
    refine lv_aload_n hx hb dX5_execute_31 rfl (lv_at hl 0 rfl) ?_
    obtain ⟨q9, u10, u11, u12, u13, u14, u15, h8, hF⟩ := bd7_at hF
    refine ufulli (ws' := ((W5x cI aC aS aL aW aB aF aZ aK aM aO aT aY u10 wm wW u11 u12 u13 u14 u15 ol oS) ++ (HB cI cZ cS aY aV aU aR u5 kf u6 u7 kQ kP))) (va_runV (As := []) (rest := []) S (K5_runOrders l D cI cZ cS cJ aC aS aL aW aB aF aZ aK aM aO aT aY aV aU aR kQ sr wm wW bh bF bZ bK bM ol oS u5 kf u6 u7 kP q9 u10 u11 u12 u13 u14 u15 h8) (cwV 0 hts (gd_V wd_546 wd_548 wd_14 wd_22 wd_549) rfl rfl rfl hd5_runOrders ⟨Nat.le_of_ble_eq_true rfl, Nat.le_of_ble_eq_true rfl⟩) (uPreV hK hP hD (ci := 5) (q := (RX5, TX5, 3)) rfl rfl) rfl rfl hl.1 rfl (lv_room (Nat.le_of_ble_eq_true rfl)) dX5_execute_32 ⟨(Nat.le_of_ble_eq_true rfl), (Nat.le_of_ble_eq_true rfl)⟩) hS hP hD rfl (fun H locs hP hD hS => ?_)
    refine lv_istore_n (lv' := [(1, .int q9), (0, .ref aC)]) hx hb dX5_execute_35 rfl hl (by decide) rfl (fun ls hl => ?_)
    refine lv_aload_n hx hb dX5_execute_36 rfl (lv_at hl 1 rfl) ?_
    refine va_get (D := D) (ci := 5) (v := .ref aO) (C := RX5) (T := TX5) (N := 3) hx hb hts i_X5 hown hK.1 hP 0 rfl rfl 2 (by decide) (hts _ wd_141) (fun _ h9 => h9) rfl dX5_execute_37 ?_
    obtain ⟨q17, u18, h16, hF⟩ := bd2_at hF
    refine ucalli (ws' := ((W5x cI aC aS aL aW aB aF aZ aK aM aO aT aY u10 wm wW u11 u12 u13 u14 u15 u18 oS) ++ (HB cI cZ cS aY aV aU aR u5 kf u6 u7 kQ kP))) (va_runV (As := []) (rest := []) S (K3_clear l D cI cZ cS cJ aO aT ol oS q17 u18 h16) (cwV 0 hts (gd_V wd_568 wd_569 wd_570 wd_27 wd_571) rfl rfl rfl hd3_clear ⟨Nat.le_of_ble_eq_true rfl, Nat.le_of_ble_eq_true rfl⟩) (uPreV hK (hP.sub (ws' := (W3 cI aO aT ol oS)) [9, 10] rfl) (hD.sub (ws' := (W3 cI aO aT ol oS)) [9, 10] (by decide) rfl) (ci := 3) (q := (RX3, TX3, 2)) rfl rfl) rfl rfl hl.1 rfl (lv_room (Nat.le_of_ble_eq_true rfl)) dX5_execute_40 ⟨(Nat.le_of_ble_eq_true rfl), (Nat.le_of_ble_eq_true rfl)⟩) hS hP hD [9, 10] rfl rfl rfl rfl (fun H locs hP hD hS => ?_)
    refine lv_pop hx hb dX5_execute_43 rfl ?_
    refine lv_iload_n hx hb dX5_execute_44 rfl (lv_at hl 0 rfl) ?_
    cases hF
    exact xreti (Nat.le_of_ble_eq_true rfl) (Nat.le_of_ble_eq_true rfl) hx hb hr hlocks hP hS dX5_execute_45
  · have hF := ite_t c3 hF
    cases hF
    exact xthrow (k := 2) (text := "the buffer is not a complete order text") (names := ["java/lang/RuntimeException", "java/lang/Exception"]) rfl (by decide) hx hb hfl hown (by decide +kernel) (by decide +kernel) (hts _ wd_244) (hts _ wd_32) (hX.1 (131, "the buffer is not a complete order text") (by decide +kernel)) at38g at38b hts hX ot38 hZ hS (hl.1.trans hml.symm) dX5_execute_10 dX5_execute_13 dX5_execute_14 dX5_execute_16 dX5_execute_19 hout (Nat.le_of_ble_eq_true rfl) (Nat.le_of_ble_eq_true rfl) (Nat.le_of_ble_eq_true rfl) (Nat.le_of_ble_eq_true rfl) hlocks hP (Nat.le_of_ble_eq_true rfl) (Nat.le_of_ble_eq_true rfl)
abbrev rm5_undo : Room := { frames := 6, cells := 1, slots := 6, locals := 107 }
theorem hd5_undo : yX5_undo.cls = RX5 ∧ yX5_undo.cls ≠ "java/lang/invoke/MethodHandle" ∧ yX5_undo.cls ≠ "java/lang/invoke/VarHandle" ∧ (parseMethodDescriptor yX5_undo.desc).map (fun d => d.parameters.length) = some 0 := by decide +kernel
set_option maxHeartbeats 4000000 in
set_option maxRecDepth 100000 in
theorem K5_undo (l : Launch) (hfl : l.stackTraces = false) (D : va_G) (cI cZ cS cJ : ClassId) (aC aS aL aW aB aF aZ aK aM aO aT aY aV aU aR : Nat) (kQ : Nat → SA) (sr : Int32) (wm : Int32) (wW : Nat → Int32) (bh : Int32) (bF : Nat → Int32) (bZ : Nat → Int32) (bK : Nat → Int32) (bM : Nat → Int32) (ol : Int32) (oS : Nat → Int32) (kd : Int32) (kf : Nat → Int32) (kA : Nat → SA) (kV : Nat → SV) (kP : Nat → SV) (k : Nat) (r : Int32) (z_sr : Int32) (z_wm : Int32) (z_wW : Nat → Int32) (z_bh : Int32) (z_bF : Nat → Int32) (z_bZ : Nat → Int32) (z_bK : Nat → Int32) (z_bM : Nat → Int32) (z_kd : Int32) (hF : f5_undo sr wm wW bh bF bZ bK bM kd kV = some (k, r, z_sr, z_wm, z_wW, z_bh, z_bF, z_bZ, z_bK, z_bM, z_kd)) : vx_Met l yX5_undo wsX5_undo rm5_undo (xP D (gT cI cZ cS cJ) ((W5x cI aC aS aL aW aB aF aZ aK aM aO aT aY sr wm wW bh bF bZ bK bM ol oS) ++ (HB cI cZ cS aY aV aU aR kd kf kA kV kQ kP)) [.ref aC]) (xQ D k (some (.int r)) (uA ((W5x cI aC aS aL aW aB aF aZ aK aM aO aT aY sr wm wW bh bF bZ bK bM ol oS) ++ (HB cI cZ cS aY aV aU aR kd kf kA kV kQ kP))) ((W5x cI aC aS aL aW aB aF aZ aK aM aO aT aY z_sr z_wm z_wW z_bh z_bF z_bZ z_bK z_bM ol oS) ++ (HB cI cZ cS aY aV aU aR z_kd kf kA kV kQ kP))) (xX D k (uA ((W5x cI aC aS aL aW aB aF aZ aK aM aO aT aY sr wm wW bh bF bZ bK bM ol oS) ++ (HB cI cZ cS aY aV aU aR kd kf kA kV kQ kP))) ((W5x cI aC aS aL aW aB aF aZ aK aM aO aT aY z_sr z_wm z_wW z_bh z_bF z_bZ z_bK z_bM ol oS) ++ (HB cI cZ cS aY aV aU aR z_kd kf kA kV kQ kP))) 1 6 (uA ((W5x cI aC aS aL aW aB aF aZ aK aM aO aT aY sr wm wW bh bF bZ bK bM ol oS) ++ (HB cI cZ cS aY aV aU aR kd kf kA kV kQ kP))) := by
  refine vx_ofW (cc := cX5_undo) (maxL := 1) (ret := (some .int)) (by decide) rfl ?_
  intro p e s m args below meth c s₁ B hml hout hv
  obtain ⟨ha, hK, hP, hD0, hX, hZ⟩ := hv
  have hx := B.exec
  have hb := B.bytes
  have hr := B.returns
  have hlocks := B.notSynchronized
  have hts : ∀ w ∈ lw_all, w.before args s = true := fun w h => atoms_spec (ws := wsX5_undo) B.pre w (List.mem_cons_of_mem _ h)
  have hown : s.vm.findClass RX5 = some m.cls := findClass_of_methodNamed B.named
  have S : CallFix p m c cX5_undo 1 s args lw_all RX5 := ⟨hx, hb, hml, hown, hts⟩
  have hD := hD0.own
  generalize uA ((W5x cI aC aS aL aW aB aF aZ aK aM aO aT aY sr wm wW bh bF bZ bK bM ol oS) ++ (HB cI cZ cS aY aV aU aR kd kf kA kV kQ kP)) = A0 at hD hZ ⊢
  have hS : va_S A0 s.heap s.heap [] := va_S.rf
  have hl := lv_entry ([.ref aC] : List Value) (n := 1) (Nat.le_of_ble_eq_true rfl)
  refine W.eq (g2 := F0 m 0 ((lg_sl ([.ref aC] : List Value) ++ List.replicate (1 - (lg_sl ([.ref aC] : List Value)).length) Slot.unset).toArray) []) (by rw [ha]; exact lg_entry_eq _ _ _) ?_
  generalize (lg_sl ([.ref aC] : List Value) ++ List.replicate (1 - (lg_sl ([.ref aC] : List Value)).length) Slot.unset).toArray = ls at hl ⊢
  have hl : lv_has ls 1 [(0, .ref aC)] := hl
  rw [f5_undo] at hF
  show xW p l e wsX5_undo rm5_undo s m args below meth c D k (some (.int r)) A0 ((W5x cI aC aS aL aW aB aF aZ aK aM aO aT aY z_sr z_wm z_wW z_bh z_bF z_bZ z_bK z_bM ol oS) ++ (HB cI cZ cS aY aV aU aR z_kd kf kA kV kQ kP)) 1 6 s.heap [] 0 0 (F0 m 0 ls [])
  refine lv_aload_n hx hb dX5_undo_0 rfl (lv_at hl 0 rfl) ?_
  refine va_get (D := D) (ci := 5) (v := .ref aY) (C := RX5) (T := TX5) (N := 3) hx hb hts i_X5 hown hK.1 hP 0 rfl rfl 1 (by decide) (hts _ wd_140) (fun _ h9 => h9) rfl dX5_undo_1 ?_
  refine va_get (D := D) (ci := 1) (v := .int kd) (C := RX1) (T := TX1) (N := 4) hx hb hts i_X1 hown hK.1 hP 11 rfl rfl 3 (by decide) (hts _ wd_114) (fun _ h9 => h9) rfl dX5_undo_4 ?_
  refine lv_iconst hx hb dX5_undo_7 kc_iconst_1 ?_
  refine lv_icmp_ge (tgt := 21) hx hb dX5_undo_8 (by decide) (fun c1 => ?_) (fun c1 => ?_)
  · have hF := ite_t c1 hF
    refine lv_aload_n hx hb dX5_undo_21 rfl (lv_at hl 0 rfl) ?_
    refine va_get (D := D) (ci := 5) (v := .ref aY) (C := RX5) (T := TX5) (N := 3) hx hb hts i_X5 hown hK.1 hP 0 rfl rfl 1 (by decide) (hts _ wd_140) (fun _ h9 => h9) rfl dX5_undo_22 ?_
    refine lv_aload_n hx hb dX5_undo_25 rfl (lv_at hl 0 rfl) ?_
    refine va_get (D := D) (ci := 5) (v := .ref aS) (C := RX5) (T := TX5) (N := 3) hx hb hts i_X5 hown hK.1 hP 0 rfl rfl 0 (by decide) (hts _ wd_139) (fun _ h9 => h9) rfl dX5_undo_26 ?_
    obtain ⟨u3, u4, u5, u6, u7, u8, u9, u10, u11, h2, hF⟩ := bd9_at hF
    refine hcallv (wc := (W4 cI aS aL aW aB aF aZ aK aM sr wm wW bh bF bZ bK bM)) (wc' := (W4 cI aS aL aW aB aF aZ aK aM u3 u4 u5 u6 u7 u8 u9 u10)) (Hb := (HB cI cZ cS aY aV aU aR kd kf kA kV kQ kP)) (Hb' := (HB cI cZ cS aY aV aU aR u11 kf kA kV kQ kP)) (X := (W5x cI aC aS aL aW aB aF aZ aK aM aO aT aY sr wm wW bh bF bZ bK bM ol oS)) (X' := (W5x cI aC aS aL aW aB aF aZ aK aM aO aT aY u3 u4 u5 u6 u7 u8 u9 u10 ol oS)) (va_runV (As := [.ref aS]) (rest := []) S (K1_restoreLast l D cI cZ cS cJ aS aL aW aB aF aZ aK aM sr wm wW bh bF bZ bK bM aY aV aU aR kd kf kA kQ kV kP  u3 u4 u5 u6 u7 u8 u9 u10 u11 h2) (cwV 1 hts (gd_V wd_380 wd_381 wd_382 wd_26 wd_383) rfl rfl rfl hd1_restoreLast ⟨Nat.le_of_ble_eq_true rfl, Nat.le_of_ble_eq_true rfl⟩) (uPreVq hK (hP.sub (ws' := (W4 cI aS aL aW aB aF aZ aK aM sr wm wW bh bF bZ bK bM) ++ (HB cI cZ cS aY aV aU aR kd kf kA kV kQ kP)) [1, 2, 3, 4, 5, 6, 7, 8, 11, 12, 13, 14, 15, 16, 17, 18, 19, 20, 21, 22, 23, 24, 25, 26, 27, 28, 29, 30, 31, 32, 33, 34, 35, 36, 37, 38, 39, 40, 41, 42, 43, 44, 45, 46, 47, 48, 49, 50, 51, 52, 53, 54, 55, 56, 57, 58, 59, 60, 61, 62, 63, 64, 65, 66, 67, 68, 69, 70, 71, 72, 73, 74, 75, 76, 77, 78] rfl) (hD.sub (ws' := (W4 cI aS aL aW aB aF aZ aK aM sr wm wW bh bF bZ bK bM) ++ (HB cI cZ cS aY aV aU aR kd kf kA kV kQ kP)) [1, 2, 3, 4, 5, 6, 7, 8, 11, 12, 13, 14, 15, 16, 17, 18, 19, 20, 21, 22, 23, 24, 25, 26, 27, 28, 29, 30, 31, 32, 33, 34, 35, 36, 37, 38, 39, 40, 41, 42, 43, 44, 45, 46, 47, 48, 49, 50, 51, 52, 53, 54, 55, 56, 57, 58, 59, 60, 61, 62, 63, 64, 65, 66, 67, 68, 69, 70, 71, 72, 73, 74, 75, 76, 77, 78] (by decide +kernel) rfl) 8 (ci := 1) (q := (RX1, TX1, 4)) rfl rfl) rfl rfl hl.1 rfl (lv_room (Nat.le_of_ble_eq_true rfl)) dX5_undo_29 ⟨Nat.le_of_ble_eq_true rfl, Nat.le_of_ble_eq_true rfl⟩) hS hP hD [1, 2, 3, 4, 5, 6, 7, 8] rfl rfl rfl rfl (fun H locs hP hD hS => ?_)
    refine lv_aload_n hx hb dX5_undo_32 rfl (lv_at hl 0 rfl) ?_
    refine va_get (D := D) (ci := 5) (v := .ref aY) (C := RX5) (T := TX5) (N := 3) hx hb hts i_X5 hown hK.1 hP 0 rfl rfl 1 (by decide) (hts _ wd_140) (fun _ h9 => h9) rfl dX5_undo_33 ?_
    refine va_get (D := D) (ci := 1) (v := .int u11) (C := RX1) (T := TX1) (N := 4) hx hb hts i_X1 hown hK.1 hP 11 rfl rfl 3 (by decide) (hts _ wd_114) (fun _ h9 => h9) rfl dX5_undo_36 ?_
    cases hF
    exact xreti (Nat.le_of_ble_eq_true rfl) (Nat.le_of_ble_eq_true rfl) hx hb hr hlocks hP hS dX5_undo_39
  · have hF := ite_f c1 hF
    cases hF
    exact xthrow (k := 3) (text := "no state is saved") (names := ["java/lang/RuntimeException", "java/lang/Exception"]) rfl (by decide) hx hb hfl hown (by decide +kernel) (by decide +kernel) (hts _ wd_260) (hts _ wd_33) (hX.1 (139, "no state is saved") (by decide +kernel)) at118g at118b hts hX ot118 hZ hS (hl.1.trans hml.symm) dX5_undo_11 dX5_undo_14 dX5_undo_15 dX5_undo_17 dX5_undo_20 hout (Nat.le_of_ble_eq_true rfl) (Nat.le_of_ble_eq_true rfl) (Nat.le_of_ble_eq_true rfl) (Nat.le_of_ble_eq_true rfl) hlocks hP (Nat.le_of_ble_eq_true rfl) (Nat.le_of_ble_eq_true rfl)
abbrev rm5_keep : Room := { frames := 7, cells := 1, slots := 6, locals := 107 }
theorem hd5_keep : yX5_keep.cls = RX5 ∧ yX5_keep.cls ≠ "java/lang/invoke/MethodHandle" ∧ yX5_keep.cls ≠ "java/lang/invoke/VarHandle" ∧ (parseMethodDescriptor yX5_keep.desc).map (fun d => d.parameters.length) = some 1 := by decide +kernel
set_option maxHeartbeats 4000000 in
set_option maxRecDepth 100000 in
theorem K5_keep (l : Launch) (hfl : l.stackTraces = false) (D : va_G) (cI cZ cS cJ : ClassId) (aC aS aL aW aB aF aZ aK aM aO aT aY aV aU aR : Nat) (kQ : Nat → SA) (sr : Int32) (wm : Int32) (wW : Nat → Int32) (bh : Int32) (bF : Nat → Int32) (bZ : Nat → Int32) (bK : Nat → Int32) (bM : Nat → Int32) (ol : Int32) (oS : Nat → Int32) (kd : Int32) (kf : Nat → Int32) (kA : Nat → SA) (kV : Nat → SV) (kP : Nat → SV) (x1 : Int32) (k : Nat) (r : Int32) (z_kf : Nat → Int32) (z_kP : Nat → SV) (hF : f5_keep sr wm wW bh bF bZ bK bM kf kP x1 = some (k, r, z_kf, z_kP)) : vx_Met l yX5_keep wsX5_keep rm5_keep (xP D (gT cI cZ cS cJ) ((W5x cI aC aS aL aW aB aF aZ aK aM aO aT aY sr wm wW bh bF bZ bK bM ol oS) ++ (HB cI cZ cS aY aV aU aR kd kf kA kV kQ kP)) [.ref aC, .int x1]) (xQ D k (some (.int r)) (uA ((W5x cI aC aS aL aW aB aF aZ aK aM aO aT aY sr wm wW bh bF bZ bK bM ol oS) ++ (HB cI cZ cS aY aV aU aR kd kf kA kV kQ kP))) ((W5x cI aC aS aL aW aB aF aZ aK aM aO aT aY sr wm wW bh bF bZ bK bM ol oS) ++ (HB cI cZ cS aY aV aU aR kd z_kf kA kV kQ z_kP))) (xX D k (uA ((W5x cI aC aS aL aW aB aF aZ aK aM aO aT aY sr wm wW bh bF bZ bK bM ol oS) ++ (HB cI cZ cS aY aV aU aR kd kf kA kV kQ kP))) ((W5x cI aC aS aL aW aB aF aZ aK aM aO aT aY sr wm wW bh bF bZ bK bM ol oS) ++ (HB cI cZ cS aY aV aU aR kd z_kf kA kV kQ z_kP))) 1 6 (uA ((W5x cI aC aS aL aW aB aF aZ aK aM aO aT aY sr wm wW bh bF bZ bK bM ol oS) ++ (HB cI cZ cS aY aV aU aR kd kf kA kV kQ kP))) := by
  refine vx_ofW (cc := cX5_keep) (maxL := 2) (ret := (some .int)) (by decide) rfl ?_
  intro p e s m args below meth c s₁ B hml hout hv
  obtain ⟨ha, hK, hP, hD0, hX, hZ⟩ := hv
  have hx := B.exec
  have hb := B.bytes
  have hr := B.returns
  have hlocks := B.notSynchronized
  have hts : ∀ w ∈ lw_all, w.before args s = true := fun w h => atoms_spec (ws := wsX5_keep) B.pre w (List.mem_cons_of_mem _ h)
  have hown : s.vm.findClass RX5 = some m.cls := findClass_of_methodNamed B.named
  have S : CallFix p m c cX5_keep 2 s args lw_all RX5 := ⟨hx, hb, hml, hown, hts⟩
  have hD := hD0.own
  generalize uA ((W5x cI aC aS aL aW aB aF aZ aK aM aO aT aY sr wm wW bh bF bZ bK bM ol oS) ++ (HB cI cZ cS aY aV aU aR kd kf kA kV kQ kP)) = A0 at hD hZ ⊢
  have hS : va_S A0 s.heap s.heap [] := va_S.rf
  have hl := lv_entry ([.ref aC, .int x1] : List Value) (n := 2) (Nat.le_of_ble_eq_true rfl)
  refine W.eq (g2 := F0 m 0 ((lg_sl ([.ref aC, .int x1] : List Value) ++ List.replicate (2 - (lg_sl ([.ref aC, .int x1] : List Value)).length) Slot.unset).toArray) []) (by rw [ha]; exact lg_entry_eq _ _ _) ?_
  generalize (lg_sl ([.ref aC, .int x1] : List Value) ++ List.replicate (2 - (lg_sl ([.ref aC, .int x1] : List Value)).length) Slot.unset).toArray = ls at hl ⊢
  have hl : lv_has ls 2 [(0, .ref aC), (1, .int x1)] := hl
  rw [f5_keep] at hF
  show xW p l e wsX5_keep rm5_keep s m args below meth c D k (some (.int r)) A0 ((W5x cI aC aS aL aW aB aF aZ aK aM aO aT aY sr wm wW bh bF bZ bK bM ol oS) ++ (HB cI cZ cS aY aV aU aR kd z_kf kA kV kQ z_kP)) 1 6 s.heap [] 0 0 (F0 m 0 ls [])
  refine lv_iload_n hx hb dX5_keep_0 rfl (lv_at hl 1 rfl) ?_
  obtain ⟨k2, h1, hF⟩ := bd1_at hF
  refine xcall (ws' := ((W5x cI aC aS aL aW aB aF aZ aK aM aO aT aY sr wm wW bh bF bZ bK bM ol oS) ++ (HB cI cZ cS aY aV aU aR kd kf kA kV kQ kP))) (vx_runS (As := [.int x1]) (rest := []) S (K5_throwIfNoSlot l hfl D cI cZ cS cJ x1 k2 h1) (va_cwS 1 hts (gd_S wd_388 wd_389 wd_22 wd_390) rfl rfl rfl hdn5_throwIfNoSlot ⟨Nat.le_of_ble_eq_true rfl, Nat.le_of_ble_eq_true rfl⟩) (xPreS hK hX hZ hS hD [] (wc := ([] : va_W)) rfl (hP.sub (ws' := ([] : va_W)) [] rfl) (hD.sub (ws' := ([] : va_W)) [] (by decide) rfl)) rfl rfl hl.1 rfl (lv_room (Nat.le_of_ble_eq_true rfl)) dX5_keep_1 ⟨(Nat.le_of_ble_eq_true rfl), (Nat.le_of_ble_eq_true rfl)⟩) hS hP hD [] rfl rfl rfl rfl (fun ce q9 H locs hk hP hD hS hce hcv hcl => ?_) (fun H locs hk hP hD hS => ?_)
  · have hF := ite_f hk hF
    cases hF
    exact xout hk hout hlocks hce hcv hcl hP hS (Nat.le_of_ble_eq_true rfl) (Nat.le_of_ble_eq_true rfl)
  · have hF := ite_t hk hF
    refine lv_aload_n hx hb dX5_keep_4 rfl (lv_at hl 0 rfl) ?_
    refine va_get (D := D) (ci := 5) (v := .ref aY) (C := RX5) (T := TX5) (N := 3) hx hb hts i_X5 hown hK.1 hP 0 rfl rfl 1 (by decide) (hts _ wd_140) (fun _ h9 => h9) rfl dX5_keep_5 ?_
    refine lv_iload_n hx hb dX5_keep_8 rfl (lv_at hl 1 rfl) ?_
    refine lv_aload_n hx hb dX5_keep_9 rfl (lv_at hl 0 rfl) ?_
    refine va_get (D := D) (ci := 5) (v := .ref aS) (C := RX5) (T := TX5) (N := 3) hx hb hts i_X5 hown hK.1 hP 0 rfl rfl 0 (by decide) (hts _ wd_139) (fun _ h9 => h9) rfl dX5_keep_10 ?_
    obtain ⟨u4, u5, h3, hF⟩ := bd2_at hF
    refine hcallv (wc := (W4 cI aS aL aW aB aF aZ aK aM sr wm wW bh bF bZ bK bM)) (wc' := (W4 cI aS aL aW aB aF aZ aK aM sr wm wW bh bF bZ bK bM)) (Hb := (HB cI cZ cS aY aV aU aR kd kf kA kV kQ kP)) (Hb' := (HB cI cZ cS aY aV aU aR kd u4 kA kV kQ u5)) (X := (W5x cI aC aS aL aW aB aF aZ aK aM aO aT aY sr wm wW bh bF bZ bK bM ol oS)) (X' := (W5x cI aC aS aL aW aB aF aZ aK aM aO aT aY sr wm wW bh bF bZ bK bM ol oS)) (va_runV (As := [.int x1, .ref aS]) (rest := []) S (K1_putIntoSlot l D cI cZ cS cJ aS aL aW aB aF aZ aK aM sr wm wW bh bF bZ bK bM aY aV aU aR kd kf kA kQ kV kP x1 u4 u5 h3) (cwV 2 hts (gd_V wd_392 wd_393 wd_394 wd_26 wd_395) rfl rfl rfl hd1_putIntoSlot ⟨Nat.le_of_ble_eq_true rfl, Nat.le_of_ble_eq_true rfl⟩) (uPreVq hK (hP.sub (ws' := (W4 cI aS aL aW aB aF aZ aK aM sr wm wW bh bF bZ bK bM) ++ (HB cI cZ cS aY aV aU aR kd kf kA kV kQ kP)) [1, 2, 3, 4, 5, 6, 7, 8, 11, 12, 13, 14, 15, 16, 17, 18, 19, 20, 21, 22, 23, 24, 25, 26, 27, 28, 29, 30, 31, 32, 33, 34, 35, 36, 37, 38, 39, 40, 41, 42, 43, 44, 45, 46, 47, 48, 49, 50, 51, 52, 53, 54, 55, 56, 57, 58, 59, 60, 61, 62, 63, 64, 65, 66, 67, 68, 69, 70, 71, 72, 73, 74, 75, 76, 77, 78] rfl) (hD.sub (ws' := (W4 cI aS aL aW aB aF aZ aK aM sr wm wW bh bF bZ bK bM) ++ (HB cI cZ cS aY aV aU aR kd kf kA kV kQ kP)) [1, 2, 3, 4, 5, 6, 7, 8, 11, 12, 13, 14, 15, 16, 17, 18, 19, 20, 21, 22, 23, 24, 25, 26, 27, 28, 29, 30, 31, 32, 33, 34, 35, 36, 37, 38, 39, 40, 41, 42, 43, 44, 45, 46, 47, 48, 49, 50, 51, 52, 53, 54, 55, 56, 57, 58, 59, 60, 61, 62, 63, 64, 65, 66, 67, 68, 69, 70, 71, 72, 73, 74, 75, 76, 77, 78] (by decide +kernel) rfl) 8 (ci := 1) (q := (RX1, TX1, 4)) rfl rfl) rfl rfl hl.1 rfl (lv_room (Nat.le_of_ble_eq_true rfl)) dX5_keep_13 ⟨Nat.le_of_ble_eq_true rfl, Nat.le_of_ble_eq_true rfl⟩) hS hP hD [1, 2, 3, 4, 5, 6, 7, 8] rfl rfl rfl rfl (fun H locs hP hD hS => ?_)
    refine lv_aload_n hx hb dX5_keep_16 rfl (lv_at hl 0 rfl) ?_
    refine va_get (D := D) (ci := 5) (v := .ref aS) (C := RX5) (T := TX5) (N := 3) hx hb hts i_X5 hown hK.1 hP 0 rfl rfl 0 (by decide) (hts _ wd_139) (fun _ h9 => h9) rfl dX5_keep_17 ?_
    refine va_get (D := D) (ci := 4) (v := .ref aB) (C := RX4) (T := TX4) (N := 3) hx hb hts i_X4 hown hK.1 hP 1 rfl rfl 1 (by decide) (hts _ wd_91) (fun _ h9 => h9) rfl dX5_keep_20 ?_
    refine va_get (D := D) (ci := 0) (v := .int bh) (C := RX0) (T := TX0) (N := 5) hx hb hts i_X0 hown hK.1 hP 4 rfl rfl 4 (by decide) (hts _ wd_76) (fun _ h9 => h9) rfl dX5_keep_23 ?_
    cases hF
    exact xreti (Nat.le_of_ble_eq_true rfl) (Nat.le_of_ble_eq_true rfl) hx hb hr hlocks hP hS dX5_keep_26
abbrev rm5_goBack : Room := { frames := 7, cells := 2, slots := 12, locals := 107 }
theorem hd5_goBack : yX5_goBack.cls = RX5 ∧ yX5_goBack.cls ≠ "java/lang/invoke/MethodHandle" ∧ yX5_goBack.cls ≠ "java/lang/invoke/VarHandle" ∧ (parseMethodDescriptor yX5_goBack.desc).map (fun d => d.parameters.length) = some 1 := by decide +kernel
set_option maxHeartbeats 4000000 in
set_option maxRecDepth 100000 in
theorem K5_goBack (l : Launch) (hfl : l.stackTraces = false) (D : va_G) (cI cZ cS cJ : ClassId) (aC aS aL aW aB aF aZ aK aM aO aT aY aV aU aR : Nat) (kQ : Nat → SA) (sr : Int32) (wm : Int32) (wW : Nat → Int32) (bh : Int32) (bF : Nat → Int32) (bZ : Nat → Int32) (bK : Nat → Int32) (bM : Nat → Int32) (ol : Int32) (oS : Nat → Int32) (kd : Int32) (kf : Nat → Int32) (kA : Nat → SA) (kV : Nat → SV) (kP : Nat → SV) (x1 : Int32) (k : Nat) (r : Int32) (z_sr : Int32) (z_wm : Int32) (z_wW : Nat → Int32) (z_bh : Int32) (z_bF : Nat → Int32) (z_bZ : Nat → Int32) (z_bK : Nat → Int32) (z_bM : Nat → Int32) (z_kd : Int32) (z_kA : Nat → SA) (z_kV : Nat → SV) (hF : f5_goBack sr wm wW bh bF bZ bK bM kd kf kA kV kP x1 = some (k, r, z_sr, z_wm, z_wW, z_bh, z_bF, z_bZ, z_bK, z_bM, z_kd, z_kA, z_kV)) : vx_Met l yX5_goBack wsX5_goBack rm5_goBack (xP D (gT cI cZ cS cJ) ((W5x cI aC aS aL aW aB aF aZ aK aM aO aT aY sr wm wW bh bF bZ bK bM ol oS) ++ (HB cI cZ cS aY aV aU aR kd kf kA kV kQ kP)) [.ref aC, .int x1]) (xQ D k (some (.int r)) (uA ((W5x cI aC aS aL aW aB aF aZ aK aM aO aT aY sr wm wW bh bF bZ bK bM ol oS) ++ (HB cI cZ cS aY aV aU aR kd kf kA kV kQ kP))) ((W5x cI aC aS aL aW aB aF aZ aK aM aO aT aY z_sr z_wm z_wW z_bh z_bF z_bZ z_bK z_bM ol oS) ++ (HB cI cZ cS aY aV aU aR z_kd kf z_kA z_kV kQ kP))) (xX D k (uA ((W5x cI aC aS aL aW aB aF aZ aK aM aO aT aY sr wm wW bh bF bZ bK bM ol oS) ++ (HB cI cZ cS aY aV aU aR kd kf kA kV kQ kP))) ((W5x cI aC aS aL aW aB aF aZ aK aM aO aT aY z_sr z_wm z_wW z_bh z_bF z_bZ z_bK z_bM ol oS) ++ (HB cI cZ cS aY aV aU aR z_kd kf z_kA z_kV kQ kP))) 2 12 (uA ((W5x cI aC aS aL aW aB aF aZ aK aM aO aT aY sr wm wW bh bF bZ bK bM ol oS) ++ (HB cI cZ cS aY aV aU aR kd kf kA kV kQ kP))) := by
  refine vx_ofW (cc := cX5_goBack) (maxL := 2) (ret := (some .int)) (by decide) rfl ?_
  intro p e s m args below meth c s₁ B hml hout hv
  obtain ⟨ha, hK, hP, hD0, hX, hZ⟩ := hv
  have hx := B.exec
  have hb := B.bytes
  have hr := B.returns
  have hlocks := B.notSynchronized
  have hts : ∀ w ∈ lw_all, w.before args s = true := fun w h => atoms_spec (ws := wsX5_goBack) B.pre w (List.mem_cons_of_mem _ h)
  have hown : s.vm.findClass RX5 = some m.cls := findClass_of_methodNamed B.named
  have S : CallFix p m c cX5_goBack 2 s args lw_all RX5 := ⟨hx, hb, hml, hown, hts⟩
  have hD := hD0.own
  generalize uA ((W5x cI aC aS aL aW aB aF aZ aK aM aO aT aY sr wm wW bh bF bZ bK bM ol oS) ++ (HB cI cZ cS aY aV aU aR kd kf kA kV kQ kP)) = A0 at hD hZ ⊢
  have hS : va_S A0 s.heap s.heap [] := va_S.rf
  have hl := lv_entry ([.ref aC, .int x1] : List Value) (n := 2) (Nat.le_of_ble_eq_true rfl)
  refine W.eq (g2 := F0 m 0 ((lg_sl ([.ref aC, .int x1] : List Value) ++ List.replicate (2 - (lg_sl ([.ref aC, .int x1] : List Value)).length) Slot.unset).toArray) []) (by rw [ha]; exact lg_entry_eq _ _ _) ?_
  generalize (lg_sl ([.ref aC, .int x1] : List Value) ++ List.replicate (2 - (lg_sl ([.ref aC, .int x1] : List Value)).length) Slot.unset).toArray = ls at hl ⊢
  have hl : lv_has ls 2 [(0, .ref aC), (1, .int x1)] := hl
  rw [f5_goBack] at hF
  show xW p l e wsX5_goBack rm5_goBack s m args below meth c D k (some (.int r)) A0 ((W5x cI aC aS aL aW aB aF aZ aK aM aO aT aY z_sr z_wm z_wW z_bh z_bF z_bZ z_bK z_bM ol oS) ++ (HB cI cZ cS aY aV aU aR z_kd kf z_kA z_kV kQ kP)) 2 12 s.heap [] 0 0 (F0 m 0 ls [])
  refine lv_iload_n hx hb dX5_goBack_0 rfl (lv_at hl 1 rfl) ?_
  obtain ⟨k2, h1, hF⟩ := bd1_at hF
  refine xcall (ws' := ((W5x cI aC aS aL aW aB aF aZ aK aM aO aT aY sr wm wW bh bF bZ bK bM ol oS) ++ (HB cI cZ cS aY aV aU aR kd kf kA kV kQ kP))) (vx_runS (As := [.int x1]) (rest := []) S (K5_throwIfNoSlot l hfl D cI cZ cS cJ x1 k2 h1) (va_cwS 1 hts (gd_S wd_388 wd_389 wd_22 wd_390) rfl rfl rfl hdn5_throwIfNoSlot ⟨Nat.le_of_ble_eq_true rfl, Nat.le_of_ble_eq_true rfl⟩) (xPreS hK hX hZ hS hD [] (wc := ([] : va_W)) rfl (hP.sub (ws' := ([] : va_W)) [] rfl) (hD.sub (ws' := ([] : va_W)) [] (by decide) rfl)) rfl rfl hl.1 rfl (lv_room (Nat.le_of_ble_eq_true rfl)) dX5_goBack_1 ⟨(Nat.le_of_ble_eq_true rfl), (Nat.le_of_ble_eq_true rfl)⟩) hS hP hD [] rfl rfl rfl rfl (fun ce q9 H locs hk hP hD hS hce hcv hcl => ?_) (fun H locs hk hP hD hS => ?_)
  · have hF := ite_f hk hF
    cases hF
    exact xout hk hout hlocks hce hcv hcl hP hS (Nat.le_of_ble_eq_true rfl) (Nat.le_of_ble_eq_true rfl)
  · have hF := ite_t hk hF
    refine lv_aload_n hx hb dX5_goBack_4 rfl (lv_at hl 0 rfl) ?_
    refine va_get (D := D) (ci := 5) (v := .ref aY) (C := RX5) (T := TX5) (N := 3) hx hb hts i_X5 hown hK.1 hP 0 rfl rfl 1 (by decide) (hts _ wd_140) (fun _ h9 => h9) rfl dX5_goBack_5 ?_
    refine lv_iload_n hx hb dX5_goBack_8 rfl (lv_at hl 1 rfl) ?_
    obtain ⟨q4, h3, hF⟩ := bd1_at hF
    refine rcall (va_runV (As := [.int x1]) (rest := []) S (K1_isSlotFilled l D cI cZ cS cJ aY aR aV aU kd kf x1 q4 h3) (cwV 1 hts (gd_V wd_400 wd_401 wd_402 wd_26 wd_403) rfl rfl rfl hd1_isSlotFilled ⟨Nat.le_of_ble_eq_true rfl, Nat.le_of_ble_eq_true rfl⟩) (rPreV hK (hP.sub (ws' := (WY cI cZ aY aR aV aU kd kf)) [11, 14] rfl) (ci := 1) (q := (RX1, TX1, 4)) rfl rfl) rfl rfl hl.1 rfl (lv_room (Nat.le_of_ble_eq_true rfl)) dX5_goBack_9 ⟨(Nat.le_of_ble_eq_true rfl), (Nat.le_of_ble_eq_true rfl)⟩) ?_
    refine lv_if_ne (tgt := 25) hx hb dX5_goBack_12 (by decide) (fun c5 => ?_) (fun c5 => ?_)
    · have hF := ite_f c5 hF
      refine lv_aload_n hx hb dX5_goBack_25 rfl (lv_at hl 0 rfl) ?_
      refine va_get (D := D) (ci := 5) (v := .ref aY) (C := RX5) (T := TX5) (N := 3) hx hb hts i_X5 hown hK.1 hP 0 rfl rfl 1 (by decide) (hts _ wd_140) (fun _ h9 => h9) rfl dX5_goBack_26 ?_
      refine lv_aload_n hx hb dX5_goBack_29 rfl (lv_at hl 0 rfl) ?_
      refine va_get (D := D) (ci := 5) (v := .ref aS) (C := RX5) (T := TX5) (N := 3) hx hb hts i_X5 hown hK.1 hP 0 rfl rfl 0 (by decide) (hts _ wd_139) (fun _ h9 => h9) rfl dX5_goBack_30 ?_
      obtain ⟨u7, u8, u9, h6, hF⟩ := bd3_at hF
      refine hcallv (wc := (W4 cI aS aL aW aB aF aZ aK aM sr wm wW bh bF bZ bK bM)) (wc' := (W4 cI aS aL aW aB aF aZ aK aM sr wm wW bh bF bZ bK bM)) (Hb := (HB cI cZ cS aY aV aU aR kd kf kA kV kQ kP)) (Hb' := (HB cI cZ cS aY aV aU aR u7 kf u8 u9 kQ kP)) (X := (W5x cI aC aS aL aW aB aF aZ aK aM aO aT aY sr wm wW bh bF bZ bK bM ol oS)) (X' := (W5x cI aC aS aL aW aB aF aZ aK aM aO aT aY sr wm wW bh bF bZ bK bM ol oS)) (va_runV (As := [.ref aS]) (rest := []) S (K1_save l D cI cZ cS cJ aS aL aW aB aF aZ aK aM sr wm wW bh bF bZ bK bM aY aV aU aR kd kf kA kQ kV kP  u7 u8 u9 h6) (cwV 1 hts (gd_V wd_276 wd_277 wd_278 wd_26 wd_279) rfl rfl rfl hd1_save ⟨Nat.le_of_ble_eq_true rfl, Nat.le_of_ble_eq_true rfl⟩) (uPreVq hK (hP.sub (ws' := (W4 cI aS aL aW aB aF aZ aK aM sr wm wW bh bF bZ bK bM) ++ (HB cI cZ cS aY aV aU aR kd kf kA kV kQ kP)) [1, 2, 3, 4, 5, 6, 7, 8, 11, 12, 13, 14, 15, 16, 17, 18, 19, 20, 21, 22, 23, 24, 25, 26, 27, 28, 29, 30, 31, 32, 33, 34, 35, 36, 37, 38, 39, 40, 41, 42, 43, 44, 45, 46, 47, 48, 49, 50, 51, 52, 53, 54, 55, 56, 57, 58, 59, 60, 61, 62, 63, 64, 65, 66, 67, 68, 69, 70, 71, 72, 73, 74, 75, 76, 77, 78] rfl) (hD.sub (ws' := (W4 cI aS aL aW aB aF aZ aK aM sr wm wW bh bF bZ bK bM) ++ (HB cI cZ cS aY aV aU aR kd kf kA kV kQ kP)) [1, 2, 3, 4, 5, 6, 7, 8, 11, 12, 13, 14, 15, 16, 17, 18, 19, 20, 21, 22, 23, 24, 25, 26, 27, 28, 29, 30, 31, 32, 33, 34, 35, 36, 37, 38, 39, 40, 41, 42, 43, 44, 45, 46, 47, 48, 49, 50, 51, 52, 53, 54, 55, 56, 57, 58, 59, 60, 61, 62, 63, 64, 65, 66, 67, 68, 69, 70, 71, 72, 73, 74, 75, 76, 77, 78] (by decide +kernel) rfl) 8 (ci := 1) (q := (RX1, TX1, 4)) rfl rfl) rfl rfl hl.1 rfl (lv_room (Nat.le_of_ble_eq_true rfl)) dX5_goBack_33 ⟨Nat.le_of_ble_eq_true rfl, Nat.le_of_ble_eq_true rfl⟩) hS hP hD [1, 2, 3, 4, 5, 6, 7, 8] rfl rfl rfl rfl (fun H locs hP hD hS => ?_)
      refine lv_aload_n hx hb dX5_goBack_36 rfl (lv_at hl 0 rfl) ?_
      refine va_get (D := D) (ci := 5) (v := .ref aY) (C := RX5) (T := TX5) (N := 3) hx hb hts i_X5 hown hK.1 hP 0 rfl rfl 1 (by decide) (hts _ wd_140) (fun _ h9 => h9) rfl dX5_goBack_37 ?_
      refine lv_iload_n hx hb dX5_goBack_40 rfl (lv_at hl 1 rfl) ?_
      refine lv_aload_n hx hb dX5_goBack_41 rfl (lv_at hl 0 rfl) ?_
      refine va_get (D := D) (ci := 5) (v := .ref aS) (C := RX5) (T := TX5) (N := 3) hx hb hts i_X5 hown hK.1 hP 0 rfl rfl 0 (by decide) (hts _ wd_139) (fun _ h9 => h9) rfl dX5_goBack_42 ?_
      obtain ⟨u11, u12, u13, u14, u15, u16, u17, u18, h10, hF⟩ := bd8_at hF
      refine hcallv (wc := (W4 cI aS aL aW aB aF aZ aK aM sr wm wW bh bF bZ bK bM)) (wc' := (W4 cI aS aL aW aB aF aZ aK aM u11 u12 u13 u14 u15 u16 u17 u18)) (Hb := (HB cI cZ cS aY aV aU aR u7 kf u8 u9 kQ kP)) (Hb' := (HB cI cZ cS aY aV aU aR u7 kf u8 u9 kQ kP)) (X := (W5x cI aC aS aL aW aB aF aZ aK aM aO aT aY sr wm wW bh bF bZ bK bM ol oS)) (X' := (W5x cI aC aS aL aW aB aF aZ aK aM aO aT aY u11 u12 u13 u14 u15 u16 u17 u18 ol oS)) (va_runV (As := [.int x1, .ref aS]) (rest := []) S (K1_restoreSlot l D cI cZ cS cJ aS aL aW aB aF aZ aK aM sr wm wW bh bF bZ bK bM aY aV aU aR u7 kf u8 kQ u9 kP x1 u11 u12 u13 u14 u15 u16 u17 u18 h10) (cwV 2 hts (gd_V wd_405 wd_406 wd_407 wd_26 wd_408) rfl rfl rfl hd1_restoreSlot ⟨Nat.le_of_ble_eq_true rfl, Nat.le_of_ble_eq_true rfl⟩) (uPreVq hK (hP.sub (ws' := (W4 cI aS aL aW aB aF aZ aK aM sr wm wW bh bF bZ bK bM) ++ (HB cI cZ cS aY aV aU aR u7 kf u8 u9 kQ kP)) [1, 2, 3, 4, 5, 6, 7, 8, 11, 12, 13, 14, 15, 16, 17, 18, 19, 20, 21, 22, 23, 24, 25, 26, 27, 28, 29, 30, 31, 32, 33, 34, 35, 36, 37, 38, 39, 40, 41, 42, 43, 44, 45, 46, 47, 48, 49, 50, 51, 52, 53, 54, 55, 56, 57, 58, 59, 60, 61, 62, 63, 64, 65, 66, 67, 68, 69, 70, 71, 72, 73, 74, 75, 76, 77, 78] rfl) (hD.sub (ws' := (W4 cI aS aL aW aB aF aZ aK aM sr wm wW bh bF bZ bK bM) ++ (HB cI cZ cS aY aV aU aR u7 kf u8 u9 kQ kP)) [1, 2, 3, 4, 5, 6, 7, 8, 11, 12, 13, 14, 15, 16, 17, 18, 19, 20, 21, 22, 23, 24, 25, 26, 27, 28, 29, 30, 31, 32, 33, 34, 35, 36, 37, 38, 39, 40, 41, 42, 43, 44, 45, 46, 47, 48, 49, 50, 51, 52, 53, 54, 55, 56, 57, 58, 59, 60, 61, 62, 63, 64, 65, 66, 67, 68, 69, 70, 71, 72, 73, 74, 75, 76, 77, 78] (by decide +kernel) rfl) 8 (ci := 1) (q := (RX1, TX1, 4)) rfl rfl) rfl rfl hl.1 rfl (lv_room (Nat.le_of_ble_eq_true rfl)) dX5_goBack_45 ⟨Nat.le_of_ble_eq_true rfl, Nat.le_of_ble_eq_true rfl⟩) hS hP hD [1, 2, 3, 4, 5, 6, 7, 8] rfl rfl rfl rfl (fun H locs hP hD hS => ?_)
      refine lv_aload_n hx hb dX5_goBack_48 rfl (lv_at hl 0 rfl) ?_
      refine va_get (D := D) (ci := 5) (v := .ref aS) (C := RX5) (T := TX5) (N := 3) hx hb hts i_X5 hown hK.1 hP 0 rfl rfl 0 (by decide) (hts _ wd_139) (fun _ h9 => h9) rfl dX5_goBack_49 ?_
      refine va_get (D := D) (ci := 4) (v := .ref aB) (C := RX4) (T := TX4) (N := 3) hx hb hts i_X4 hown hK.1 hP 1 rfl rfl 1 (by decide) (hts _ wd_91) (fun _ h9 => h9) rfl dX5_goBack_52 ?_
      refine va_get (D := D) (ci := 0) (v := .int u14) (C := RX0) (T := TX0) (N := 5) hx hb hts i_X0 hown hK.1 hP 4 rfl rfl 4 (by decide) (hts _ wd_76) (fun _ h9 => h9) rfl dX5_goBack_55 ?_
      cases hF
      exact xreti (Nat.le_of_ble_eq_true rfl) (Nat.le_of_ble_eq_true rfl) hx hb hr hlocks hP hS dX5_goBack_58
    · have hF := ite_t c5 hF
      cases hF
      exact xthrow (k := 3) (text := "the slot is empty") (names := ["java/lang/RuntimeException", "java/lang/Exception"]) rfl (by decide) hx hb hfl hown (by decide +kernel) (by decide +kernel) (hts _ wd_260) (hts _ wd_33) (hX.1 (158, "the slot is empty") (by decide +kernel)) at118g at118b hts hX ot118 hZ hS (hl.1.trans hml.symm) dX5_goBack_15 dX5_goBack_18 dX5_goBack_19 dX5_goBack_21 dX5_goBack_24 hout (Nat.le_of_ble_eq_true rfl) (Nat.le_of_ble_eq_true rfl) (Nat.le_of_ble_eq_true rfl) (Nat.le_of_ble_eq_true rfl) hlocks hP (Nat.le_of_ble_eq_true rfl) (Nat.le_of_ble_eq_true rfl)
abbrev rm5_letter : Room := { frames := 7, cells := 1, slots := 6, locals := 102 }
theorem hd5_letter : yX5_letter.cls = RX5 ∧ yX5_letter.cls ≠ "java/lang/invoke/MethodHandle" ∧ yX5_letter.cls ≠ "java/lang/invoke/VarHandle" ∧ (parseMethodDescriptor yX5_letter.desc).map (fun d => d.parameters.length) = some 1 := by decide +kernel
set_option maxHeartbeats 4000000 in
set_option maxRecDepth 100000 in
theorem K5_letter (l : Launch) (hfl : l.stackTraces = false) (D : va_G) (cI cZ cS cJ : ClassId) (aC aS aL aW aB aF aZ aK aM aO aT aY aV aU aR : Nat) (kQ : Nat → SA) (sr : Int32) (wm : Int32) (wW : Nat → Int32) (bh : Int32) (bF : Nat → Int32) (bZ : Nat → Int32) (bK : Nat → Int32) (bM : Nat → Int32) (ol : Int32) (oS : Nat → Int32) (kd : Int32) (kf : Nat → Int32) (kA : Nat → SA) (kV : Nat → SV) (kP : Nat → SV) (x1 : Int32) (k : Nat) (r : Int32) (hF : f5_letter wm wW x1 = some (k, r)) : vx_Met l yX5_letter wsX5_letter rm5_letter (xP D (gT cI cZ cS cJ) ((W5x cI aC aS aL aW aB aF aZ aK aM aO aT aY sr wm wW bh bF bZ bK bM ol oS) ++ (HB cI cZ cS aY aV aU aR kd kf kA kV kQ kP)) [.ref aC, .int x1]) (xQ D k (some (.int r)) (uA ((W5x cI aC aS aL aW aB aF aZ aK aM aO aT aY sr wm wW bh bF bZ bK bM ol oS) ++ (HB cI cZ cS aY aV aU aR kd kf kA kV kQ kP))) ((W5x cI aC aS aL aW aB aF aZ aK aM aO aT aY sr wm wW bh bF bZ bK bM ol oS) ++ (HB cI cZ cS aY aV aU aR kd kf kA kV kQ kP))) (xX D k (uA ((W5x cI aC aS aL aW aB aF aZ aK aM aO aT aY sr wm wW bh bF bZ bK bM ol oS) ++ (HB cI cZ cS aY aV aU aR kd kf kA kV kQ kP))) ((W5x cI aC aS aL aW aB aF aZ aK aM aO aT aY sr wm wW bh bF bZ bK bM ol oS) ++ (HB cI cZ cS aY aV aU aR kd kf kA kV kQ kP))) 1 6 (uA ((W5x cI aC aS aL aW aB aF aZ aK aM aO aT aY sr wm wW bh bF bZ bK bM ol oS) ++ (HB cI cZ cS aY aV aU aR kd kf kA kV kQ kP))) := by
  refine vx_ofW (cc := cX5_letter) (maxL := 2) (ret := (some .int)) (by decide) rfl ?_
  intro p e s m args below meth c s₁ B hml hout hv
  obtain ⟨ha, hK, hP, hD0, hX, hZ⟩ := hv
  have hx := B.exec
  have hb := B.bytes
  have hr := B.returns
  have hlocks := B.notSynchronized
  have hts : ∀ w ∈ lw_all, w.before args s = true := fun w h => atoms_spec (ws := wsX5_letter) B.pre w (List.mem_cons_of_mem _ h)
  have hown : s.vm.findClass RX5 = some m.cls := findClass_of_methodNamed B.named
  have S : CallFix p m c cX5_letter 2 s args lw_all RX5 := ⟨hx, hb, hml, hown, hts⟩
  have hD := hD0.own
  generalize uA ((W5x cI aC aS aL aW aB aF aZ aK aM aO aT aY sr wm wW bh bF bZ bK bM ol oS) ++ (HB cI cZ cS aY aV aU aR kd kf kA kV kQ kP)) = A0 at hD hZ ⊢
  have hS : va_S A0 s.heap s.heap [] := va_S.rf
  have hl := lv_entry ([.ref aC, .int x1] : List Value) (n := 2) (Nat.le_of_ble_eq_true rfl)
  refine W.eq (g2 := F0 m 0 ((lg_sl ([.ref aC, .int x1] : List Value) ++ List.replicate (2 - (lg_sl ([.ref aC, .int x1] : List Value)).length) Slot.unset).toArray) []) (by rw [ha]; exact lg_entry_eq _ _ _) ?_
  generalize (lg_sl ([.ref aC, .int x1] : List Value) ++ List.replicate (2 - (lg_sl ([.ref aC, .int x1] : List Value)).length) Slot.unset).toArray = ls at hl ⊢
  have hl : lv_has ls 2 [(0, .ref aC), (1, .int x1)] := hl
  rw [f5_letter] at hF
  show xW p l e wsX5_letter rm5_letter s m args below meth c D k (some (.int r)) A0 ((W5x cI aC aS aL aW aB aF aZ aK aM aO aT aY sr wm wW bh bF bZ bK bM ol oS) ++ (HB cI cZ cS aY aV aU aR kd kf kA kV kQ kP)) 1 6 s.heap [] 0 0 (F0 m 0 ls [])
  refine lv_iload_n hx hb dX5_letter_0 rfl (lv_at hl 1 rfl) ?_
  obtain ⟨k2, h1, hF⟩ := bd1_at hF
  refine xcall (ws' := ((W5x cI aC aS aL aW aB aF aZ aK aM aO aT aY sr wm wW bh bF bZ bK bM ol oS) ++ (HB cI cZ cS aY aV aU aR kd kf kA kV kQ kP))) (vx_runS (As := [.int x1]) (rest := []) S (K5_throwIfNoSerial l hfl D cI cZ cS cJ x1 k2 h1) (va_cwS 1 hts (gd_S wd_347 wd_348 wd_22 wd_349) rfl rfl rfl hdn5_throwIfNoSerial ⟨Nat.le_of_ble_eq_true rfl, Nat.le_of_ble_eq_true rfl⟩) (xPreS hK hX hZ hS hD [] (wc := ([] : va_W)) rfl (hP.sub (ws' := ([] : va_W)) [] rfl) (hD.sub (ws' := ([] : va_W)) [] (by decide) rfl)) rfl rfl hl.1 rfl (lv_room (Nat.le_of_ble_eq_true rfl)) dX5_letter_1 ⟨(Nat.le_of_ble_eq_true rfl), (Nat.le_of_ble_eq_true rfl)⟩) hS hP hD [] rfl rfl rfl rfl (fun ce q9 H locs hk hP hD hS hce hcv hcl => ?_) (fun H locs hk hP hD hS => ?_)
  · have hF := ite_f hk hF
    cases hF
    exact xout hk hout hlocks hce hcv hcl hP hS (Nat.le_of_ble_eq_true rfl) (Nat.le_of_ble_eq_true rfl)
  · have hF := ite_t hk hF
    refine lv_aload_n hx hb dX5_letter_4 rfl (lv_at hl 0 rfl) ?_
    refine va_get (D := D) (ci := 5) (v := .ref aS) (C := RX5) (T := TX5) (N := 3) hx hb hts i_X5 hown hK.1 hP 0 rfl rfl 0 (by decide) (hts _ wd_139) (fun _ h9 => h9) rfl dX5_letter_5 ?_
    refine va_get (D := D) (ci := 4) (v := .ref aL) (C := RX4) (T := TX4) (N := 3) hx hb hts i_X4 hown hK.1 hP 1 rfl rfl 0 (by decide) (hts _ wd_89) (fun _ h9 => h9) rfl dX5_letter_8 ?_
    refine lv_iload_n hx hb dX5_letter_11 rfl (lv_at hl 1 rfl) ?_
    obtain ⟨q4, h3, hF⟩ := bd1_at hF
    refine rcall (va_runV (As := [.int x1]) (rest := []) S (K2_letterOf l D cI cZ cS cJ aL aW wm wW x1 q4 h3) (cwV 1 hts (gd_V wd_331 wd_332 wd_333 wd_24 wd_334) rfl rfl rfl hd2_letterOf ⟨Nat.le_of_ble_eq_true rfl, Nat.le_of_ble_eq_true rfl⟩) (rPreV hK (hP.sub (ws' := (W2 cI aL aW wm wW)) [2, 3] rfl) (ci := 2) (q := (RX2, TX2, 2)) rfl rfl) rfl rfl hl.1 rfl (lv_room (Nat.le_of_ble_eq_true rfl)) dX5_letter_12 ⟨(Nat.le_of_ble_eq_true rfl), (Nat.le_of_ble_eq_true rfl)⟩) ?_
    cases hF
    exact xreti (Nat.le_of_ble_eq_true rfl) (Nat.le_of_ble_eq_true rfl) hx hb hr hlocks hP hS dX5_letter_15
abbrev rm5_cheque : Room := { frames := 6, cells := 1, slots := 6, locals := 82 }
theorem hd5_cheque : yX5_cheque.cls = RX5 ∧ yX5_cheque.cls ≠ "java/lang/invoke/MethodHandle" ∧ yX5_cheque.cls ≠ "java/lang/invoke/VarHandle" ∧ (parseMethodDescriptor yX5_cheque.desc).map (fun d => d.parameters.length) = some 2 := by decide +kernel
set_option maxHeartbeats 4000000 in
set_option maxRecDepth 100000 in
theorem K5_cheque (l : Launch) (hfl : l.stackTraces = false) (D : va_G) (cI cZ cS cJ : ClassId) (aC aS aL aW aB aF aZ aK aM aO aT aY aV aU aR : Nat) (kQ : Nat → SA) (sr : Int32) (wm : Int32) (wW : Nat → Int32) (bh : Int32) (bF : Nat → Int32) (bZ : Nat → Int32) (bK : Nat → Int32) (bM : Nat → Int32) (ol : Int32) (oS : Nat → Int32) (kd : Int32) (kf : Nat → Int32) (kA : Nat → SA) (kV : Nat → SV) (kP : Nat → SV) (x1 : Int32) (x2 : Int32) (k : Nat) (r : Int32) (hF : f5_cheque bh bF bZ bK bM x1 x2 = some (k, r)) : vx_Met l yX5_cheque wsX5_cheque rm5_cheque (xP D (gT cI cZ cS cJ) ((W5x cI aC aS aL aW aB aF aZ aK aM aO aT aY sr wm wW bh bF bZ bK bM ol oS) ++ (HB cI cZ cS aY aV aU aR kd kf kA kV kQ kP)) [.ref aC, .int x1, .int x2]) (xQ D k (some (.int r)) (uA ((W5x cI aC aS aL aW aB aF aZ aK aM aO aT aY sr wm wW bh bF bZ bK bM ol oS) ++ (HB cI cZ cS aY aV aU aR kd kf kA kV kQ kP))) ((W5x cI aC aS aL aW aB aF aZ aK aM aO aT aY sr wm wW bh bF bZ bK bM ol oS) ++ (HB cI cZ cS aY aV aU aR kd kf kA kV kQ kP))) (xX D k (uA ((W5x cI aC aS aL aW aB aF aZ aK aM aO aT aY sr wm wW bh bF bZ bK bM ol oS) ++ (HB cI cZ cS aY aV aU aR kd kf kA kV kQ kP))) ((W5x cI aC aS aL aW aB aF aZ aK aM aO aT aY sr wm wW bh bF bZ bK bM ol oS) ++ (HB cI cZ cS aY aV aU aR kd kf kA kV kQ kP))) 1 6 (uA ((W5x cI aC aS aL aW aB aF aZ aK aM aO aT aY sr wm wW bh bF bZ bK bM ol oS) ++ (HB cI cZ cS aY aV aU aR kd kf kA kV kQ kP))) := by
  refine vx_ofW (cc := cX5_cheque) (maxL := 4) (ret := (some .int)) (by decide) rfl ?_
  intro p e s m args below meth c s₁ B hml hout hv
  obtain ⟨ha, hK, hP, hD0, hX, hZ⟩ := hv
  have hx := B.exec
  have hb := B.bytes
  have hr := B.returns
  have hlocks := B.notSynchronized
  have hts : ∀ w ∈ lw_all, w.before args s = true := fun w h => atoms_spec (ws := wsX5_cheque) B.pre w (List.mem_cons_of_mem _ h)
  have hown : s.vm.findClass RX5 = some m.cls := findClass_of_methodNamed B.named
  have S : CallFix p m c cX5_cheque 4 s args lw_all RX5 := ⟨hx, hb, hml, hown, hts⟩
  have hD := hD0.own
  generalize uA ((W5x cI aC aS aL aW aB aF aZ aK aM aO aT aY sr wm wW bh bF bZ bK bM ol oS) ++ (HB cI cZ cS aY aV aU aR kd kf kA kV kQ kP)) = A0 at hD hZ ⊢
  have hS : va_S A0 s.heap s.heap [] := va_S.rf
  have hl := lv_entry ([.ref aC, .int x1, .int x2] : List Value) (n := 4) (Nat.le_of_ble_eq_true rfl)
  refine W.eq (g2 := F0 m 0 ((lg_sl ([.ref aC, .int x1, .int x2] : List Value) ++ List.replicate (4 - (lg_sl ([.ref aC, .int x1, .int x2] : List Value)).length) Slot.unset).toArray) []) (by rw [ha]; exact lg_entry_eq _ _ _) ?_
  generalize (lg_sl ([.ref aC, .int x1, .int x2] : List Value) ++ List.replicate (4 - (lg_sl ([.ref aC, .int x1, .int x2] : List Value)).length) Slot.unset).toArray = ls at hl ⊢
  have hl : lv_has ls 4 [(0, .ref aC), (1, .int x1), (2, .int x2)] := hl
  rw [f5_cheque] at hF
  show xW p l e wsX5_cheque rm5_cheque s m args below meth c D k (some (.int r)) A0 ((W5x cI aC aS aL aW aB aF aZ aK aM aO aT aY sr wm wW bh bF bZ bK bM ol oS) ++ (HB cI cZ cS aY aV aU aR kd kf kA kV kQ kP)) 1 6 s.heap [] 0 0 (F0 m 0 ls [])
  refine lv_aload_n hx hb dX5_cheque_0 rfl (lv_at hl 0 rfl) ?_
  refine va_get (D := D) (ci := 5) (v := .ref aS) (C := RX5) (T := TX5) (N := 3) hx hb hts i_X5 hown hK.1 hP 0 rfl rfl 0 (by decide) (hts _ wd_139) (fun _ h9 => h9) rfl dX5_cheque_1 ?_
  refine va_get (D := D) (ci := 4) (v := .ref aB) (C := RX4) (T := TX4) (N := 3) hx hb hts i_X4 hown hK.1 hP 1 rfl rfl 1 (by decide) (hts _ wd_91) (fun _ h9 => h9) rfl dX5_cheque_4 ?_
  refine lv_iload_n hx hb dX5_cheque_7 rfl (lv_at hl 1 rfl) ?_
  obtain ⟨q2, h1, hF⟩ := bd1_at hF
  refine rcall (va_runV (As := [.int x1]) (rest := []) S (K0_cellOf l D cI cZ cS cJ aB aF aZ aK aM bh bF bZ bK bM x1 q2 h1) (cwV 1 hts (gd_V wd_319 wd_320 wd_321 wd_25 wd_322) rfl rfl rfl hd0_cellOf ⟨Nat.le_of_ble_eq_true rfl, Nat.le_of_ble_eq_true rfl⟩) (rPreV hK (hP.sub (ws' := (W0 cI aB aF aZ aK aM bh bF bZ bK bM)) [4, 5, 6, 7, 8] rfl) (ci := 0) (q := (RX0, TX0, 5)) rfl rfl) rfl rfl hl.1 rfl (lv_room (Nat.le_of_ble_eq_true rfl)) dX5_cheque_8 ⟨(Nat.le_of_ble_eq_true rfl), (Nat.le_of_ble_eq_true rfl)⟩) ?_
  refine lv_istore_n (lv' := [(3, .int q2), (0, .ref aC), (1, .int x1), (2, .int x2)]) hx hb dX5_cheque_11 rfl hl (by decide) rfl (fun ls hl => ?_)
  refine lv_iload_n hx hb dX5_cheque_12 rfl (lv_at hl 0 rfl) ?_
  refine lv_iconst hx hb dX5_cheque_13 kc_iconst_m1 ?_
  refine lv_icmp_ne (tgt := 27) hx hb dX5_cheque_14 (by decide) (fun c3 => ?_) (fun c3 => ?_)
  · have hF := ite_f c3 hF
    refine lv_iload_n hx hb dX5_cheque_27 rfl (lv_at hl 3 rfl) ?_
    by_cases c4 : x2 = (0 : Int32)
    · have hF := ite_t c4 hF
      refine lv_tableIn (tgt := 64) hx hb dX5_cheque_28 (by rw [c4]; decide) (by rw [c4]; decide) (by rw [c4]; rfl) (by decide) ?_
      refine lv_aload_n hx hb dX5_cheque_64 rfl (lv_at hl 1 rfl) ?_
      refine va_get (D := D) (ci := 5) (v := .ref aS) (C := RX5) (T := TX5) (N := 3) hx hb hts i_X5 hown hK.1 hP 0 rfl rfl 0 (by decide) (hts _ wd_139) (fun _ h9 => h9) rfl dX5_cheque_65 ?_
      refine va_get (D := D) (ci := 4) (v := .ref aB) (C := RX4) (T := TX4) (N := 3) hx hb hts i_X4 hown hK.1 hP 1 rfl rfl 1 (by decide) (hts _ wd_91) (fun _ h9 => h9) rfl dX5_cheque_68 ?_
      refine lv_iload_n hx hb dX5_cheque_71 rfl (lv_at hl 0 rfl) ?_
      obtain ⟨q6, h5, hF⟩ := bd1_at hF
      refine rcall (va_runV (As := [.int q2]) (rest := []) S (K0_kindAt l D cI cZ cS cJ aB aF aZ aK aM bh bF bZ bK bM q2 q6 h5) (cwV 1 hts (gd_V wd_323 wd_324 wd_325 wd_25 wd_326) rfl rfl rfl hd0_kindAt ⟨Nat.le_of_ble_eq_true rfl, Nat.le_of_ble_eq_true rfl⟩) (rPreV hK (hP.sub (ws' := (W0 cI aB aF aZ aK aM bh bF bZ bK bM)) [4, 5, 6, 7, 8] rfl) (ci := 0) (q := (RX0, TX0, 5)) rfl rfl) rfl rfl hl.1 rfl (lv_room (Nat.le_of_ble_eq_true rfl)) dX5_cheque_72 ⟨(Nat.le_of_ble_eq_true rfl), (Nat.le_of_ble_eq_true rfl)⟩) ?_
      cases hF
      exact xreti (Nat.le_of_ble_eq_true rfl) (Nat.le_of_ble_eq_true rfl) hx hb hr hlocks hP hS dX5_cheque_75
    have hF := ite_f c4 hF
    by_cases c7 : x2 = (1 : Int32)
    · have hF := ite_t c7 hF
      refine lv_tableIn (tgt := 76) hx hb dX5_cheque_28 (by rw [c7]; decide) (by rw [c7]; decide) (by rw [c7]; rfl) (by decide) ?_
      refine lv_aload_n hx hb dX5_cheque_76 rfl (lv_at hl 1 rfl) ?_
      refine va_get (D := D) (ci := 5) (v := .ref aS) (C := RX5) (T := TX5) (N := 3) hx hb hts i_X5 hown hK.1 hP 0 rfl rfl 0 (by decide) (hts _ wd_139) (fun _ h9 => h9) rfl dX5_cheque_77 ?_
      refine va_get (D := D) (ci := 4) (v := .ref aB) (C := RX4) (T := TX4) (N := 3) hx hb hts i_X4 hown hK.1 hP 1 rfl rfl 1 (by decide) (hts _ wd_91) (fun _ h9 => h9) rfl dX5_cheque_80 ?_
      refine lv_iload_n hx hb dX5_cheque_83 rfl (lv_at hl 0 rfl) ?_
      obtain ⟨q9, h8, hF⟩ := bd1_at hF
      refine rcall (va_runV (As := [.int q2]) (rest := []) S (K0_amountAt l D cI cZ cS cJ aB aF aZ aK aM bh bF bZ bK bM q2 q9 h8) (cwV 1 hts (gd_V wd_577 wd_371 wd_372 wd_25 wd_373) rfl rfl rfl hd0_amountAt ⟨Nat.le_of_ble_eq_true rfl, Nat.le_of_ble_eq_true rfl⟩) (rPreV hK (hP.sub (ws' := (W0 cI aB aF aZ aK aM bh bF bZ bK bM)) [4, 5, 6, 7, 8] rfl) (ci := 0) (q := (RX0, TX0, 5)) rfl rfl) rfl rfl hl.1 rfl (lv_room (Nat.le_of_ble_eq_true rfl)) dX5_cheque_84 ⟨(Nat.le_of_ble_eq_true rfl), (Nat.le_of_ble_eq_true rfl)⟩) ?_
      cases hF
      exact xreti (Nat.le_of_ble_eq_true rfl) (Nat.le_of_ble_eq_true rfl) hx hb hr hlocks hP hS dX5_cheque_87
    have hF := ite_f c7 hF
    by_cases c10 : x2 = (2 : Int32)
    · have hF := ite_t c10 hF
      refine lv_tableIn (tgt := 88) hx hb dX5_cheque_28 (by rw [c10]; decide) (by rw [c10]; decide) (by rw [c10]; rfl) (by decide) ?_
      refine lv_iload_n hx hb dX5_cheque_88 rfl (lv_at hl 0 rfl) ?_
      refine lv_bipush hx hb dX5_cheque_89 kc_bipush_40 ?_
      refine lv_idiv hx hb dX5_cheque_91 (by decide) ?_
      cases hF
      exact xreti (Nat.le_of_ble_eq_true rfl) (Nat.le_of_ble_eq_true rfl) hx hb hr hlocks hP hS dX5_cheque_92
    have hF := ite_f c10 hF
    by_cases c11 : x2 = (3 : Int32)
    · have hF := ite_t c11 hF
      refine lv_tableIn (tgt := 93) hx hb dX5_cheque_28 (by rw [c11]; decide) (by rw [c11]; decide) (by rw [c11]; rfl) (by decide) ?_
      refine lv_iload_n hx hb dX5_cheque_93 rfl (lv_at hl 0 rfl) ?_
      refine lv_bipush hx hb dX5_cheque_94 kc_bipush_40 ?_
      refine lv_irem hx hb dX5_cheque_96 (by decide) ?_
      cases hF
      exact xreti (Nat.le_of_ble_eq_true rfl) (Nat.le_of_ble_eq_true rfl) hx hb hr hlocks hP hS dX5_cheque_97
    have hF := ite_f c11 hF
    by_cases c12 : x2 = (4 : Int32)
    · have hF := ite_t c12 hF
      refine lv_tableIn (tgt := 98) hx hb dX5_cheque_28 (by rw [c12]; decide) (by rw [c12]; decide) (by rw [c12]; rfl) (by decide) ?_
      refine lv_aload_n hx hb dX5_cheque_98 rfl (lv_at hl 1 rfl) ?_
      refine va_get (D := D) (ci := 5) (v := .ref aS) (C := RX5) (T := TX5) (N := 3) hx hb hts i_X5 hown hK.1 hP 0 rfl rfl 0 (by decide) (hts _ wd_139) (fun _ h9 => h9) rfl dX5_cheque_99 ?_
      refine va_get (D := D) (ci := 4) (v := .ref aB) (C := RX4) (T := TX4) (N := 3) hx hb hts i_X4 hown hK.1 hP 1 rfl rfl 1 (by decide) (hts _ wd_91) (fun _ h9 => h9) rfl dX5_cheque_102 ?_
      refine lv_iload_n hx hb dX5_cheque_105 rfl (lv_at hl 0 rfl) ?_
      obtain ⟨q14, h13, hF⟩ := bd1_at hF
      refine rcall (va_runV (As := [.int q2]) (rest := []) S (K0_sameKindFrom l D cI cZ cS cJ aB aF aZ aK aM bh bF bZ bK bM q2 q14 h13) (cwV 1 hts (gd_V wd_578 wd_579 wd_580 wd_25 wd_581) rfl rfl rfl hd0_sameKindFrom ⟨Nat.le_of_ble_eq_true rfl, Nat.le_of_ble_eq_true rfl⟩) (rPreV hK (hP.sub (ws' := (W0 cI aB aF aZ aK aM bh bF bZ bK bM)) [4, 5, 6, 7, 8] rfl) (ci := 0) (q := (RX0, TX0, 5)) rfl rfl) rfl rfl hl.1 rfl (lv_room (Nat.le_of_ble_eq_true rfl)) dX5_cheque_106 ⟨(Nat.le_of_ble_eq_true rfl), (Nat.le_of_ble_eq_true rfl)⟩) ?_
      cases hF
      exact xreti (Nat.le_of_ble_eq_true rfl) (Nat.le_of_ble_eq_true rfl) hx hb hr hlocks hP hS dX5_cheque_109
    have hF := ite_f c12 hF
    refine lv_tableOut (tgt := 110) hx hb dX5_cheque_28 (by have q0 := ne_ti c4 (show (0 : Int32).toInt = 0 by decide); have q1 := ne_ti c7 (show (1 : Int32).toInt = 1 by decide); have q2 := ne_ti c10 (show (2 : Int32).toInt = 2 by decide); have q3 := ne_ti c11 (show (3 : Int32).toInt = 3 by decide); have q4 := ne_ti c12 (show (4 : Int32).toInt = 4 by decide); omega) (by decide) ?_
    cases hF
    exact xthrow (k := 2) (text := "a cheque has the numbers 0 to 4") (names := ["java/lang/RuntimeException", "java/lang/Exception"]) rfl (by decide) hx hb hfl hown (by decide +kernel) (by decide +kernel) (hts _ wd_244) (hts _ wd_32) (hX.1 (177, "a cheque has the numbers 0 to 4") (by decide +kernel)) at38g at38b hts hX ot38 hZ hS (hl.1.trans hml.symm) dX5_cheque_110 dX5_cheque_113 dX5_cheque_114 dX5_cheque_116 dX5_cheque_119 hout (Nat.le_of_ble_eq_true rfl) (Nat.le_of_ble_eq_true rfl) (Nat.le_of_ble_eq_true rfl) (Nat.le_of_ble_eq_true rfl) hlocks hP (Nat.le_of_ble_eq_true rfl) (Nat.le_of_ble_eq_true rfl)
  · have hF := ite_t c3 hF
    cases hF
    exact xthrow (k := 1) (text := "there is no such cheque") (names := ["java/lang/RuntimeException", "java/lang/Exception"]) rfl (by decide) hx hb hfl hown (by decide +kernel) (by decide +kernel) (hts _ wd_176) (hts _ wd_31) (hX.1 (165, "there is no such cheque") (by decide +kernel)) at167g at167b hts hX ot167 hZ hS (hl.1.trans hml.symm) dX5_cheque_17 dX5_cheque_20 dX5_cheque_21 dX5_cheque_23 dX5_cheque_26 hout (Nat.le_of_ble_eq_true rfl) (Nat.le_of_ble_eq_true rfl) (Nat.le_of_ble_eq_true rfl) (Nat.le_of_ble_eq_true rfl) hlocks hP (Nat.le_of_ble_eq_true rfl) (Nat.le_of_ble_eq_true rfl)
abbrev rm5_bookOf : Room := { frames := 6, cells := 1, slots := 6, locals := 82 }
theorem hd5_bookOf : yX5_bookOf.cls = RX5 ∧ yX5_bookOf.cls ≠ "java/lang/invoke/MethodHandle" ∧ yX5_bookOf.cls ≠ "java/lang/invoke/VarHandle" ∧ (parseMethodDescriptor yX5_bookOf.desc).map (fun d => d.parameters.length) = some 2 := by decide +kernel
set_option maxHeartbeats 4000000 in
set_option maxRecDepth 100000 in
theorem K5_bookOf (l : Launch) (hfl : l.stackTraces = false) (D : va_G) (cI cZ cS cJ : ClassId) (aC aS aL aW aB aF aZ aK aM aO aT aY aV aU aR : Nat) (kQ : Nat → SA) (sr : Int32) (wm : Int32) (wW : Nat → Int32) (bh : Int32) (bF : Nat → Int32) (bZ : Nat → Int32) (bK : Nat → Int32) (bM : Nat → Int32) (ol : Int32) (oS : Nat → Int32) (kd : Int32) (kf : Nat → Int32) (kA : Nat → SA) (kV : Nat → SV) (kP : Nat → SV) (x1 : Int32) (x2 : Int32) (k : Nat) (r : Int32) (hF : f5_bookOf bh bF bZ bK bM x1 x2 = some (k, r)) : vx_Met l yX5_bookOf wsX5_bookOf rm5_bookOf (xP D (gT cI cZ cS cJ) ((W5x cI aC aS aL aW aB aF aZ aK aM aO aT aY sr wm wW bh bF bZ bK bM ol oS) ++ (HB cI cZ cS aY aV aU aR kd kf kA kV kQ kP)) [.ref aC, .int x1, .int x2]) (xQ D k (some (.int r)) (uA ((W5x cI aC aS aL aW aB aF aZ aK aM aO aT aY sr wm wW bh bF bZ bK bM ol oS) ++ (HB cI cZ cS aY aV aU aR kd kf kA kV kQ kP))) ((W5x cI aC aS aL aW aB aF aZ aK aM aO aT aY sr wm wW bh bF bZ bK bM ol oS) ++ (HB cI cZ cS aY aV aU aR kd kf kA kV kQ kP))) (xX D k (uA ((W5x cI aC aS aL aW aB aF aZ aK aM aO aT aY sr wm wW bh bF bZ bK bM ol oS) ++ (HB cI cZ cS aY aV aU aR kd kf kA kV kQ kP))) ((W5x cI aC aS aL aW aB aF aZ aK aM aO aT aY sr wm wW bh bF bZ bK bM ol oS) ++ (HB cI cZ cS aY aV aU aR kd kf kA kV kQ kP))) 1 6 (uA ((W5x cI aC aS aL aW aB aF aZ aK aM aO aT aY sr wm wW bh bF bZ bK bM ol oS) ++ (HB cI cZ cS aY aV aU aR kd kf kA kV kQ kP))) := by
  refine vx_ofW (cc := cX5_bookOf) (maxL := 3) (ret := (some .int)) (by decide) rfl ?_
  intro p e s m args below meth c s₁ B hml hout hv
  obtain ⟨ha, hK, hP, hD0, hX, hZ⟩ := hv
  have hx := B.exec
  have hb := B.bytes
  have hr := B.returns
  have hlocks := B.notSynchronized
  have hts : ∀ w ∈ lw_all, w.before args s = true := fun w h => atoms_spec (ws := wsX5_bookOf) B.pre w (List.mem_cons_of_mem _ h)
  have hown : s.vm.findClass RX5 = some m.cls := findClass_of_methodNamed B.named
  have S : CallFix p m c cX5_bookOf 3 s args lw_all RX5 := ⟨hx, hb, hml, hown, hts⟩
  have hD := hD0.own
  generalize uA ((W5x cI aC aS aL aW aB aF aZ aK aM aO aT aY sr wm wW bh bF bZ bK bM ol oS) ++ (HB cI cZ cS aY aV aU aR kd kf kA kV kQ kP)) = A0 at hD hZ ⊢
  have hS : va_S A0 s.heap s.heap [] := va_S.rf
  have hl := lv_entry ([.ref aC, .int x1, .int x2] : List Value) (n := 3) (Nat.le_of_ble_eq_true rfl)
  refine W.eq (g2 := F0 m 0 ((lg_sl ([.ref aC, .int x1, .int x2] : List Value) ++ List.replicate (3 - (lg_sl ([.ref aC, .int x1, .int x2] : List Value)).length) Slot.unset).toArray) []) (by rw [ha]; exact lg_entry_eq _ _ _) ?_
  generalize (lg_sl ([.ref aC, .int x1, .int x2] : List Value) ++ List.replicate (3 - (lg_sl ([.ref aC, .int x1, .int x2] : List Value)).length) Slot.unset).toArray = ls at hl ⊢
  have hl : lv_has ls 3 [(0, .ref aC), (1, .int x1), (2, .int x2)] := hl
  rw [f5_bookOf] at hF
  show xW p l e wsX5_bookOf rm5_bookOf s m args below meth c D k (some (.int r)) A0 ((W5x cI aC aS aL aW aB aF aZ aK aM aO aT aY sr wm wW bh bF bZ bK bM ol oS) ++ (HB cI cZ cS aY aV aU aR kd kf kA kV kQ kP)) 1 6 s.heap [] 0 0 (F0 m 0 ls [])
  refine lv_iload_n hx hb dX5_bookOf_0 rfl (lv_at hl 1 rfl) ?_
  refine lv_if_lt (tgt := 18) hx hb dX5_bookOf_1 (by decide) (fun c1 => ?_) (fun c1 => ?_)
  · have hF := ite_t c1 hF
    cases hF
    exact xthrow (k := 1) (text := "there is no such book") (names := ["java/lang/RuntimeException", "java/lang/Exception"]) rfl (by decide) hx hb hfl hown (by decide +kernel) (by decide +kernel) (hts _ wd_176) (hts _ wd_31) (hX.1 (179, "there is no such book") (by decide +kernel)) at167g at167b hts hX ot167 hZ hS (hl.1.trans hml.symm) dX5_bookOf_18 dX5_bookOf_21 dX5_bookOf_22 dX5_bookOf_24 dX5_bookOf_27 hout (Nat.le_of_ble_eq_true rfl) (Nat.le_of_ble_eq_true rfl) (Nat.le_of_ble_eq_true rfl) (Nat.le_of_ble_eq_true rfl) hlocks hP (Nat.le_of_ble_eq_true rfl) (Nat.le_of_ble_eq_true rfl)
  · have hF := ite_f c1 hF
    refine lv_iload_n hx hb dX5_bookOf_4 rfl (lv_at hl 1 rfl) ?_
    refine lv_aload_n hx hb dX5_bookOf_5 rfl (lv_at hl 0 rfl) ?_
    refine va_get (D := D) (ci := 5) (v := .ref aS) (C := RX5) (T := TX5) (N := 3) hx hb hts i_X5 hown hK.1 hP 0 rfl rfl 0 (by decide) (hts _ wd_139) (fun _ h9 => h9) rfl dX5_bookOf_6 ?_
    refine va_get (D := D) (ci := 4) (v := .ref aB) (C := RX4) (T := TX4) (N := 3) hx hb hts i_X4 hown hK.1 hP 1 rfl rfl 1 (by decide) (hts _ wd_91) (fun _ h9 => h9) rfl dX5_bookOf_9 ?_
    refine va_get (D := D) (ci := 0) (v := .int bh) (C := RX0) (T := TX0) (N := 5) hx hb hts i_X0 hown hK.1 hP 4 rfl rfl 4 (by decide) (hts _ wd_76) (fun _ h9 => h9) rfl dX5_bookOf_12 ?_
    refine lv_icmp_lt (tgt := 28) hx hb dX5_bookOf_15 (by decide) (fun c2 => ?_) (fun c2 => ?_)
    · have hF := ite_t c2 hF
      refine lv_iload_n hx hb dX5_bookOf_28 rfl (lv_at hl 2 rfl) ?_
      refine lv_if_lt (tgt := 38) hx hb dX5_bookOf_29 (by decide) (fun c3 => ?_) (fun c3 => ?_)
      · have hF := ite_t c3 hF
        cases hF
        exact xthrow (k := 2) (text := "a book has the numbers 0 to 8") (names := ["java/lang/RuntimeException", "java/lang/Exception"]) rfl (by decide) hx hb hfl hown (by decide +kernel) (by decide +kernel) (hts _ wd_244) (hts _ wd_32) (hX.1 (181, "a book has the numbers 0 to 8") (by decide +kernel)) at38g at38b hts hX ot38 hZ hS (hl.1.trans hml.symm) dX5_bookOf_38 dX5_bookOf_41 dX5_bookOf_42 dX5_bookOf_44 dX5_bookOf_47 hout (Nat.le_of_ble_eq_true rfl) (Nat.le_of_ble_eq_true rfl) (Nat.le_of_ble_eq_true rfl) (Nat.le_of_ble_eq_true rfl) hlocks hP (Nat.le_of_ble_eq_true rfl) (Nat.le_of_ble_eq_true rfl)
      · have hF := ite_f c3 hF
        refine lv_iload_n hx hb dX5_bookOf_32 rfl (lv_at hl 2 rfl) ?_
        refine lv_bipush hx hb dX5_bookOf_33 kc_bipush_8 ?_
        refine lv_icmp_le (tgt := 48) hx hb dX5_bookOf_35 (by decide) (fun c4 => ?_) (fun c4 => ?_)
        · have hF := ite_t c4 hF
          refine lv_aload_n hx hb dX5_bookOf_48 rfl (lv_at hl 0 rfl) ?_
          refine va_get (D := D) (ci := 5) (v := .ref aS) (C := RX5) (T := TX5) (N := 3) hx hb hts i_X5 hown hK.1 hP 0 rfl rfl 0 (by decide) (hts _ wd_139) (fun _ h9 => h9) rfl dX5_bookOf_49 ?_
          refine va_get (D := D) (ci := 4) (v := .ref aB) (C := RX4) (T := TX4) (N := 3) hx hb hts i_X4 hown hK.1 hP 1 rfl rfl 1 (by decide) (hts _ wd_91) (fun _ h9 => h9) rfl dX5_bookOf_52 ?_
          refine lv_iload_n hx hb dX5_bookOf_55 rfl (lv_at hl 1 rfl) ?_
          refine lv_iload_n hx hb dX5_bookOf_56 rfl (lv_at hl 2 rfl) ?_
          obtain ⟨q6, h5, hF⟩ := bd1_at hF
          refine rcall (va_runV (As := [.int x1, .int x2]) (rest := []) S (K0_numberOf l D cI cZ cS cJ aB aF aZ aK aM bh bF bZ bK bM x1 x2 q6 h5) (cwV 2 hts (gd_V wd_589 wd_424 wd_425 wd_25 wd_426) rfl rfl rfl hd0_numberOf ⟨Nat.le_of_ble_eq_true rfl, Nat.le_of_ble_eq_true rfl⟩) (rPreV hK (hP.sub (ws' := (W0 cI aB aF aZ aK aM bh bF bZ bK bM)) [4, 5, 6, 7, 8] rfl) (ci := 0) (q := (RX0, TX0, 5)) rfl rfl) rfl rfl hl.1 rfl (lv_room (Nat.le_of_ble_eq_true rfl)) dX5_bookOf_57 ⟨(Nat.le_of_ble_eq_true rfl), (Nat.le_of_ble_eq_true rfl)⟩) ?_
          cases hF
          exact xreti (Nat.le_of_ble_eq_true rfl) (Nat.le_of_ble_eq_true rfl) hx hb hr hlocks hP hS dX5_bookOf_60
        · have hF := ite_f c4 hF
          cases hF
          exact xthrow (k := 2) (text := "a book has the numbers 0 to 8") (names := ["java/lang/RuntimeException", "java/lang/Exception"]) rfl (by decide) hx hb hfl hown (by decide +kernel) (by decide +kernel) (hts _ wd_244) (hts _ wd_32) (hX.1 (181, "a book has the numbers 0 to 8") (by decide +kernel)) at38g at38b hts hX ot38 hZ hS (hl.1.trans hml.symm) dX5_bookOf_38 dX5_bookOf_41 dX5_bookOf_42 dX5_bookOf_44 dX5_bookOf_47 hout (Nat.le_of_ble_eq_true rfl) (Nat.le_of_ble_eq_true rfl) (Nat.le_of_ble_eq_true rfl) (Nat.le_of_ble_eq_true rfl) hlocks hP (Nat.le_of_ble_eq_true rfl) (Nat.le_of_ble_eq_true rfl)
    · have hF := ite_f c2 hF
      cases hF
      exact xthrow (k := 1) (text := "there is no such book") (names := ["java/lang/RuntimeException", "java/lang/Exception"]) rfl (by decide) hx hb hfl hown (by decide +kernel) (by decide +kernel) (hts _ wd_176) (hts _ wd_31) (hX.1 (179, "there is no such book") (by decide +kernel)) at167g at167b hts hX ot167 hZ hS (hl.1.trans hml.symm) dX5_bookOf_18 dX5_bookOf_21 dX5_bookOf_22 dX5_bookOf_24 dX5_bookOf_27 hout (Nat.le_of_ble_eq_true rfl) (Nat.le_of_ble_eq_true rfl) (Nat.le_of_ble_eq_true rfl) (Nat.le_of_ble_eq_true rfl) hlocks hP (Nat.le_of_ble_eq_true rfl) (Nat.le_of_ble_eq_true rfl)
abbrev rm5_count : Room := { frames := 6, cells := 1, slots := 6, locals := 92 }
theorem hd5_count : yX5_count.cls = RX5 ∧ yX5_count.cls ≠ "java/lang/invoke/MethodHandle" ∧ yX5_count.cls ≠ "java/lang/invoke/VarHandle" ∧ (parseMethodDescriptor yX5_count.desc).map (fun d => d.parameters.length) = some 1 := by decide +kernel
set_option maxHeartbeats 4000000 in
set_option maxRecDepth 100000 in
theorem K5_count (l : Launch) (hfl : l.stackTraces = false) (D : va_G) (cI cZ cS cJ : ClassId) (aC aS aL aW aB aF aZ aK aM aO aT aY aV aU aR : Nat) (kQ : Nat → SA) (sr : Int32) (wm : Int32) (wW : Nat → Int32) (bh : Int32) (bF : Nat → Int32) (bZ : Nat → Int32) (bK : Nat → Int32) (bM : Nat → Int32) (ol : Int32) (oS : Nat → Int32) (kd : Int32) (kf : Nat → Int32) (kA : Nat → SA) (kV : Nat → SV) (kP : Nat → SV) (x1 : Int32) (k : Nat) (r : Int32) (hF : f5_count sr wm wW bh bF bZ bK bM ol kd x1 = some (k, r)) : vx_Met l yX5_count wsX5_count rm5_count (xP D (gT cI cZ cS cJ) ((W5x cI aC aS aL aW aB aF aZ aK aM aO aT aY sr wm wW bh bF bZ bK bM ol oS) ++ (HB cI cZ cS aY aV aU aR kd kf kA kV kQ kP)) [.ref aC, .int x1]) (xQ D k (some (.int r)) (uA ((W5x cI aC aS aL aW aB aF aZ aK aM aO aT aY sr wm wW bh bF bZ bK bM ol oS) ++ (HB cI cZ cS aY aV aU aR kd kf kA kV kQ kP))) ((W5x cI aC aS aL aW aB aF aZ aK aM aO aT aY sr wm wW bh bF bZ bK bM ol oS) ++ (HB cI cZ cS aY aV aU aR kd kf kA kV kQ kP))) (xX D k (uA ((W5x cI aC aS aL aW aB aF aZ aK aM aO aT aY sr wm wW bh bF bZ bK bM ol oS) ++ (HB cI cZ cS aY aV aU aR kd kf kA kV kQ kP))) ((W5x cI aC aS aL aW aB aF aZ aK aM aO aT aY sr wm wW bh bF bZ bK bM ol oS) ++ (HB cI cZ cS aY aV aU aR kd kf kA kV kQ kP))) 1 6 (uA ((W5x cI aC aS aL aW aB aF aZ aK aM aO aT aY sr wm wW bh bF bZ bK bM ol oS) ++ (HB cI cZ cS aY aV aU aR kd kf kA kV kQ kP))) := by
  refine vx_ofW (cc := cX5_count) (maxL := 2) (ret := (some .int)) (by decide) rfl ?_
  intro p e s m args below meth c s₁ B hml hout hv
  obtain ⟨ha, hK, hP, hD0, hX, hZ⟩ := hv
  have hx := B.exec
  have hb := B.bytes
  have hr := B.returns
  have hlocks := B.notSynchronized
  have hts : ∀ w ∈ lw_all, w.before args s = true := fun w h => atoms_spec (ws := wsX5_count) B.pre w (List.mem_cons_of_mem _ h)
  have hown : s.vm.findClass RX5 = some m.cls := findClass_of_methodNamed B.named
  have S : CallFix p m c cX5_count 2 s args lw_all RX5 := ⟨hx, hb, hml, hown, hts⟩
  have hD := hD0.own
  generalize uA ((W5x cI aC aS aL aW aB aF aZ aK aM aO aT aY sr wm wW bh bF bZ bK bM ol oS) ++ (HB cI cZ cS aY aV aU aR kd kf kA kV kQ kP)) = A0 at hD hZ ⊢
  have hS : va_S A0 s.heap s.heap [] := va_S.rf
  have hl := lv_entry ([.ref aC, .int x1] : List Value) (n := 2) (Nat.le_of_ble_eq_true rfl)
  refine W.eq (g2 := F0 m 0 ((lg_sl ([.ref aC, .int x1] : List Value) ++ List.replicate (2 - (lg_sl ([.ref aC, .int x1] : List Value)).length) Slot.unset).toArray) []) (by rw [ha]; exact lg_entry_eq _ _ _) ?_
  generalize (lg_sl ([.ref aC, .int x1] : List Value) ++ List.replicate (2 - (lg_sl ([.ref aC, .int x1] : List Value)).length) Slot.unset).toArray = ls at hl ⊢
  have hl : lv_has ls 2 [(0, .ref aC), (1, .int x1)] := hl
  rw [f5_count] at hF
  show xW p l e wsX5_count rm5_count s m args below meth c D k (some (.int r)) A0 ((W5x cI aC aS aL aW aB aF aZ aK aM aO aT aY sr wm wW bh bF bZ bK bM ol oS) ++ (HB cI cZ cS aY aV aU aR kd kf kA kV kQ kP)) 1 6 s.heap [] 0 0 (F0 m 0 ls [])
  refine lv_iload_n hx hb dX5_count_0 rfl (lv_at hl 1 rfl) ?_
  refine lv_if_lt (tgt := 10) hx hb dX5_count_1 (by decide) (fun c1 => ?_) (fun c1 => ?_)
  · have hF := ite_t c1 hF
    cases hF
    exact xthrow (k := 2) (text := "a bank has the numbers 0 to 17") (names := ["java/lang/RuntimeException", "java/lang/Exception"]) rfl (by decide) hx hb hfl hown (by decide +kernel) (by decide +kernel) (hts _ wd_244) (hts _ wd_32) (hX.1 (186, "a bank has the numbers 0 to 17") (by decide +kernel)) at38g at38b hts hX ot38 hZ hS (hl.1.trans hml.symm) dX5_count_10 dX5_count_13 dX5_count_14 dX5_count_16 dX5_count_19 hout (Nat.le_of_ble_eq_true rfl) (Nat.le_of_ble_eq_true rfl) (Nat.le_of_ble_eq_true rfl) (Nat.le_of_ble_eq_true rfl) hlocks hP (Nat.le_of_ble_eq_true rfl) (Nat.le_of_ble_eq_true rfl)
  · have hF := ite_f c1 hF
    refine lv_iload_n hx hb dX5_count_4 rfl (lv_at hl 1 rfl) ?_
    refine lv_bipush hx hb dX5_count_5 kc_bipush_17 ?_
    refine lv_icmp_le (tgt := 20) hx hb dX5_count_7 (by decide) (fun c2 => ?_) (fun c2 => ?_)
    · have hF := ite_t c2 hF
      refine lv_iload_n hx hb dX5_count_20 rfl (lv_at hl 1 rfl) ?_
      refine lv_bipush hx hb dX5_count_21 kc_bipush_12 ?_
      refine lv_icmp_lt (tgt := 41) hx hb dX5_count_23 (by decide) (fun c3 => ?_) (fun c3 => ?_)
      · have hF := ite_t c3 hF
        refine lv_iload_n hx hb dX5_count_41 rfl (lv_at hl 1 rfl) ?_
        by_cases c4 : x1 = (0 : Int32)
        · have hF := ite_t c4 hF
          refine lv_tableIn (tgt := 104) hx hb dX5_count_42 (by rw [c4]; decide) (by rw [c4]; decide) (by rw [c4]; rfl) (by decide) ?_
          refine lv_aload_n hx hb dX5_count_104 rfl (lv_at hl 0 rfl) ?_
          refine va_get (D := D) (ci := 5) (v := .ref aS) (C := RX5) (T := TX5) (N := 3) hx hb hts i_X5 hown hK.1 hP 0 rfl rfl 0 (by decide) (hts _ wd_139) (fun _ h9 => h9) rfl dX5_count_105 ?_
          refine va_get (D := D) (ci := 4) (v := .ref aB) (C := RX4) (T := TX4) (N := 3) hx hb hts i_X4 hown hK.1 hP 1 rfl rfl 1 (by decide) (hts _ wd_91) (fun _ h9 => h9) rfl dX5_count_108 ?_
          refine va_get (D := D) (ci := 0) (v := .int bh) (C := RX0) (T := TX0) (N := 5) hx hb hts i_X0 hown hK.1 hP 4 rfl rfl 4 (by decide) (hts _ wd_76) (fun _ h9 => h9) rfl dX5_count_111 ?_
          cases hF
          exact xreti (Nat.le_of_ble_eq_true rfl) (Nat.le_of_ble_eq_true rfl) hx hb hr hlocks hP hS dX5_count_114
        have hF := ite_f c4 hF
        by_cases c5 : x1 = (1 : Int32)
        · have hF := ite_t c5 hF
          refine lv_tableIn (tgt := 150) hx hb dX5_count_42 (by rw [c5]; decide) (by rw [c5]; decide) (by rw [c5]; rfl) (by decide) ?_
          refine lv_aload_n hx hb dX5_count_150 rfl (lv_at hl 0 rfl) ?_
          refine va_get (D := D) (ci := 5) (v := .ref aS) (C := RX5) (T := TX5) (N := 3) hx hb hts i_X5 hown hK.1 hP 0 rfl rfl 0 (by decide) (hts _ wd_139) (fun _ h9 => h9) rfl dX5_count_151 ?_
          refine va_get (D := D) (ci := 4) (v := .ref aB) (C := RX4) (T := TX4) (N := 3) hx hb hts i_X4 hown hK.1 hP 1 rfl rfl 1 (by decide) (hts _ wd_91) (fun _ h9 => h9) rfl dX5_count_154 ?_
          refine lv_iload_n hx hb dX5_count_157 rfl (lv_at hl 1 rfl) ?_
          obtain ⟨q17, h16, hF⟩ := bd1_at hF
          refine rcall (va_runV (As := [.int x1]) (rest := []) S (K0_numberOfAll l D cI cZ cS cJ aB aF aZ aK aM bh bF bZ bK bM x1 q17 h16) (cwV 1 hts (gd_V wd_419 wd_420 wd_421 wd_25 wd_422) rfl rfl rfl hd0_numberOfAll ⟨Nat.le_of_ble_eq_true rfl, Nat.le_of_ble_eq_true rfl⟩) (rPreV hK (hP.sub (ws' := (W0 cI aB aF aZ aK aM bh bF bZ bK bM)) [4, 5, 6, 7, 8] rfl) (ci := 0) (q := (RX0, TX0, 5)) rfl rfl) rfl rfl hl.1 rfl (lv_room (Nat.le_of_ble_eq_true rfl)) dX5_count_158 ⟨(Nat.le_of_ble_eq_true rfl), (Nat.le_of_ble_eq_true rfl)⟩) ?_
          cases hF
          exact xreti (Nat.le_of_ble_eq_true rfl) (Nat.le_of_ble_eq_true rfl) hx hb hr hlocks hP hS dX5_count_161
        have hF := ite_f c5 hF
        by_cases c6 : x1 = (2 : Int32)
        · have hF := ite_t c6 hF
          refine lv_tableIn (tgt := 150) hx hb dX5_count_42 (by rw [c6]; decide) (by rw [c6]; decide) (by rw [c6]; rfl) (by decide) ?_
          refine lv_aload_n hx hb dX5_count_150 rfl (lv_at hl 0 rfl) ?_
          refine va_get (D := D) (ci := 5) (v := .ref aS) (C := RX5) (T := TX5) (N := 3) hx hb hts i_X5 hown hK.1 hP 0 rfl rfl 0 (by decide) (hts _ wd_139) (fun _ h9 => h9) rfl dX5_count_151 ?_
          refine va_get (D := D) (ci := 4) (v := .ref aB) (C := RX4) (T := TX4) (N := 3) hx hb hts i_X4 hown hK.1 hP 1 rfl rfl 1 (by decide) (hts _ wd_91) (fun _ h9 => h9) rfl dX5_count_154 ?_
          refine lv_iload_n hx hb dX5_count_157 rfl (lv_at hl 1 rfl) ?_
          obtain ⟨q17, h16, hF⟩ := bd1_at hF
          refine rcall (va_runV (As := [.int x1]) (rest := []) S (K0_numberOfAll l D cI cZ cS cJ aB aF aZ aK aM bh bF bZ bK bM x1 q17 h16) (cwV 1 hts (gd_V wd_419 wd_420 wd_421 wd_25 wd_422) rfl rfl rfl hd0_numberOfAll ⟨Nat.le_of_ble_eq_true rfl, Nat.le_of_ble_eq_true rfl⟩) (rPreV hK (hP.sub (ws' := (W0 cI aB aF aZ aK aM bh bF bZ bK bM)) [4, 5, 6, 7, 8] rfl) (ci := 0) (q := (RX0, TX0, 5)) rfl rfl) rfl rfl hl.1 rfl (lv_room (Nat.le_of_ble_eq_true rfl)) dX5_count_158 ⟨(Nat.le_of_ble_eq_true rfl), (Nat.le_of_ble_eq_true rfl)⟩) ?_
          cases hF
          exact xreti (Nat.le_of_ble_eq_true rfl) (Nat.le_of_ble_eq_true rfl) hx hb hr hlocks hP hS dX5_count_161
        have hF := ite_f c6 hF
        by_cases c7 : x1 = (3 : Int32)
        · have hF := ite_t c7 hF
          refine lv_tableIn (tgt := 150) hx hb dX5_count_42 (by rw [c7]; decide) (by rw [c7]; decide) (by rw [c7]; rfl) (by decide) ?_
          refine lv_aload_n hx hb dX5_count_150 rfl (lv_at hl 0 rfl) ?_
          refine va_get (D := D) (ci := 5) (v := .ref aS) (C := RX5) (T := TX5) (N := 3) hx hb hts i_X5 hown hK.1 hP 0 rfl rfl 0 (by decide) (hts _ wd_139) (fun _ h9 => h9) rfl dX5_count_151 ?_
          refine va_get (D := D) (ci := 4) (v := .ref aB) (C := RX4) (T := TX4) (N := 3) hx hb hts i_X4 hown hK.1 hP 1 rfl rfl 1 (by decide) (hts _ wd_91) (fun _ h9 => h9) rfl dX5_count_154 ?_
          refine lv_iload_n hx hb dX5_count_157 rfl (lv_at hl 1 rfl) ?_
          obtain ⟨q17, h16, hF⟩ := bd1_at hF
          refine rcall (va_runV (As := [.int x1]) (rest := []) S (K0_numberOfAll l D cI cZ cS cJ aB aF aZ aK aM bh bF bZ bK bM x1 q17 h16) (cwV 1 hts (gd_V wd_419 wd_420 wd_421 wd_25 wd_422) rfl rfl rfl hd0_numberOfAll ⟨Nat.le_of_ble_eq_true rfl, Nat.le_of_ble_eq_true rfl⟩) (rPreV hK (hP.sub (ws' := (W0 cI aB aF aZ aK aM bh bF bZ bK bM)) [4, 5, 6, 7, 8] rfl) (ci := 0) (q := (RX0, TX0, 5)) rfl rfl) rfl rfl hl.1 rfl (lv_room (Nat.le_of_ble_eq_true rfl)) dX5_count_158 ⟨(Nat.le_of_ble_eq_true rfl), (Nat.le_of_ble_eq_true rfl)⟩) ?_
          cases hF
          exact xreti (Nat.le_of_ble_eq_true rfl) (Nat.le_of_ble_eq_true rfl) hx hb hr hlocks hP hS dX5_count_161
        have hF := ite_f c7 hF
        by_cases c8 : x1 = (4 : Int32)
        · have hF := ite_t c8 hF
          refine lv_tableIn (tgt := 150) hx hb dX5_count_42 (by rw [c8]; decide) (by rw [c8]; decide) (by rw [c8]; rfl) (by decide) ?_
          refine lv_aload_n hx hb dX5_count_150 rfl (lv_at hl 0 rfl) ?_
          refine va_get (D := D) (ci := 5) (v := .ref aS) (C := RX5) (T := TX5) (N := 3) hx hb hts i_X5 hown hK.1 hP 0 rfl rfl 0 (by decide) (hts _ wd_139) (fun _ h9 => h9) rfl dX5_count_151 ?_
          refine va_get (D := D) (ci := 4) (v := .ref aB) (C := RX4) (T := TX4) (N := 3) hx hb hts i_X4 hown hK.1 hP 1 rfl rfl 1 (by decide) (hts _ wd_91) (fun _ h9 => h9) rfl dX5_count_154 ?_
          refine lv_iload_n hx hb dX5_count_157 rfl (lv_at hl 1 rfl) ?_
          obtain ⟨q17, h16, hF⟩ := bd1_at hF
          refine rcall (va_runV (As := [.int x1]) (rest := []) S (K0_numberOfAll l D cI cZ cS cJ aB aF aZ aK aM bh bF bZ bK bM x1 q17 h16) (cwV 1 hts (gd_V wd_419 wd_420 wd_421 wd_25 wd_422) rfl rfl rfl hd0_numberOfAll ⟨Nat.le_of_ble_eq_true rfl, Nat.le_of_ble_eq_true rfl⟩) (rPreV hK (hP.sub (ws' := (W0 cI aB aF aZ aK aM bh bF bZ bK bM)) [4, 5, 6, 7, 8] rfl) (ci := 0) (q := (RX0, TX0, 5)) rfl rfl) rfl rfl hl.1 rfl (lv_room (Nat.le_of_ble_eq_true rfl)) dX5_count_158 ⟨(Nat.le_of_ble_eq_true rfl), (Nat.le_of_ble_eq_true rfl)⟩) ?_
          cases hF
          exact xreti (Nat.le_of_ble_eq_true rfl) (Nat.le_of_ble_eq_true rfl) hx hb hr hlocks hP hS dX5_count_161
        have hF := ite_f c8 hF
        by_cases c9 : x1 = (5 : Int32)
        · have hF := ite_t c9 hF
          refine lv_tableIn (tgt := 150) hx hb dX5_count_42 (by rw [c9]; decide) (by rw [c9]; decide) (by rw [c9]; rfl) (by decide) ?_
          refine lv_aload_n hx hb dX5_count_150 rfl (lv_at hl 0 rfl) ?_
          refine va_get (D := D) (ci := 5) (v := .ref aS) (C := RX5) (T := TX5) (N := 3) hx hb hts i_X5 hown hK.1 hP 0 rfl rfl 0 (by decide) (hts _ wd_139) (fun _ h9 => h9) rfl dX5_count_151 ?_
          refine va_get (D := D) (ci := 4) (v := .ref aB) (C := RX4) (T := TX4) (N := 3) hx hb hts i_X4 hown hK.1 hP 1 rfl rfl 1 (by decide) (hts _ wd_91) (fun _ h9 => h9) rfl dX5_count_154 ?_
          refine lv_iload_n hx hb dX5_count_157 rfl (lv_at hl 1 rfl) ?_
          obtain ⟨q17, h16, hF⟩ := bd1_at hF
          refine rcall (va_runV (As := [.int x1]) (rest := []) S (K0_numberOfAll l D cI cZ cS cJ aB aF aZ aK aM bh bF bZ bK bM x1 q17 h16) (cwV 1 hts (gd_V wd_419 wd_420 wd_421 wd_25 wd_422) rfl rfl rfl hd0_numberOfAll ⟨Nat.le_of_ble_eq_true rfl, Nat.le_of_ble_eq_true rfl⟩) (rPreV hK (hP.sub (ws' := (W0 cI aB aF aZ aK aM bh bF bZ bK bM)) [4, 5, 6, 7, 8] rfl) (ci := 0) (q := (RX0, TX0, 5)) rfl rfl) rfl rfl hl.1 rfl (lv_room (Nat.le_of_ble_eq_true rfl)) dX5_count_158 ⟨(Nat.le_of_ble_eq_true rfl), (Nat.le_of_ble_eq_true rfl)⟩) ?_
          cases hF
          exact xreti (Nat.le_of_ble_eq_true rfl) (Nat.le_of_ble_eq_true rfl) hx hb hr hlocks hP hS dX5_count_161
        have hF := ite_f c9 hF
        by_cases c10 : x1 = (6 : Int32)
        · have hF := ite_t c10 hF
          refine lv_tableIn (tgt := 150) hx hb dX5_count_42 (by rw [c10]; decide) (by rw [c10]; decide) (by rw [c10]; rfl) (by decide) ?_
          refine lv_aload_n hx hb dX5_count_150 rfl (lv_at hl 0 rfl) ?_
          refine va_get (D := D) (ci := 5) (v := .ref aS) (C := RX5) (T := TX5) (N := 3) hx hb hts i_X5 hown hK.1 hP 0 rfl rfl 0 (by decide) (hts _ wd_139) (fun _ h9 => h9) rfl dX5_count_151 ?_
          refine va_get (D := D) (ci := 4) (v := .ref aB) (C := RX4) (T := TX4) (N := 3) hx hb hts i_X4 hown hK.1 hP 1 rfl rfl 1 (by decide) (hts _ wd_91) (fun _ h9 => h9) rfl dX5_count_154 ?_
          refine lv_iload_n hx hb dX5_count_157 rfl (lv_at hl 1 rfl) ?_
          obtain ⟨q17, h16, hF⟩ := bd1_at hF
          refine rcall (va_runV (As := [.int x1]) (rest := []) S (K0_numberOfAll l D cI cZ cS cJ aB aF aZ aK aM bh bF bZ bK bM x1 q17 h16) (cwV 1 hts (gd_V wd_419 wd_420 wd_421 wd_25 wd_422) rfl rfl rfl hd0_numberOfAll ⟨Nat.le_of_ble_eq_true rfl, Nat.le_of_ble_eq_true rfl⟩) (rPreV hK (hP.sub (ws' := (W0 cI aB aF aZ aK aM bh bF bZ bK bM)) [4, 5, 6, 7, 8] rfl) (ci := 0) (q := (RX0, TX0, 5)) rfl rfl) rfl rfl hl.1 rfl (lv_room (Nat.le_of_ble_eq_true rfl)) dX5_count_158 ⟨(Nat.le_of_ble_eq_true rfl), (Nat.le_of_ble_eq_true rfl)⟩) ?_
          cases hF
          exact xreti (Nat.le_of_ble_eq_true rfl) (Nat.le_of_ble_eq_true rfl) hx hb hr hlocks hP hS dX5_count_161
        have hF := ite_f c10 hF
        by_cases c11 : x1 = (7 : Int32)
        · have hF := ite_t c11 hF
          refine lv_tableIn (tgt := 150) hx hb dX5_count_42 (by rw [c11]; decide) (by rw [c11]; decide) (by rw [c11]; rfl) (by decide) ?_
          refine lv_aload_n hx hb dX5_count_150 rfl (lv_at hl 0 rfl) ?_
          refine va_get (D := D) (ci := 5) (v := .ref aS) (C := RX5) (T := TX5) (N := 3) hx hb hts i_X5 hown hK.1 hP 0 rfl rfl 0 (by decide) (hts _ wd_139) (fun _ h9 => h9) rfl dX5_count_151 ?_
          refine va_get (D := D) (ci := 4) (v := .ref aB) (C := RX4) (T := TX4) (N := 3) hx hb hts i_X4 hown hK.1 hP 1 rfl rfl 1 (by decide) (hts _ wd_91) (fun _ h9 => h9) rfl dX5_count_154 ?_
          refine lv_iload_n hx hb dX5_count_157 rfl (lv_at hl 1 rfl) ?_
          obtain ⟨q17, h16, hF⟩ := bd1_at hF
          refine rcall (va_runV (As := [.int x1]) (rest := []) S (K0_numberOfAll l D cI cZ cS cJ aB aF aZ aK aM bh bF bZ bK bM x1 q17 h16) (cwV 1 hts (gd_V wd_419 wd_420 wd_421 wd_25 wd_422) rfl rfl rfl hd0_numberOfAll ⟨Nat.le_of_ble_eq_true rfl, Nat.le_of_ble_eq_true rfl⟩) (rPreV hK (hP.sub (ws' := (W0 cI aB aF aZ aK aM bh bF bZ bK bM)) [4, 5, 6, 7, 8] rfl) (ci := 0) (q := (RX0, TX0, 5)) rfl rfl) rfl rfl hl.1 rfl (lv_room (Nat.le_of_ble_eq_true rfl)) dX5_count_158 ⟨(Nat.le_of_ble_eq_true rfl), (Nat.le_of_ble_eq_true rfl)⟩) ?_
          cases hF
          exact xreti (Nat.le_of_ble_eq_true rfl) (Nat.le_of_ble_eq_true rfl) hx hb hr hlocks hP hS dX5_count_161
        have hF := ite_f c11 hF
        by_cases c12 : x1 = (8 : Int32)
        · have hF := ite_t c12 hF
          refine lv_tableIn (tgt := 115) hx hb dX5_count_42 (by rw [c12]; decide) (by rw [c12]; decide) (by rw [c12]; rfl) (by decide) ?_
          refine lv_aload_n hx hb dX5_count_115 rfl (lv_at hl 0 rfl) ?_
          refine va_get (D := D) (ci := 5) (v := .ref aS) (C := RX5) (T := TX5) (N := 3) hx hb hts i_X5 hown hK.1 hP 0 rfl rfl 0 (by decide) (hts _ wd_139) (fun _ h9 => h9) rfl dX5_count_116 ?_
          refine va_get (D := D) (ci := 4) (v := .int sr) (C := RX4) (T := TX4) (N := 3) hx hb hts i_X4 hown hK.1 hP 1 rfl rfl 2 (by decide) (hts _ wd_93) (fun _ h9 => h9) rfl dX5_count_119 ?_
          cases hF
          exact xreti (Nat.le_of_ble_eq_true rfl) (Nat.le_of_ble_eq_true rfl) hx hb hr hlocks hP hS dX5_count_122
        have hF := ite_f c12 hF
        by_cases c13 : x1 = (9 : Int32)
        · have hF := ite_t c13 hF
          refine lv_tableIn (tgt := 123) hx hb dX5_count_42 (by rw [c13]; decide) (by rw [c13]; decide) (by rw [c13]; rfl) (by decide) ?_
          refine lv_aload_n hx hb dX5_count_123 rfl (lv_at hl 0 rfl) ?_
          refine va_get (D := D) (ci := 5) (v := .ref aS) (C := RX5) (T := TX5) (N := 3) hx hb hts i_X5 hown hK.1 hP 0 rfl rfl 0 (by decide) (hts _ wd_139) (fun _ h9 => h9) rfl dX5_count_124 ?_
          refine va_get (D := D) (ci := 4) (v := .ref aL) (C := RX4) (T := TX4) (N := 3) hx hb hts i_X4 hown hK.1 hP 1 rfl rfl 0 (by decide) (hts _ wd_89) (fun _ h9 => h9) rfl dX5_count_127 ?_
          refine va_get (D := D) (ci := 2) (v := .int wm) (C := RX2) (T := TX2) (N := 2) hx hb hts i_X2 hown hK.1 hP 2 rfl rfl 1 (by decide) (hts _ wd_57) (fun _ h9 => h9) rfl dX5_count_130 ?_
          cases hF
          exact xreti (Nat.le_of_ble_eq_true rfl) (Nat.le_of_ble_eq_true rfl) hx hb hr hlocks hP hS dX5_count_133
        have hF := ite_f c13 hF
        by_cases c14 : x1 = (10 : Int32)
        · have hF := ite_t c14 hF
          refine lv_tableIn (tgt := 134) hx hb dX5_count_42 (by rw [c14]; decide) (by rw [c14]; decide) (by rw [c14]; rfl) (by decide) ?_
          refine lv_aload_n hx hb dX5_count_134 rfl (lv_at hl 0 rfl) ?_
          refine va_get (D := D) (ci := 5) (v := .ref aY) (C := RX5) (T := TX5) (N := 3) hx hb hts i_X5 hown hK.1 hP 0 rfl rfl 1 (by decide) (hts _ wd_140) (fun _ h9 => h9) rfl dX5_count_135 ?_
          refine va_get (D := D) (ci := 1) (v := .int kd) (C := RX1) (T := TX1) (N := 4) hx hb hts i_X1 hown hK.1 hP 11 rfl rfl 3 (by decide) (hts _ wd_114) (fun _ h9 => h9) rfl dX5_count_138 ?_
          cases hF
          exact xreti (Nat.le_of_ble_eq_true rfl) (Nat.le_of_ble_eq_true rfl) hx hb hr hlocks hP hS dX5_count_141
        have hF := ite_f c14 hF
        by_cases c15 : x1 = (11 : Int32)
        · have hF := ite_t c15 hF
          refine lv_tableIn (tgt := 142) hx hb dX5_count_42 (by rw [c15]; decide) (by rw [c15]; decide) (by rw [c15]; rfl) (by decide) ?_
          refine lv_aload_n hx hb dX5_count_142 rfl (lv_at hl 0 rfl) ?_
          refine va_get (D := D) (ci := 5) (v := .ref aO) (C := RX5) (T := TX5) (N := 3) hx hb hts i_X5 hown hK.1 hP 0 rfl rfl 2 (by decide) (hts _ wd_141) (fun _ h9 => h9) rfl dX5_count_143 ?_
          refine va_get (D := D) (ci := 3) (v := .int ol) (C := RX3) (T := TX3) (N := 2) hx hb hts i_X3 hown hK.1 hP 9 rfl rfl 1 (by decide) (hts _ wd_133) (fun _ h9 => h9) rfl dX5_count_146 ?_
          cases hF
          exact xreti (Nat.le_of_ble_eq_true rfl) (Nat.le_of_ble_eq_true rfl) hx hb hr hlocks hP hS dX5_count_149
        have hF := ite_f c15 hF
        refine lv_tableOut (tgt := 150) hx hb dX5_count_42 (by have q0 := ne_ti c4 (show (0 : Int32).toInt = 0 by decide); have q1 := ne_ti c5 (show (1 : Int32).toInt = 1 by decide); have q2 := ne_ti c6 (show (2 : Int32).toInt = 2 by decide); have q3 := ne_ti c7 (show (3 : Int32).toInt = 3 by decide); have q4 := ne_ti c8 (show (4 : Int32).toInt = 4 by decide); have q5 := ne_ti c9 (show (5 : Int32).toInt = 5 by decide); have q6 := ne_ti c10 (show (6 : Int32).toInt = 6 by decide); have q7 := ne_ti c11 (show (7 : Int32).toInt = 7 by decide); have q8 := ne_ti c12 (show (8 : Int32).toInt = 8 by decide); have q9 := ne_ti c13 (show (9 : Int32).toInt = 9 by decide); have q10 := ne_ti c14 (show (10 : Int32).toInt = 10 by decide); have q11 := ne_ti c15 (show (11 : Int32).toInt = 11 by decide); omega) (by decide) ?_
        refine lv_aload_n hx hb dX5_count_150 rfl (lv_at hl 0 rfl) ?_
        refine va_get (D := D) (ci := 5) (v := .ref aS) (C := RX5) (T := TX5) (N := 3) hx hb hts i_X5 hown hK.1 hP 0 rfl rfl 0 (by decide) (hts _ wd_139) (fun _ h9 => h9) rfl dX5_count_151 ?_
        refine va_get (D := D) (ci := 4) (v := .ref aB) (C := RX4) (T := TX4) (N := 3) hx hb hts i_X4 hown hK.1 hP 1 rfl rfl 1 (by decide) (hts _ wd_91) (fun _ h9 => h9) rfl dX5_count_154 ?_
        refine lv_iload_n hx hb dX5_count_157 rfl (lv_at hl 1 rfl) ?_
        obtain ⟨q17, h16, hF⟩ := bd1_at hF
        refine rcall (va_runV (As := [.int x1]) (rest := []) S (K0_numberOfAll l D cI cZ cS cJ aB aF aZ aK aM bh bF bZ bK bM x1 q17 h16) (cwV 1 hts (gd_V wd_419 wd_420 wd_421 wd_25 wd_422) rfl rfl rfl hd0_numberOfAll ⟨Nat.le_of_ble_eq_true rfl, Nat.le_of_ble_eq_true rfl⟩) (rPreV hK (hP.sub (ws' := (W0 cI aB aF aZ aK aM bh bF bZ bK bM)) [4, 5, 6, 7, 8] rfl) (ci := 0) (q := (RX0, TX0, 5)) rfl rfl) rfl rfl hl.1 rfl (lv_room (Nat.le_of_ble_eq_true rfl)) dX5_count_158 ⟨(Nat.le_of_ble_eq_true rfl), (Nat.le_of_ble_eq_true rfl)⟩) ?_
        cases hF
        exact xreti (Nat.le_of_ble_eq_true rfl) (Nat.le_of_ble_eq_true rfl) hx hb hr hlocks hP hS dX5_count_161
      · have hF := ite_f c3 hF
        refine lv_aload_n hx hb dX5_count_26 rfl (lv_at hl 0 rfl) ?_
        refine va_get (D := D) (ci := 5) (v := .ref aS) (C := RX5) (T := TX5) (N := 3) hx hb hts i_X5 hown hK.1 hP 0 rfl rfl 0 (by decide) (hts _ wd_139) (fun _ h9 => h9) rfl dX5_count_27 ?_
        refine va_get (D := D) (ci := 4) (v := .ref aL) (C := RX4) (T := TX4) (N := 3) hx hb hts i_X4 hown hK.1 hP 1 rfl rfl 0 (by decide) (hts _ wd_89) (fun _ h9 => h9) rfl dX5_count_30 ?_
        refine lv_iload_n hx hb dX5_count_33 rfl (lv_at hl 1 rfl) ?_
        refine lv_bipush hx hb dX5_count_34 kc_bipush_12 ?_
        refine lv_isub hx hb dX5_count_36 ?_
        obtain ⟨q19, h18, hF⟩ := bd1_at hF
        refine rcall (va_runV (As := [.int (x1 - (12 : Int32))]) (rest := []) S (K2_weightAt l D cI cZ cS cJ aL aW wm wW (x1 - (12 : Int32)) q19 h18) (cwV 1 hts (gd_V wd_418 wd_336 wd_337 wd_24 wd_338) rfl rfl rfl hd2_weightAt ⟨Nat.le_of_ble_eq_true rfl, Nat.le_of_ble_eq_true rfl⟩) (rPreV hK (hP.sub (ws' := (W2 cI aL aW wm wW)) [2, 3] rfl) (ci := 2) (q := (RX2, TX2, 2)) rfl rfl) rfl rfl hl.1 rfl (lv_room (Nat.le_of_ble_eq_true rfl)) dX5_count_37 ⟨(Nat.le_of_ble_eq_true rfl), (Nat.le_of_ble_eq_true rfl)⟩) ?_
        cases hF
        exact xreti (Nat.le_of_ble_eq_true rfl) (Nat.le_of_ble_eq_true rfl) hx hb hr hlocks hP hS dX5_count_40
    · have hF := ite_f c2 hF
      cases hF
      exact xthrow (k := 2) (text := "a bank has the numbers 0 to 17") (names := ["java/lang/RuntimeException", "java/lang/Exception"]) rfl (by decide) hx hb hfl hown (by decide +kernel) (by decide +kernel) (hts _ wd_244) (hts _ wd_32) (hX.1 (186, "a bank has the numbers 0 to 17") (by decide +kernel)) at38g at38b hts hX ot38 hZ hS (hl.1.trans hml.symm) dX5_count_10 dX5_count_13 dX5_count_14 dX5_count_16 dX5_count_19 hout (Nat.le_of_ble_eq_true rfl) (Nat.le_of_ble_eq_true rfl) (Nat.le_of_ble_eq_true rfl) (Nat.le_of_ble_eq_true rfl) hlocks hP (Nat.le_of_ble_eq_true rfl) (Nat.le_of_ble_eq_true rfl)
abbrev rm5_ranked : Room := { frames := 6, cells := 1, slots := 6, locals := 91 }
theorem hd5_ranked : yX5_ranked.cls = RX5 ∧ yX5_ranked.cls ≠ "java/lang/invoke/MethodHandle" ∧ yX5_ranked.cls ≠ "java/lang/invoke/VarHandle" ∧ (parseMethodDescriptor yX5_ranked.desc).map (fun d => d.parameters.length) = some 1 := by decide +kernel
set_option maxHeartbeats 4000000 in
set_option maxRecDepth 100000 in
theorem K5_ranked (l : Launch) (hfl : l.stackTraces = false) (D : va_G) (cI cZ cS cJ : ClassId) (aC aS aL aW aB aF aZ aK aM aO aT aY aV aU aR : Nat) (kQ : Nat → SA) (sr : Int32) (wm : Int32) (wW : Nat → Int32) (bh : Int32) (bF : Nat → Int32) (bZ : Nat → Int32) (bK : Nat → Int32) (bM : Nat → Int32) (ol : Int32) (oS : Nat → Int32) (kd : Int32) (kf : Nat → Int32) (kA : Nat → SA) (kV : Nat → SV) (kP : Nat → SV) (x1 : Int32) (k : Nat) (r : Int32) (hF : f5_ranked bh bF bZ x1 = some (k, r)) : vx_Met l yX5_ranked wsX5_ranked rm5_ranked (xP D (gT cI cZ cS cJ) ((W5x cI aC aS aL aW aB aF aZ aK aM aO aT aY sr wm wW bh bF bZ bK bM ol oS) ++ (HB cI cZ cS aY aV aU aR kd kf kA kV kQ kP)) [.ref aC, .int x1]) (xQ D k (some (.int r)) (uA ((W5x cI aC aS aL aW aB aF aZ aK aM aO aT aY sr wm wW bh bF bZ bK bM ol oS) ++ (HB cI cZ cS aY aV aU aR kd kf kA kV kQ kP))) ((W5x cI aC aS aL aW aB aF aZ aK aM aO aT aY sr wm wW bh bF bZ bK bM ol oS) ++ (HB cI cZ cS aY aV aU aR kd kf kA kV kQ kP))) (xX D k (uA ((W5x cI aC aS aL aW aB aF aZ aK aM aO aT aY sr wm wW bh bF bZ bK bM ol oS) ++ (HB cI cZ cS aY aV aU aR kd kf kA kV kQ kP))) ((W5x cI aC aS aL aW aB aF aZ aK aM aO aT aY sr wm wW bh bF bZ bK bM ol oS) ++ (HB cI cZ cS aY aV aU aR kd kf kA kV kQ kP))) 1 6 (uA ((W5x cI aC aS aL aW aB aF aZ aK aM aO aT aY sr wm wW bh bF bZ bK bM ol oS) ++ (HB cI cZ cS aY aV aU aR kd kf kA kV kQ kP))) := by
  refine vx_ofW (cc := cX5_ranked) (maxL := 2) (ret := (some .int)) (by decide) rfl ?_
  intro p e s m args below meth c s₁ B hml hout hv
  obtain ⟨ha, hK, hP, hD0, hX, hZ⟩ := hv
  have hx := B.exec
  have hb := B.bytes
  have hr := B.returns
  have hlocks := B.notSynchronized
  have hts : ∀ w ∈ lw_all, w.before args s = true := fun w h => atoms_spec (ws := wsX5_ranked) B.pre w (List.mem_cons_of_mem _ h)
  have hown : s.vm.findClass RX5 = some m.cls := findClass_of_methodNamed B.named
  have S : CallFix p m c cX5_ranked 2 s args lw_all RX5 := ⟨hx, hb, hml, hown, hts⟩
  have hD := hD0.own
  generalize uA ((W5x cI aC aS aL aW aB aF aZ aK aM aO aT aY sr wm wW bh bF bZ bK bM ol oS) ++ (HB cI cZ cS aY aV aU aR kd kf kA kV kQ kP)) = A0 at hD hZ ⊢
  have hS : va_S A0 s.heap s.heap [] := va_S.rf
  have hl := lv_entry ([.ref aC, .int x1] : List Value) (n := 2) (Nat.le_of_ble_eq_true rfl)
  refine W.eq (g2 := F0 m 0 ((lg_sl ([.ref aC, .int x1] : List Value) ++ List.replicate (2 - (lg_sl ([.ref aC, .int x1] : List Value)).length) Slot.unset).toArray) []) (by rw [ha]; exact lg_entry_eq _ _ _) ?_
  generalize (lg_sl ([.ref aC, .int x1] : List Value) ++ List.replicate (2 - (lg_sl ([.ref aC, .int x1] : List Value)).length) Slot.unset).toArray = ls at hl ⊢
  have hl : lv_has ls 2 [(0, .ref aC), (1, .int x1)] := hl
  rw [f5_ranked] at hF
  show xW p l e wsX5_ranked rm5_ranked s m args below meth c D k (some (.int r)) A0 ((W5x cI aC aS aL aW aB aF aZ aK aM aO aT aY sr wm wW bh bF bZ bK bM ol oS) ++ (HB cI cZ cS aY aV aU aR kd kf kA kV kQ kP)) 1 6 s.heap [] 0 0 (F0 m 0 ls [])
  refine lv_iload_n hx hb dX5_ranked_0 rfl (lv_at hl 1 rfl) ?_
  refine lv_if_ge (tgt := 14) hx hb dX5_ranked_1 (by decide) (fun c1 => ?_) (fun c1 => ?_)
  · have hF := ite_t c1 hF
    refine lv_aload_n hx hb dX5_ranked_14 rfl (lv_at hl 0 rfl) ?_
    refine va_get (D := D) (ci := 5) (v := .ref aS) (C := RX5) (T := TX5) (N := 3) hx hb hts i_X5 hown hK.1 hP 0 rfl rfl 0 (by decide) (hts _ wd_139) (fun _ h9 => h9) rfl dX5_ranked_15 ?_
    refine va_get (D := D) (ci := 4) (v := .ref aB) (C := RX4) (T := TX4) (N := 3) hx hb hts i_X4 hown hK.1 hP 1 rfl rfl 1 (by decide) (hts _ wd_91) (fun _ h9 => h9) rfl dX5_ranked_18 ?_
    refine lv_iload_n hx hb dX5_ranked_21 rfl (lv_at hl 1 rfl) ?_
    obtain ⟨q3, h2, hF⟩ := bd1_at hF
    refine rcall (va_runV (As := [.int x1]) (rest := []) S (K0_serialOfRank l D cI cZ cS cJ aB aF aZ aK aM bh bF bZ bK bM x1 q3 h2) (cwV 1 hts (gd_V wd_595 wd_596 wd_597 wd_25 wd_598) rfl rfl rfl hd0_serialOfRank ⟨Nat.le_of_ble_eq_true rfl, Nat.le_of_ble_eq_true rfl⟩) (rPreV hK (hP.sub (ws' := (W0 cI aB aF aZ aK aM bh bF bZ bK bM)) [4, 5, 6, 7, 8] rfl) (ci := 0) (q := (RX0, TX0, 5)) rfl rfl) rfl rfl hl.1 rfl (lv_room (Nat.le_of_ble_eq_true rfl)) dX5_ranked_22 ⟨(Nat.le_of_ble_eq_true rfl), (Nat.le_of_ble_eq_true rfl)⟩) ?_
    cases hF
    exact xreti (Nat.le_of_ble_eq_true rfl) (Nat.le_of_ble_eq_true rfl) hx hb hr hlocks hP hS dX5_ranked_25
  · have hF := ite_f c1 hF
    cases hF
    exact xthrow (k := 2) (text := "a rank is not negative") (names := ["java/lang/RuntimeException", "java/lang/Exception"]) rfl (by decide) hx hb hfl hown (by decide +kernel) (by decide +kernel) (hts _ wd_244) (hts _ wd_32) (hX.1 (197, "a rank is not negative") (by decide +kernel)) at38g at38b hts hX ot38 hZ hS (hl.1.trans hml.symm) dX5_ranked_4 dX5_ranked_7 dX5_ranked_8 dX5_ranked_10 dX5_ranked_13 hout (Nat.le_of_ble_eq_true rfl) (Nat.le_of_ble_eq_true rfl) (Nat.le_of_ble_eq_true rfl) (Nat.le_of_ble_eq_true rfl) hlocks hP (Nat.le_of_ble_eq_true rfl) (Nat.le_of_ble_eq_true rfl)
abbrev rm5_missed : Room := { frames := 7, cells := 2, slots := 12, locals := 102 }
theorem hd5_missed : yX5_missed.cls = RX5 ∧ yX5_missed.cls ≠ "java/lang/invoke/MethodHandle" ∧ yX5_missed.cls ≠ "java/lang/invoke/VarHandle" ∧ (parseMethodDescriptor yX5_missed.desc).map (fun d => d.parameters.length) = some 2 := by decide +kernel
set_option maxHeartbeats 4000000 in
set_option maxRecDepth 100000 in
theorem K5_missed (l : Launch) (hfl : l.stackTraces = false) (D : va_G) (cI cZ cS cJ : ClassId) (aC aS aL aW aB aF aZ aK aM aO aT aY aV aU aR : Nat) (kQ : Nat → SA) (sr : Int32) (wm : Int32) (wW : Nat → Int32) (bh : Int32) (bF : Nat → Int32) (bZ : Nat → Int32) (bK : Nat → Int32) (bM : Nat → Int32) (ol : Int32) (oS : Nat → Int32) (kd : Int32) (kf : Nat → Int32) (kA : Nat → SA) (kV : Nat → SV) (kP : Nat → SV) (x1 : Int32) (x2 : Int32) (k : Nat) (r : Int32) (hF : f5_missed wm wW x1 x2 = some (k, r)) : vx_Met l yX5_missed wsX5_missed rm5_missed (xP D (gT cI cZ cS cJ) ((W5x cI aC aS aL aW aB aF aZ aK aM aO aT aY sr wm wW bh bF bZ bK bM ol oS) ++ (HB cI cZ cS aY aV aU aR kd kf kA kV kQ kP)) [.ref aC, .int x1, .int x2]) (xQ D k (some (.int r)) (uA ((W5x cI aC aS aL aW aB aF aZ aK aM aO aT aY sr wm wW bh bF bZ bK bM ol oS) ++ (HB cI cZ cS aY aV aU aR kd kf kA kV kQ kP))) ((W5x cI aC aS aL aW aB aF aZ aK aM aO aT aY sr wm wW bh bF bZ bK bM ol oS) ++ (HB cI cZ cS aY aV aU aR kd kf kA kV kQ kP))) (xX D k (uA ((W5x cI aC aS aL aW aB aF aZ aK aM aO aT aY sr wm wW bh bF bZ bK bM ol oS) ++ (HB cI cZ cS aY aV aU aR kd kf kA kV kQ kP))) ((W5x cI aC aS aL aW aB aF aZ aK aM aO aT aY sr wm wW bh bF bZ bK bM ol oS) ++ (HB cI cZ cS aY aV aU aR kd kf kA kV kQ kP))) 2 12 (uA ((W5x cI aC aS aL aW aB aF aZ aK aM aO aT aY sr wm wW bh bF bZ bK bM ol oS) ++ (HB cI cZ cS aY aV aU aR kd kf kA kV kQ kP))) := by
  refine vx_ofW (cc := cX5_missed) (maxL := 3) (ret := (some .int)) (by decide) rfl ?_
  intro p e s m args below meth c s₁ B hml hout hv
  obtain ⟨ha, hK, hP, hD0, hX, hZ⟩ := hv
  have hx := B.exec
  have hb := B.bytes
  have hr := B.returns
  have hlocks := B.notSynchronized
  have hts : ∀ w ∈ lw_all, w.before args s = true := fun w h => atoms_spec (ws := wsX5_missed) B.pre w (List.mem_cons_of_mem _ h)
  have hown : s.vm.findClass RX5 = some m.cls := findClass_of_methodNamed B.named
  have S : CallFix p m c cX5_missed 3 s args lw_all RX5 := ⟨hx, hb, hml, hown, hts⟩
  have hD := hD0.own
  generalize uA ((W5x cI aC aS aL aW aB aF aZ aK aM aO aT aY sr wm wW bh bF bZ bK bM ol oS) ++ (HB cI cZ cS aY aV aU aR kd kf kA kV kQ kP)) = A0 at hD hZ ⊢
  have hS : va_S A0 s.heap s.heap [] := va_S.rf
  have hl := lv_entry ([.ref aC, .int x1, .int x2] : List Value) (n := 3) (Nat.le_of_ble_eq_true rfl)
  refine W.eq (g2 := F0 m 0 ((lg_sl ([.ref aC, .int x1, .int x2] : List Value) ++ List.replicate (3 - (lg_sl ([.ref aC, .int x1, .int x2] : List Value)).length) Slot.unset).toArray) []) (by rw [ha]; exact lg_entry_eq _ _ _) ?_
  generalize (lg_sl ([.ref aC, .int x1, .int x2] : List Value) ++ List.replicate (3 - (lg_sl ([.ref aC, .int x1, .int x2] : List Value)).length) Slot.unset).toArray = ls at hl ⊢
  have hl : lv_has ls 3 [(0, .ref aC), (1, .int x1), (2, .int x2)] := hl
  rw [f5_missed] at hF
  show xW p l e wsX5_missed rm5_missed s m args below meth c D k (some (.int r)) A0 ((W5x cI aC aS aL aW aB aF aZ aK aM aO aT aY sr wm wW bh bF bZ bK bM ol oS) ++ (HB cI cZ cS aY aV aU aR kd kf kA kV kQ kP)) 2 12 s.heap [] 0 0 (F0 m 0 ls [])
  refine lv_iload_n hx hb dX5_missed_0 rfl (lv_at hl 1 rfl) ?_
  obtain ⟨k2, h1, hF⟩ := bd1_at hF
  refine xcall (ws' := ((W5x cI aC aS aL aW aB aF aZ aK aM aO aT aY sr wm wW bh bF bZ bK bM ol oS) ++ (HB cI cZ cS aY aV aU aR kd kf kA kV kQ kP))) (vx_runS (As := [.int x1]) (rest := []) S (K5_throwIfNoSerial l hfl D cI cZ cS cJ x1 k2 h1) (va_cwS 1 hts (gd_S wd_347 wd_348 wd_22 wd_349) rfl rfl rfl hdn5_throwIfNoSerial ⟨Nat.le_of_ble_eq_true rfl, Nat.le_of_ble_eq_true rfl⟩) (xPreS hK hX hZ hS hD [] (wc := ([] : va_W)) rfl (hP.sub (ws' := ([] : va_W)) [] rfl) (hD.sub (ws' := ([] : va_W)) [] (by decide) rfl)) rfl rfl hl.1 rfl (lv_room (Nat.le_of_ble_eq_true rfl)) dX5_missed_1 ⟨(Nat.le_of_ble_eq_true rfl), (Nat.le_of_ble_eq_true rfl)⟩) hS hP hD [] rfl rfl rfl rfl (fun ce q9 H locs hk hP hD hS hce hcv hcl => ?_) (fun H locs hk hP hD hS => ?_)
  · have hF := ite_f hk hF
    cases hF
    exact xout hk hout hlocks hce hcv hcl hP hS (Nat.le_of_ble_eq_true rfl) (Nat.le_of_ble_eq_true rfl)
  · have hF := ite_t hk hF
    refine lv_iload_n hx hb dX5_missed_4 rfl (lv_at hl 2 rfl) ?_
    obtain ⟨k4, h3, hF⟩ := bd1_at hF
    refine xcall (ws' := ((W5x cI aC aS aL aW aB aF aZ aK aM aO aT aY sr wm wW bh bF bZ bK bM ol oS) ++ (HB cI cZ cS aY aV aU aR kd kf kA kV kQ kP))) (vx_runS (As := [.int x2]) (rest := []) S (K5_throwIfNoSlipKind l hfl D cI cZ cS cJ x2 k4 h3) (va_cwS 1 hts (gd_S wd_611 wd_612 wd_22 wd_613) rfl rfl rfl hdn5_throwIfNoSlipKind ⟨Nat.le_of_ble_eq_true rfl, Nat.le_of_ble_eq_true rfl⟩) (xPreS hK hX hZ hS hD [] (wc := ([] : va_W)) rfl (hP.sub (ws' := ([] : va_W)) [] rfl) (hD.sub (ws' := ([] : va_W)) [] (by decide) rfl)) rfl rfl hl.1 rfl (lv_room (Nat.le_of_ble_eq_true rfl)) dX5_missed_5 ⟨(Nat.le_of_ble_eq_true rfl), (Nat.le_of_ble_eq_true rfl)⟩) hS hP hD [] rfl rfl rfl rfl (fun ce q9 H locs hk hP hD hS hce hcv hcl => ?_) (fun H locs hk hP hD hS => ?_)
    · have hF := ite_f hk hF
      cases hF
      exact xout hk hout hlocks hce hcv hcl hP hS (Nat.le_of_ble_eq_true rfl) (Nat.le_of_ble_eq_true rfl)
    · have hF := ite_t hk hF
      refine lv_iload_n hx hb dX5_missed_8 rfl (lv_at hl 2 rfl) ?_
      by_cases c5 : x2 = (0 : Int32)
      · have hF := ite_t c5 hF
        refine lv_lookup (tgt := 36) (off := 27) hx hb dX5_missed_9 (by decide) (by rw [c5]; decide) (by decide) ?_
        refine lv_aload_n hx hb dX5_missed_36 rfl (lv_at hl 0 rfl) ?_
        refine va_get (D := D) (ci := 5) (v := .ref aS) (C := RX5) (T := TX5) (N := 3) hx hb hts i_X5 hown hK.1 hP 0 rfl rfl 0 (by decide) (hts _ wd_139) (fun _ h9 => h9) rfl dX5_missed_37 ?_
        refine va_get (D := D) (ci := 4) (v := .ref aL) (C := RX4) (T := TX4) (N := 3) hx hb hts i_X4 hown hK.1 hP 1 rfl rfl 0 (by decide) (hts _ wd_89) (fun _ h9 => h9) rfl dX5_missed_40 ?_
        refine lv_iload_n hx hb dX5_missed_43 rfl (lv_at hl 1 rfl) ?_
        obtain ⟨q7, h6, hF⟩ := bd1_at hF
        refine rcall (va_runV (As := [.int x1]) (rest := []) S (K2_hiddenMisreadings l D cI cZ cS cJ aL aW wm wW x1 q7 h6) (cwV 1 hts (gd_V wd_615 wd_616 wd_617 wd_24 wd_618) rfl rfl rfl hd2_hiddenMisreadings ⟨Nat.le_of_ble_eq_true rfl, Nat.le_of_ble_eq_true rfl⟩) (rPreV hK (hP.sub (ws' := (W2 cI aL aW wm wW)) [2, 3] rfl) (ci := 2) (q := (RX2, TX2, 2)) rfl rfl) rfl rfl hl.1 rfl (lv_room (Nat.le_of_ble_eq_true rfl)) dX5_missed_44 ⟨(Nat.le_of_ble_eq_true rfl), (Nat.le_of_ble_eq_true rfl)⟩) ?_
        cases hF
        exact xreti (Nat.le_of_ble_eq_true rfl) (Nat.le_of_ble_eq_true rfl) hx hb hr hlocks hP hS dX5_missed_47
      have hF := ite_f c5 hF
      by_cases c8 : x2 = (1 : Int32)
      · have hF := ite_t c8 hF
        refine lv_lookup (tgt := 48) (off := 39) hx hb dX5_missed_9 (by decide) (by rw [c8]; decide) (by decide) ?_
        refine lv_aload_n hx hb dX5_missed_48 rfl (lv_at hl 0 rfl) ?_
        refine va_get (D := D) (ci := 5) (v := .ref aS) (C := RX5) (T := TX5) (N := 3) hx hb hts i_X5 hown hK.1 hP 0 rfl rfl 0 (by decide) (hts _ wd_139) (fun _ h9 => h9) rfl dX5_missed_49 ?_
        refine va_get (D := D) (ci := 4) (v := .ref aL) (C := RX4) (T := TX4) (N := 3) hx hb hts i_X4 hown hK.1 hP 1 rfl rfl 0 (by decide) (hts _ wd_89) (fun _ h9 => h9) rfl dX5_missed_52 ?_
        refine lv_iload_n hx hb dX5_missed_55 rfl (lv_at hl 1 rfl) ?_
        obtain ⟨q10, h9, hF⟩ := bd1_at hF
        refine rcall (va_runV (As := [.int x1]) (rest := []) S (K2_hiddenSwaps l D cI cZ cS cJ aL aW wm wW x1 q10 h9) (cwV 1 hts (gd_V wd_630 wd_631 wd_632 wd_24 wd_633) rfl rfl rfl hd2_hiddenSwaps ⟨Nat.le_of_ble_eq_true rfl, Nat.le_of_ble_eq_true rfl⟩) (rPreV hK (hP.sub (ws' := (W2 cI aL aW wm wW)) [2, 3] rfl) (ci := 2) (q := (RX2, TX2, 2)) rfl rfl) rfl rfl hl.1 rfl (lv_room (Nat.le_of_ble_eq_true rfl)) dX5_missed_56 ⟨(Nat.le_of_ble_eq_true rfl), (Nat.le_of_ble_eq_true rfl)⟩) ?_
        cases hF
        exact xreti (Nat.le_of_ble_eq_true rfl) (Nat.le_of_ble_eq_true rfl) hx hb hr hlocks hP hS dX5_missed_59
      have hF := ite_f c8 hF
      refine lv_lookup (tgt := 60) (off := 51) hx hb dX5_missed_9 (by decide) (by show Op.lookupswitch.offset [(0, 27), (1, 39)] (51) _ = _; rw [lv_osw c5 (show (0 : Int32).toInt = 0 by decide), lv_osw c8 (show (1 : Int32).toInt = 1 by decide)]; rfl) (by decide) ?_
      refine lv_iconst hx hb dX5_missed_60 kc_iconst_0 ?_
      cases hF
      exact xreti (Nat.le_of_ble_eq_true rfl) (Nat.le_of_ble_eq_true rfl) hx hb hr hlocks hP hS dX5_missed_61
abbrev rm5_weak : Room := { frames := 6, cells := 1, slots := 6, locals := 82 }
theorem hd5_weak : yX5_weak.cls = RX5 ∧ yX5_weak.cls ≠ "java/lang/invoke/MethodHandle" ∧ yX5_weak.cls ≠ "java/lang/invoke/VarHandle" ∧ (parseMethodDescriptor yX5_weak.desc).map (fun d => d.parameters.length) = some 3 := by decide +kernel
set_option maxHeartbeats 4000000 in
set_option maxRecDepth 100000 in
theorem K5_weak (l : Launch) (hfl : l.stackTraces = false) (D : va_G) (cI cZ cS cJ : ClassId) (aC aS aL aW aB aF aZ aK aM aO aT aY aV aU aR : Nat) (kQ : Nat → SA) (sr : Int32) (wm : Int32) (wW : Nat → Int32) (bh : Int32) (bF : Nat → Int32) (bZ : Nat → Int32) (bK : Nat → Int32) (bM : Nat → Int32) (ol : Int32) (oS : Nat → Int32) (kd : Int32) (kf : Nat → Int32) (kA : Nat → SA) (kV : Nat → SV) (kP : Nat → SV) (x1 : Int32) (x2 : Int32) (x3 : Int32) (k : Nat) (r : Int32) (hF : f5_weak wm wW x1 x2 x3 = some (k, r)) : vx_Met l yX5_weak wsX5_weak rm5_weak (xP D (gT cI cZ cS cJ) ((W5x cI aC aS aL aW aB aF aZ aK aM aO aT aY sr wm wW bh bF bZ bK bM ol oS) ++ (HB cI cZ cS aY aV aU aR kd kf kA kV kQ kP)) [.ref aC, .int x1, .int x2, .int x3]) (xQ D k (some (.int r)) (uA ((W5x cI aC aS aL aW aB aF aZ aK aM aO aT aY sr wm wW bh bF bZ bK bM ol oS) ++ (HB cI cZ cS aY aV aU aR kd kf kA kV kQ kP))) ((W5x cI aC aS aL aW aB aF aZ aK aM aO aT aY sr wm wW bh bF bZ bK bM ol oS) ++ (HB cI cZ cS aY aV aU aR kd kf kA kV kQ kP))) (xX D k (uA ((W5x cI aC aS aL aW aB aF aZ aK aM aO aT aY sr wm wW bh bF bZ bK bM ol oS) ++ (HB cI cZ cS aY aV aU aR kd kf kA kV kQ kP))) ((W5x cI aC aS aL aW aB aF aZ aK aM aO aT aY sr wm wW bh bF bZ bK bM ol oS) ++ (HB cI cZ cS aY aV aU aR kd kf kA kV kQ kP))) 1 6 (uA ((W5x cI aC aS aL aW aB aF aZ aK aM aO aT aY sr wm wW bh bF bZ bK bM ol oS) ++ (HB cI cZ cS aY aV aU aR kd kf kA kV kQ kP))) := by
  refine vx_ofW (cc := cX5_weak) (maxL := 5) (ret := (some .int)) (by decide) rfl ?_
  intro p e s m args below meth c s₁ B hml hout hv
  obtain ⟨ha, hK, hP, hD0, hX, hZ⟩ := hv
  have hx := B.exec
  have hb := B.bytes
  have hr := B.returns
  have hlocks := B.notSynchronized
  have hts : ∀ w ∈ lw_all, w.before args s = true := fun w h => atoms_spec (ws := wsX5_weak) B.pre w (List.mem_cons_of_mem _ h)
  have hown : s.vm.findClass RX5 = some m.cls := findClass_of_methodNamed B.named
  have S : CallFix p m c cX5_weak 5 s args lw_all RX5 := ⟨hx, hb, hml, hown, hts⟩
  have hD := hD0.own
  generalize uA ((W5x cI aC aS aL aW aB aF aZ aK aM aO aT aY sr wm wW bh bF bZ bK bM ol oS) ++ (HB cI cZ cS aY aV aU aR kd kf kA kV kQ kP)) = A0 at hD hZ ⊢
  have hS : va_S A0 s.heap s.heap [] := va_S.rf
  have hl := lv_entry ([.ref aC, .int x1, .int x2, .int x3] : List Value) (n := 5) (Nat.le_of_ble_eq_true rfl)
  refine W.eq (g2 := F0 m 0 ((lg_sl ([.ref aC, .int x1, .int x2, .int x3] : List Value) ++ List.replicate (5 - (lg_sl ([.ref aC, .int x1, .int x2, .int x3] : List Value)).length) Slot.unset).toArray) []) (by rw [ha]; exact lg_entry_eq _ _ _) ?_
  generalize (lg_sl ([.ref aC, .int x1, .int x2, .int x3] : List Value) ++ List.replicate (5 - (lg_sl ([.ref aC, .int x1, .int x2, .int x3] : List Value)).length) Slot.unset).toArray = ls at hl ⊢
  have hl : lv_has ls 5 [(0, .ref aC), (1, .int x1), (2, .int x2), (3, .int x3)] := hl
  rw [f5_weak] at hF
  show xW p l e wsX5_weak rm5_weak s m args below meth c D k (some (.int r)) A0 ((W5x cI aC aS aL aW aB aF aZ aK aM aO aT aY sr wm wW bh bF bZ bK bM ol oS) ++ (HB cI cZ cS aY aV aU aR kd kf kA kV kQ kP)) 1 6 s.heap [] 0 0 (F0 m 0 ls [])
  refine lv_iload_n hx hb dX5_weak_0 rfl (lv_at hl 1 rfl) ?_
  refine lv_if_lt (tgt := 12) hx hb dX5_weak_1 (by decide) (fun c1 => ?_) (fun c1 => ?_)
  · have hF := ite_t c1 hF
    cases hF
    exact xthrow (k := 1) (text := "there is no such position") (names := ["java/lang/RuntimeException", "java/lang/Exception"]) rfl (by decide) hx hb hfl hown (by decide +kernel) (by decide +kernel) (hts _ wd_176) (hts _ wd_31) (hX.1 (214, "there is no such position") (by decide +kernel)) at167g at167b hts hX ot167 hZ hS (hl.1.trans hml.symm) dX5_weak_12 dX5_weak_15 dX5_weak_16 dX5_weak_18 dX5_weak_21 hout (Nat.le_of_ble_eq_true rfl) (Nat.le_of_ble_eq_true rfl) (Nat.le_of_ble_eq_true rfl) (Nat.le_of_ble_eq_true rfl) hlocks hP (Nat.le_of_ble_eq_true rfl) (Nat.le_of_ble_eq_true rfl)
  · have hF := ite_f c1 hF
    refine lv_iload_n hx hb dX5_weak_4 rfl (lv_at hl 1 rfl) ?_
    refine lv_iload_n hx hb dX5_weak_5 rfl (lv_at hl 2 rfl) ?_
    obtain ⟨q3, h2, hF⟩ := bd1_at hF
    refine rcall (va_runS (As := [.int x2]) (rest := [.int x1]) S (K5_positionsOf l D cI cZ cS cJ x2 q3 h2) (va_cwS 1 hts (gd_S wd_638 wd_639 wd_22 wd_640) rfl rfl rfl hdn5_positionsOf ⟨Nat.le_of_ble_eq_true rfl, Nat.le_of_ble_eq_true rfl⟩) (rPreS hK (hP.sub (ws' := ([] : va_W)) [] rfl)) rfl rfl hl.1 rfl (lv_room (Nat.le_of_ble_eq_true rfl)) dX5_weak_6 ⟨(Nat.le_of_ble_eq_true rfl), (Nat.le_of_ble_eq_true rfl)⟩) ?_
    refine lv_icmp_lt (tgt := 22) hx hb dX5_weak_9 (by decide) (fun c4 => ?_) (fun c4 => ?_)
    · have hF := ite_t c4 hF
      refine lv_iload_n hx hb dX5_weak_22 rfl (lv_at hl 2 rfl) ?_
      refine lv_if_lt (tgt := 40) hx hb dX5_weak_23 (by decide) (fun c5 => ?_) (fun c5 => ?_)
      · have hF := ite_t c5 hF
        cases hF
        exact xthrow (k := 2) (text := "kind and way are 0 or 1") (names := ["java/lang/RuntimeException", "java/lang/Exception"]) rfl (by decide) hx hb hfl hown (by decide +kernel) (by decide +kernel) (hts _ wd_244) (hts _ wd_32) (hX.1 (216, "kind and way are 0 or 1") (by decide +kernel)) at38g at38b hts hX ot38 hZ hS (hl.1.trans hml.symm) dX5_weak_40 dX5_weak_43 dX5_weak_44 dX5_weak_46 dX5_weak_49 hout (Nat.le_of_ble_eq_true rfl) (Nat.le_of_ble_eq_true rfl) (Nat.le_of_ble_eq_true rfl) (Nat.le_of_ble_eq_true rfl) hlocks hP (Nat.le_of_ble_eq_true rfl) (Nat.le_of_ble_eq_true rfl)
      · have hF := ite_f c5 hF
        refine lv_iload_n hx hb dX5_weak_26 rfl (lv_at hl 2 rfl) ?_
        refine lv_iconst hx hb dX5_weak_27 kc_iconst_1 ?_
        refine lv_icmp_gt (tgt := 40) hx hb dX5_weak_28 (by decide) (fun c6 => ?_) (fun c6 => ?_)
        · have hF := ite_t c6 hF
          cases hF
          exact xthrow (k := 2) (text := "kind and way are 0 or 1") (names := ["java/lang/RuntimeException", "java/lang/Exception"]) rfl (by decide) hx hb hfl hown (by decide +kernel) (by decide +kernel) (hts _ wd_244) (hts _ wd_32) (hX.1 (216, "kind and way are 0 or 1") (by decide +kernel)) at38g at38b hts hX ot38 hZ hS (hl.1.trans hml.symm) dX5_weak_40 dX5_weak_43 dX5_weak_44 dX5_weak_46 dX5_weak_49 hout (Nat.le_of_ble_eq_true rfl) (Nat.le_of_ble_eq_true rfl) (Nat.le_of_ble_eq_true rfl) (Nat.le_of_ble_eq_true rfl) hlocks hP (Nat.le_of_ble_eq_true rfl) (Nat.le_of_ble_eq_true rfl)
        · have hF := ite_f c6 hF
          refine lv_iload_n hx hb dX5_weak_31 rfl (lv_at hl 3 rfl) ?_
          refine lv_if_lt (tgt := 40) hx hb dX5_weak_32 (by decide) (fun c7 => ?_) (fun c7 => ?_)
          · have hF := ite_t c7 hF
            cases hF
            exact xthrow (k := 2) (text := "kind and way are 0 or 1") (names := ["java/lang/RuntimeException", "java/lang/Exception"]) rfl (by decide) hx hb hfl hown (by decide +kernel) (by decide +kernel) (hts _ wd_244) (hts _ wd_32) (hX.1 (216, "kind and way are 0 or 1") (by decide +kernel)) at38g at38b hts hX ot38 hZ hS (hl.1.trans hml.symm) dX5_weak_40 dX5_weak_43 dX5_weak_44 dX5_weak_46 dX5_weak_49 hout (Nat.le_of_ble_eq_true rfl) (Nat.le_of_ble_eq_true rfl) (Nat.le_of_ble_eq_true rfl) (Nat.le_of_ble_eq_true rfl) hlocks hP (Nat.le_of_ble_eq_true rfl) (Nat.le_of_ble_eq_true rfl)
          · have hF := ite_f c7 hF
            refine lv_iload_n hx hb dX5_weak_35 rfl (lv_at hl 3 rfl) ?_
            refine lv_iconst hx hb dX5_weak_36 kc_iconst_1 ?_
            refine lv_icmp_le (tgt := 50) hx hb dX5_weak_37 (by decide) (fun c8 => ?_) (fun c8 => ?_)
            · have hF := ite_t c8 hF
              refine lv_aload_n hx hb dX5_weak_50 rfl (lv_at hl 0 rfl) ?_
              refine va_get (D := D) (ci := 5) (v := .ref aS) (C := RX5) (T := TX5) (N := 3) hx hb hts i_X5 hown hK.1 hP 0 rfl rfl 0 (by decide) (hts _ wd_139) (fun _ h9 => h9) rfl dX5_weak_51 ?_
              refine va_get (D := D) (ci := 4) (v := .ref aL) (C := RX4) (T := TX4) (N := 3) hx hb hts i_X4 hown hK.1 hP 1 rfl rfl 0 (by decide) (hts _ wd_89) (fun _ h9 => h9) rfl dX5_weak_54 ?_
              refine lv_iload_n hx hb dX5_weak_57 rfl (lv_at hl 1 rfl) ?_
              refine lv_iload_n hx hb dX5_weak_58 rfl (lv_at hl 2 rfl) ?_
              obtain ⟨q10, h9, hF⟩ := bd1_at hF
              refine rcall (va_runV (As := [.int x1, .int x2]) (rest := []) S (K2_factorAt l D cI cZ cS cJ aL aW wm wW x1 x2 q10 h9) (cwV 2 hts (gd_V wd_642 wd_623 wd_624 wd_24 wd_625) rfl rfl rfl hd2_factorAt ⟨Nat.le_of_ble_eq_true rfl, Nat.le_of_ble_eq_true rfl⟩) (rPreV hK (hP.sub (ws' := (W2 cI aL aW wm wW)) [2, 3] rfl) (ci := 2) (q := (RX2, TX2, 2)) rfl rfl) rfl rfl hl.1 rfl (lv_room (Nat.le_of_ble_eq_true rfl)) dX5_weak_59 ⟨(Nat.le_of_ble_eq_true rfl), (Nat.le_of_ble_eq_true rfl)⟩) ?_
              refine lv_istore (lv' := [(4, .int q10), (0, .ref aC), (1, .int x1), (2, .int x2), (3, .int x3)]) hx hb dX5_weak_62 hl (by decide) rfl (fun ls hl => ?_)
              refine lv_iload_n hx hb dX5_weak_64 rfl (lv_at hl 4 rfl) ?_
              refine lv_if_ne (tgt := 83) hx hb dX5_weak_65 (by decide) (fun c11 => ?_) (fun c11 => ?_)
              · have hF := ite_f c11 hF
                refine lv_aload_n hx hb dX5_weak_83 rfl (lv_at hl 1 rfl) ?_
                refine va_get (D := D) (ci := 5) (v := .ref aS) (C := RX5) (T := TX5) (N := 3) hx hb hts i_X5 hown hK.1 hP 0 rfl rfl 0 (by decide) (hts _ wd_139) (fun _ h9 => h9) rfl dX5_weak_84 ?_
                refine va_get (D := D) (ci := 4) (v := .ref aL) (C := RX4) (T := TX4) (N := 3) hx hb hts i_X4 hown hK.1 hP 1 rfl rfl 0 (by decide) (hts _ wd_89) (fun _ h9 => h9) rfl dX5_weak_87 ?_
                refine lv_iload hx hb dX5_weak_90 (lv_at hl 0 rfl) ?_
                obtain ⟨q13, h12, hF⟩ := bd1_at hF
                refine rcall (va_runV (As := [.int q10]) (rest := []) S (K2_hiddenPairs l D cI cZ cS cJ aL aW wm wW q10 q13 h12) (cwV 1 hts (gd_V wd_647 wd_648 wd_649 wd_24 wd_650) rfl rfl rfl hd2_hiddenPairs ⟨Nat.le_of_ble_eq_true rfl, Nat.le_of_ble_eq_true rfl⟩) (rPreV hK (hP.sub (ws' := (W2 cI aL aW wm wW)) [2, 3] rfl) (ci := 2) (q := (RX2, TX2, 2)) rfl rfl) rfl rfl hl.1 rfl (lv_room (Nat.le_of_ble_eq_true rfl)) dX5_weak_92 ⟨(Nat.le_of_ble_eq_true rfl), (Nat.le_of_ble_eq_true rfl)⟩) ?_
                cases hF
                exact xreti (Nat.le_of_ble_eq_true rfl) (Nat.le_of_ble_eq_true rfl) hx hb hr hlocks hP hS dX5_weak_95
              · have hF := ite_t c11 hF
                refine lv_aload_n hx hb dX5_weak_68 rfl (lv_at hl 1 rfl) ?_
                refine va_get (D := D) (ci := 5) (v := .ref aS) (C := RX5) (T := TX5) (N := 3) hx hb hts i_X5 hown hK.1 hP 0 rfl rfl 0 (by decide) (hts _ wd_139) (fun _ h9 => h9) rfl dX5_weak_69 ?_
                refine va_get (D := D) (ci := 4) (v := .ref aL) (C := RX4) (T := TX4) (N := 3) hx hb hts i_X4 hown hK.1 hP 1 rfl rfl 0 (by decide) (hts _ wd_89) (fun _ h9 => h9) rfl dX5_weak_72 ?_
                refine lv_iload hx hb dX5_weak_75 (lv_at hl 0 rfl) ?_
                obtain ⟨q15, h14, hF⟩ := bd1_at hF
                refine rcall (va_runV (As := [.int q10]) (rest := []) S (K2_hiddenPairsTried l D cI cZ cS cJ aL aW wm wW q10 q15 h14) (cwV 1 hts (gd_V wd_643 wd_644 wd_645 wd_24 wd_646) rfl rfl rfl hd2_hiddenPairsTried ⟨Nat.le_of_ble_eq_true rfl, Nat.le_of_ble_eq_true rfl⟩) (rPreV hK (hP.sub (ws' := (W2 cI aL aW wm wW)) [2, 3] rfl) (ci := 2) (q := (RX2, TX2, 2)) rfl rfl) rfl rfl hl.1 rfl (lv_room (Nat.le_of_ble_eq_true rfl)) dX5_weak_77 ⟨(Nat.le_of_ble_eq_true rfl), (Nat.le_of_ble_eq_true rfl)⟩) ?_
                refine lv_goto (tgt := 95) hx hb dX5_weak_80 (by decide) ?_
                cases hF
                exact xreti (Nat.le_of_ble_eq_true rfl) (Nat.le_of_ble_eq_true rfl) hx hb hr hlocks hP hS dX5_weak_95
            · have hF := ite_f c8 hF
              cases hF
              exact xthrow (k := 2) (text := "kind and way are 0 or 1") (names := ["java/lang/RuntimeException", "java/lang/Exception"]) rfl (by decide) hx hb hfl hown (by decide +kernel) (by decide +kernel) (hts _ wd_244) (hts _ wd_32) (hX.1 (216, "kind and way are 0 or 1") (by decide +kernel)) at38g at38b hts hX ot38 hZ hS (hl.1.trans hml.symm) dX5_weak_40 dX5_weak_43 dX5_weak_44 dX5_weak_46 dX5_weak_49 hout (Nat.le_of_ble_eq_true rfl) (Nat.le_of_ble_eq_true rfl) (Nat.le_of_ble_eq_true rfl) (Nat.le_of_ble_eq_true rfl) hlocks hP (Nat.le_of_ble_eq_true rfl) (Nat.le_of_ble_eq_true rfl)
    · have hF := ite_f c4 hF
      cases hF
      exact xthrow (k := 1) (text := "there is no such position") (names := ["java/lang/RuntimeException", "java/lang/Exception"]) rfl (by decide) hx hb hfl hown (by decide +kernel) (by decide +kernel) (hts _ wd_176) (hts _ wd_31) (hX.1 (214, "there is no such position") (by decide +kernel)) at167g at167b hts hX ot167 hZ hS (hl.1.trans hml.symm) dX5_weak_12 dX5_weak_15 dX5_weak_16 dX5_weak_18 dX5_weak_21 hout (Nat.le_of_ble_eq_true rfl) (Nat.le_of_ble_eq_true rfl) (Nat.le_of_ble_eq_true rfl) (Nat.le_of_ble_eq_true rfl) hlocks hP (Nat.le_of_ble_eq_true rfl) (Nat.le_of_ble_eq_true rfl)
abbrev rm5_finds : Room := { frames := 7, cells := 1, slots := 6, locals := 102 }
theorem hd5_finds : yX5_finds.cls = RX5 ∧ yX5_finds.cls ≠ "java/lang/invoke/MethodHandle" ∧ yX5_finds.cls ≠ "java/lang/invoke/VarHandle" ∧ (parseMethodDescriptor yX5_finds.desc).map (fun d => d.parameters.length) = some 1 := by decide +kernel
set_option maxHeartbeats 4000000 in
set_option maxRecDepth 100000 in
theorem K5_finds (l : Launch) (hfl : l.stackTraces = false) (D : va_G) (cI cZ cS cJ : ClassId) (aC aS aL aW aB aF aZ aK aM aO aT aY aV aU aR : Nat) (kQ : Nat → SA) (sr : Int32) (wm : Int32) (wW : Nat → Int32) (bh : Int32) (bF : Nat → Int32) (bZ : Nat → Int32) (bK : Nat → Int32) (bM : Nat → Int32) (ol : Int32) (oS : Nat → Int32) (kd : Int32) (kf : Nat → Int32) (kA : Nat → SA) (kV : Nat → SV) (kP : Nat → SV) (x1 : Int32) (k : Nat) (r : Int32) (hF : f5_finds wm wW x1 = some (k, r)) : vx_Met l yX5_finds wsX5_finds rm5_finds (xP D (gT cI cZ cS cJ) ((W5x cI aC aS aL aW aB aF aZ aK aM aO aT aY sr wm wW bh bF bZ bK bM ol oS) ++ (HB cI cZ cS aY aV aU aR kd kf kA kV kQ kP)) [.ref aC, .int x1]) (xQ D k (some (.int r)) (uA ((W5x cI aC aS aL aW aB aF aZ aK aM aO aT aY sr wm wW bh bF bZ bK bM ol oS) ++ (HB cI cZ cS aY aV aU aR kd kf kA kV kQ kP))) ((W5x cI aC aS aL aW aB aF aZ aK aM aO aT aY sr wm wW bh bF bZ bK bM ol oS) ++ (HB cI cZ cS aY aV aU aR kd kf kA kV kQ kP))) (xX D k (uA ((W5x cI aC aS aL aW aB aF aZ aK aM aO aT aY sr wm wW bh bF bZ bK bM ol oS) ++ (HB cI cZ cS aY aV aU aR kd kf kA kV kQ kP))) ((W5x cI aC aS aL aW aB aF aZ aK aM aO aT aY sr wm wW bh bF bZ bK bM ol oS) ++ (HB cI cZ cS aY aV aU aR kd kf kA kV kQ kP))) 1 6 (uA ((W5x cI aC aS aL aW aB aF aZ aK aM aO aT aY sr wm wW bh bF bZ bK bM ol oS) ++ (HB cI cZ cS aY aV aU aR kd kf kA kV kQ kP))) := by
  refine vx_ofW (cc := cX5_finds) (maxL := 2) (ret := (some .boolean)) (by decide) rfl ?_
  intro p e s m args below meth c s₁ B hml hout hv
  obtain ⟨ha, hK, hP, hD0, hX, hZ⟩ := hv
  have hx := B.exec
  have hb := B.bytes
  have hr := B.returns
  have hlocks := B.notSynchronized
  have hts : ∀ w ∈ lw_all, w.before args s = true := fun w h => atoms_spec (ws := wsX5_finds) B.pre w (List.mem_cons_of_mem _ h)
  have hown : s.vm.findClass RX5 = some m.cls := findClass_of_methodNamed B.named
  have S : CallFix p m c cX5_finds 2 s args lw_all RX5 := ⟨hx, hb, hml, hown, hts⟩
  have hD := hD0.own
  generalize uA ((W5x cI aC aS aL aW aB aF aZ aK aM aO aT aY sr wm wW bh bF bZ bK bM ol oS) ++ (HB cI cZ cS aY aV aU aR kd kf kA kV kQ kP)) = A0 at hD hZ ⊢
  have hS : va_S A0 s.heap s.heap [] := va_S.rf
  have hl := lv_entry ([.ref aC, .int x1] : List Value) (n := 2) (Nat.le_of_ble_eq_true rfl)
  refine W.eq (g2 := F0 m 0 ((lg_sl ([.ref aC, .int x1] : List Value) ++ List.replicate (2 - (lg_sl ([.ref aC, .int x1] : List Value)).length) Slot.unset).toArray) []) (by rw [ha]; exact lg_entry_eq _ _ _) ?_
  generalize (lg_sl ([.ref aC, .int x1] : List Value) ++ List.replicate (2 - (lg_sl ([.ref aC, .int x1] : List Value)).length) Slot.unset).toArray = ls at hl ⊢
  have hl : lv_has ls 2 [(0, .ref aC), (1, .int x1)] := hl
  rw [f5_finds] at hF
  show xW p l e wsX5_finds rm5_finds s m args below meth c D k (some (.int r)) A0 ((W5x cI aC aS aL aW aB aF aZ aK aM aO aT aY sr wm wW bh bF bZ bK bM ol oS) ++ (HB cI cZ cS aY aV aU aR kd kf kA kV kQ kP)) 1 6 s.heap [] 0 0 (F0 m 0 ls [])
  refine lv_iload_n hx hb dX5_finds_0 rfl (lv_at hl 1 rfl) ?_
  obtain ⟨k2, h1, hF⟩ := bd1_at hF
  refine xcall (ws' := ((W5x cI aC aS aL aW aB aF aZ aK aM aO aT aY sr wm wW bh bF bZ bK bM ol oS) ++ (HB cI cZ cS aY aV aU aR kd kf kA kV kQ kP))) (vx_runS (As := [.int x1]) (rest := []) S (K5_throwIfNoSlipKind l hfl D cI cZ cS cJ x1 k2 h1) (va_cwS 1 hts (gd_S wd_611 wd_612 wd_22 wd_613) rfl rfl rfl hdn5_throwIfNoSlipKind ⟨Nat.le_of_ble_eq_true rfl, Nat.le_of_ble_eq_true rfl⟩) (xPreS hK hX hZ hS hD [] (wc := ([] : va_W)) rfl (hP.sub (ws' := ([] : va_W)) [] rfl) (hD.sub (ws' := ([] : va_W)) [] (by decide) rfl)) rfl rfl hl.1 rfl (lv_room (Nat.le_of_ble_eq_true rfl)) dX5_finds_1 ⟨(Nat.le_of_ble_eq_true rfl), (Nat.le_of_ble_eq_true rfl)⟩) hS hP hD [] rfl rfl rfl rfl (fun ce q9 H locs hk hP hD hS hce hcv hcl => ?_) (fun H locs hk hP hD hS => ?_)
  · have hF := ite_f hk hF
    cases hF
    exact xout hk hout hlocks hce hcv hcl hP hS (Nat.le_of_ble_eq_true rfl) (Nat.le_of_ble_eq_true rfl)
  · have hF := ite_t hk hF
    refine lv_iload_n hx hb dX5_finds_4 rfl (lv_at hl 1 rfl) ?_
    refine lv_iconst hx hb dX5_finds_5 kc_iconst_2 ?_
    refine lv_icmp_eq (tgt := 23) hx hb dX5_finds_6 (by decide) (fun c3 => ?_) (fun c3 => ?_)
    · have hF := ite_t c3 hF
      refine lv_iconst hx hb dX5_finds_23 kc_iconst_1 ?_
      refine lv_goto (tgt := 28) hx hb dX5_finds_24 (by decide) ?_
      cases hF
      exact xretz (Nat.le_of_ble_eq_true rfl) (Nat.le_of_ble_eq_true rfl) (by decide) hx hb hr hlocks hP hS dX5_finds_28
    · have hF := ite_f c3 hF
      refine lv_aload_n hx hb dX5_finds_9 rfl (lv_at hl 0 rfl) ?_
      refine va_get (D := D) (ci := 5) (v := .ref aS) (C := RX5) (T := TX5) (N := 3) hx hb hts i_X5 hown hK.1 hP 0 rfl rfl 0 (by decide) (hts _ wd_139) (fun _ h9 => h9) rfl dX5_finds_10 ?_
      refine va_get (D := D) (ci := 4) (v := .ref aL) (C := RX4) (T := TX4) (N := 3) hx hb hts i_X4 hown hK.1 hP 1 rfl rfl 0 (by decide) (hts _ wd_89) (fun _ h9 => h9) rfl dX5_finds_13 ?_
      refine lv_iload_n hx hb dX5_finds_16 rfl (lv_at hl 1 rfl) ?_
      obtain ⟨q5, h4, hF⟩ := bd1_at hF
      refine rcall (va_runV (As := [.int x1]) (rest := []) S (K2_hidesNothing l D cI cZ cS cJ aL aW wm wW x1 q5 h4) (cwV 1 hts (gd_V wd_692 wd_693 wd_694 wd_24 wd_695) rfl rfl rfl hd2_hidesNothing ⟨Nat.le_of_ble_eq_true rfl, Nat.le_of_ble_eq_true rfl⟩) (rPreV hK (hP.sub (ws' := (W2 cI aL aW wm wW)) [2, 3] rfl) (ci := 2) (q := (RX2, TX2, 2)) rfl rfl) rfl rfl hl.1 rfl (lv_room (Nat.le_of_ble_eq_true rfl)) dX5_finds_17 ⟨(Nat.le_of_ble_eq_true rfl), (Nat.le_of_ble_eq_true rfl)⟩) ?_
      refine lv_if_eq (tgt := 27) hx hb dX5_finds_20 (by decide) (fun c6 => ?_) (fun c6 => ?_)
      · rw [if_pos c6] at hF
        refine lv_iconst hx hb dX5_finds_27 kc_iconst_0 ?_
        cases hF
        exact xretz (Nat.le_of_ble_eq_true rfl) (Nat.le_of_ble_eq_true rfl) (by decide) hx hb hr hlocks hP hS dX5_finds_28
      · rw [if_neg c6] at hF
        refine lv_iconst hx hb dX5_finds_23 kc_iconst_1 ?_
        refine lv_goto (tgt := 28) hx hb dX5_finds_24 (by decide) ?_
        cases hF
        exact xretz (Nat.le_of_ble_eq_true rfl) (Nat.le_of_ble_eq_true rfl) (by decide) hx hb hr hlocks hP hS dX5_finds_28
abbrev rm5_bestWeight : Room := { frames := 7, cells := 1, slots := 6, locals := 102 }
theorem hd5_bestWeight : yX5_bestWeight.cls = RX5 ∧ yX5_bestWeight.cls ≠ "java/lang/invoke/MethodHandle" ∧ yX5_bestWeight.cls ≠ "java/lang/invoke/VarHandle" ∧ (parseMethodDescriptor yX5_bestWeight.desc).map (fun d => d.parameters.length) = some 1 := by decide +kernel
set_option maxHeartbeats 4000000 in
set_option maxRecDepth 100000 in
theorem K5_bestWeight (l : Launch) (hfl : l.stackTraces = false) (D : va_G) (cI cZ cS cJ : ClassId) (aC aS aL aW aB aF aZ aK aM aO aT aY aV aU aR : Nat) (kQ : Nat → SA) (sr : Int32) (wm : Int32) (wW : Nat → Int32) (bh : Int32) (bF : Nat → Int32) (bZ : Nat → Int32) (bK : Nat → Int32) (bM : Nat → Int32) (ol : Int32) (oS : Nat → Int32) (kd : Int32) (kf : Nat → Int32) (kA : Nat → SA) (kV : Nat → SV) (kP : Nat → SV) (x1 : Int32) (k : Nat) (r : Int32) (hF : f5_bestWeight wm wW x1 = some (k, r)) : vx_Met l yX5_bestWeight wsX5_bestWeight rm5_bestWeight (xP D (gT cI cZ cS cJ) ((W5x cI aC aS aL aW aB aF aZ aK aM aO aT aY sr wm wW bh bF bZ bK bM ol oS) ++ (HB cI cZ cS aY aV aU aR kd kf kA kV kQ kP)) [.ref aC, .int x1]) (xQ D k (some (.int r)) (uA ((W5x cI aC aS aL aW aB aF aZ aK aM aO aT aY sr wm wW bh bF bZ bK bM ol oS) ++ (HB cI cZ cS aY aV aU aR kd kf kA kV kQ kP))) ((W5x cI aC aS aL aW aB aF aZ aK aM aO aT aY sr wm wW bh bF bZ bK bM ol oS) ++ (HB cI cZ cS aY aV aU aR kd kf kA kV kQ kP))) (xX D k (uA ((W5x cI aC aS aL aW aB aF aZ aK aM aO aT aY sr wm wW bh bF bZ bK bM ol oS) ++ (HB cI cZ cS aY aV aU aR kd kf kA kV kQ kP))) ((W5x cI aC aS aL aW aB aF aZ aK aM aO aT aY sr wm wW bh bF bZ bK bM ol oS) ++ (HB cI cZ cS aY aV aU aR kd kf kA kV kQ kP))) 1 6 (uA ((W5x cI aC aS aL aW aB aF aZ aK aM aO aT aY sr wm wW bh bF bZ bK bM ol oS) ++ (HB cI cZ cS aY aV aU aR kd kf kA kV kQ kP))) := by
  refine vx_ofW (cc := cX5_bestWeight) (maxL := 6) (ret := (some .int)) (by decide) rfl ?_
  intro p e s m args below meth c s₁ B hml hout hv
  obtain ⟨ha, hK, hP, hD0, hX, hZ⟩ := hv
  have hx := B.exec
  have hb := B.bytes
  have hr := B.returns
  have hlocks := B.notSynchronized
  have hts : ∀ w ∈ lw_all, w.before args s = true := fun w h => atoms_spec (ws := wsX5_bestWeight) B.pre w (List.mem_cons_of_mem _ h)
  have hown : s.vm.findClass RX5 = some m.cls := findClass_of_methodNamed B.named
  have S : CallFix p m c cX5_bestWeight 6 s args lw_all RX5 := ⟨hx, hb, hml, hown, hts⟩
  have hD := hD0.own
  generalize uA ((W5x cI aC aS aL aW aB aF aZ aK aM aO aT aY sr wm wW bh bF bZ bK bM ol oS) ++ (HB cI cZ cS aY aV aU aR kd kf kA kV kQ kP)) = A0 at hD hZ ⊢
  have hS : va_S A0 s.heap s.heap [] := va_S.rf
  have hl := lv_entry ([.ref aC, .int x1] : List Value) (n := 6) (Nat.le_of_ble_eq_true rfl)
  refine W.eq (g2 := F0 m 0 ((lg_sl ([.ref aC, .int x1] : List Value) ++ List.replicate (6 - (lg_sl ([.ref aC, .int x1] : List Value)).length) Slot.unset).toArray) []) (by rw [ha]; exact lg_entry_eq _ _ _) ?_
  generalize (lg_sl ([.ref aC, .int x1] : List Value) ++ List.replicate (6 - (lg_sl ([.ref aC, .int x1] : List Value)).length) Slot.unset).toArray = ls at hl ⊢
  have hl : lv_has ls 6 [(0, .ref aC), (1, .int x1)] := hl
  clear ha
  have W_22 : ∀ (x1 : Int32) (n : Nat) (x2 : Int32) (x3 : Int32) (x4 : Int32), ∀ (H : Heap) (locs : List Loc), va_P D vwCl ((W5x cI aC aS aL aW aB aF aZ aK aM aO aT aY sr wm wW bh bF bZ bK bM ol oS) ++ (HB cI cZ cS aY aV aU aR kd kf kA kV kQ kP)) H → va_D A0 ((W5x cI aC aS aL aW aB aF aZ aK aM aO aT aY sr wm wW bh bF bZ bK bM ol oS) ++ (HB cI cZ cS aY aV aU aR kd kf kA kV kQ kP)) → va_S A0 s.heap H locs → ∀ (ls : Array Slot), lv_has ls 6 [(0, .ref aC), (1, .int x1), (2, .int x2), (3, .int x3), (4, .int x4)] → f5_bestWeight_l22 wm wW x1 n x2 x3 x4 = some (k, r) → xW p l e wsX5_bestWeight rm5_bestWeight s m args below meth c D k (some (.int r)) A0 ((W5x cI aC aS aL aW aB aF aZ aK aM aO aT aY sr wm wW bh bF bZ bK bM ol oS) ++ (HB cI cZ cS aY aV aU aR kd kf kA kV kQ kP)) 1 6 H locs 1 6 (F0 m 22 ls []) := by
    intro x1  n
    induction n with
    | zero =>
      intro x2 x3 x4 H locs hP hD hS ls hl hF
      rw [f5_bestWeight_l22] at hF
      cases hF
    | succ n ih =>
      intro x2 x3 x4 H locs hP hD hS ls hl hF
      rw [f5_bestWeight_l22] at hF
      refine lv_iload hx hb dX5_bestWeight_22 (lv_at hl 4 rfl) ?_
      refine lv_bipush hx hb dX5_bestWeight_24 kc_bipush_9 ?_
      refine lv_icmp_gt (tgt := 62) hx hb dX5_bestWeight_26 (by decide) (fun c5 => ?_) (fun c5 => ?_)
      · have hF := ite_t c5 hF
        refine lv_iload_n hx hb dX5_bestWeight_62 rfl (lv_at hl 2 rfl) ?_
        cases hF
        exact xreti (Nat.le_of_ble_eq_true rfl) (Nat.le_of_ble_eq_true rfl) hx hb hr hlocks hP hS dX5_bestWeight_63
      · have hF := ite_f c5 hF
        refine lv_aload_n hx hb dX5_bestWeight_29 rfl (lv_at hl 0 rfl) ?_
        refine va_get (D := D) (ci := 5) (v := .ref aS) (C := RX5) (T := TX5) (N := 3) hx hb hts i_X5 hown hK.1 hP 0 rfl rfl 0 (by decide) (hts _ wd_139) (fun _ h9 => h9) rfl dX5_bestWeight_30 ?_
        refine va_get (D := D) (ci := 4) (v := .ref aL) (C := RX4) (T := TX4) (N := 3) hx hb hts i_X4 hown hK.1 hP 1 rfl rfl 0 (by decide) (hts _ wd_89) (fun _ h9 => h9) rfl dX5_bestWeight_33 ?_
        refine lv_iload_n hx hb dX5_bestWeight_36 rfl (lv_at hl 1 rfl) ?_
        refine lv_iload hx hb dX5_bestWeight_37 (lv_at hl 4 rfl) ?_
        obtain ⟨q7, h6, hF⟩ := bd1_at hF
        refine rcall (va_runV (As := [.int x1, .int x4]) (rest := []) S (K2_hiddenPairsWith l D cI cZ cS cJ aL aW wm wW x1 x4 q7 h6) (cwV 2 hts (gd_V wd_655 wd_656 wd_657 wd_24 wd_658) rfl rfl rfl hd2_hiddenPairsWith ⟨Nat.le_of_ble_eq_true rfl, Nat.le_of_ble_eq_true rfl⟩) (rPreV hK (hP.sub (ws' := (W2 cI aL aW wm wW)) [2, 3] rfl) (ci := 2) (q := (RX2, TX2, 2)) rfl rfl) rfl rfl hl.1 rfl (lv_room (Nat.le_of_ble_eq_true rfl)) dX5_bestWeight_39 ⟨(Nat.le_of_ble_eq_true rfl), (Nat.le_of_ble_eq_true rfl)⟩) ?_
        refine lv_istore (lv' := [(5, .int q7), (0, .ref aC), (1, .int x1), (2, .int x2), (3, .int x3), (4, .int x4)]) hx hb dX5_bestWeight_42 hl (by decide) rfl (fun ls hl => ?_)
        refine lv_iload hx hb dX5_bestWeight_44 (lv_at hl 0 rfl) ?_
        refine lv_iload_n hx hb dX5_bestWeight_46 rfl (lv_at hl 4 rfl) ?_
        refine lv_icmp_ge (tgt := 56) hx hb dX5_bestWeight_47 (by decide) (fun c8 => ?_) (fun c8 => ?_)
        · rw [if_pos c8] at hF; try rw [if_pos c8] at hF
          refine lv_iinc (v := (x4 + 1)) (lv' := [(4, .int (x4 + 1)), (5, .int q7), (0, .ref aC), (1, .int x1), (2, .int x2), (3, .int x3)]) hx hb dX5_bestWeight_56 hl (k := 5) rfl rfl (by decide) rfl (fun ls hl => ?_)
          refine lv_goto (tgt := 22) hx hb dX5_bestWeight_59 (by decide) ?_
          exact ih x2 x3 (x4 + 1) _ _ hP hD hS ls (lv_sub hl [2, 3, 4, 5, 0] rfl) hF
        · rw [if_neg c8] at hF; try rw [if_neg c8] at hF
          refine lv_iload hx hb dX5_bestWeight_50 (lv_at hl 5 rfl) ?_
          refine lv_istore_n (lv' := [(2, .int x4), (5, .int q7), (0, .ref aC), (1, .int x1), (3, .int x3), (4, .int x4)]) hx hb dX5_bestWeight_52 rfl hl (by decide) rfl (fun ls hl => ?_)
          refine lv_iload hx hb dX5_bestWeight_53 (lv_at hl 1 rfl) ?_
          refine lv_istore_n (lv' := [(3, .int q7), (2, .int x4), (5, .int q7), (0, .ref aC), (1, .int x1), (4, .int x4)]) hx hb dX5_bestWeight_55 rfl hl (by decide) rfl (fun ls hl => ?_)
          refine lv_iinc (v := (x4 + 1)) (lv' := [(4, .int (x4 + 1)), (3, .int q7), (2, .int x4), (5, .int q7), (0, .ref aC), (1, .int x1)]) hx hb dX5_bestWeight_56 hl (k := 5) rfl rfl (by decide) rfl (fun ls hl => ?_)
          refine lv_goto (tgt := 22) hx hb dX5_bestWeight_59 (by decide) ?_
          exact ih x4 q7 (x4 + 1) _ _ hP hD hS ls (lv_sub hl [4, 5, 2, 1, 0] rfl) hF
  rw [f5_bestWeight] at hF
  show xW p l e wsX5_bestWeight rm5_bestWeight s m args below meth c D k (some (.int r)) A0 ((W5x cI aC aS aL aW aB aF aZ aK aM aO aT aY sr wm wW bh bF bZ bK bM ol oS) ++ (HB cI cZ cS aY aV aU aR kd kf kA kV kQ kP)) 1 6 s.heap [] 0 0 (F0 m 0 ls [])
  refine lv_iload_n hx hb dX5_bestWeight_0 rfl (lv_at hl 1 rfl) ?_
  obtain ⟨k2, h1, hF⟩ := bd1_at hF
  refine xcall (ws' := ((W5x cI aC aS aL aW aB aF aZ aK aM aO aT aY sr wm wW bh bF bZ bK bM ol oS) ++ (HB cI cZ cS aY aV aU aR kd kf kA kV kQ kP))) (vx_runS (As := [.int x1]) (rest := []) S (K5_throwIfNoPosition l hfl D cI cZ cS cJ x1 k2 h1) (va_cwS 1 hts (gd_S wd_458 wd_459 wd_22 wd_460) rfl rfl rfl hdn5_throwIfNoPosition ⟨Nat.le_of_ble_eq_true rfl, Nat.le_of_ble_eq_true rfl⟩) (xPreS hK hX hZ hS hD [] (wc := ([] : va_W)) rfl (hP.sub (ws' := ([] : va_W)) [] rfl) (hD.sub (ws' := ([] : va_W)) [] (by decide) rfl)) rfl rfl hl.1 rfl (lv_room (Nat.le_of_ble_eq_true rfl)) dX5_bestWeight_1 ⟨(Nat.le_of_ble_eq_true rfl), (Nat.le_of_ble_eq_true rfl)⟩) hS hP hD [] rfl rfl rfl rfl (fun ce q9 H locs hk hP hD hS hce hcv hcl => ?_) (fun H locs hk hP hD hS => ?_)
  · have hF := ite_f hk hF
    cases hF
    exact xout hk hout hlocks hce hcv hcl hP hS (Nat.le_of_ble_eq_true rfl) (Nat.le_of_ble_eq_true rfl)
  · have hF := ite_t hk hF
    refine lv_iconst hx hb dX5_bestWeight_4 kc_iconst_1 ?_
    refine lv_istore_n (lv' := [(2, .int (1 : Int32)), (0, .ref aC), (1, .int x1)]) hx hb dX5_bestWeight_5 rfl hl (by decide) rfl (fun ls hl => ?_)
    refine lv_aload_n hx hb dX5_bestWeight_6 rfl (lv_at hl 1 rfl) ?_
    refine va_get (D := D) (ci := 5) (v := .ref aS) (C := RX5) (T := TX5) (N := 3) hx hb hts i_X5 hown hK.1 hP 0 rfl rfl 0 (by decide) (hts _ wd_139) (fun _ h9 => h9) rfl dX5_bestWeight_7 ?_
    refine va_get (D := D) (ci := 4) (v := .ref aL) (C := RX4) (T := TX4) (N := 3) hx hb hts i_X4 hown hK.1 hP 1 rfl rfl 0 (by decide) (hts _ wd_89) (fun _ h9 => h9) rfl dX5_bestWeight_10 ?_
    refine lv_iload_n hx hb dX5_bestWeight_13 rfl (lv_at hl 2 rfl) ?_
    refine lv_iload_n hx hb dX5_bestWeight_14 rfl (lv_at hl 0 rfl) ?_
    obtain ⟨q4, h3, hF⟩ := bd1_at hF
    refine rcall (va_runV (As := [.int x1, .int (1 : Int32)]) (rest := []) S (K2_hiddenPairsWith l D cI cZ cS cJ aL aW wm wW x1 (1 : Int32) q4 h3) (cwV 2 hts (gd_V wd_655 wd_656 wd_657 wd_24 wd_658) rfl rfl rfl hd2_hiddenPairsWith ⟨Nat.le_of_ble_eq_true rfl, Nat.le_of_ble_eq_true rfl⟩) (rPreV hK (hP.sub (ws' := (W2 cI aL aW wm wW)) [2, 3] rfl) (ci := 2) (q := (RX2, TX2, 2)) rfl rfl) rfl rfl hl.1 rfl (lv_room (Nat.le_of_ble_eq_true rfl)) dX5_bestWeight_15 ⟨(Nat.le_of_ble_eq_true rfl), (Nat.le_of_ble_eq_true rfl)⟩) ?_
    refine lv_istore_n (lv' := [(3, .int q4), (2, .int (1 : Int32)), (0, .ref aC), (1, .int x1)]) hx hb dX5_bestWeight_18 rfl hl (by decide) rfl (fun ls hl => ?_)
    refine lv_iconst hx hb dX5_bestWeight_19 kc_iconst_2 ?_
    refine lv_istore (lv' := [(4, .int (2 : Int32)), (3, .int q4), (2, .int (1 : Int32)), (0, .ref aC), (1, .int x1)]) hx hb dX5_bestWeight_20 hl (by decide) rfl (fun ls hl => ?_)
    exact W_22 x1  fu (1 : Int32) q4 (2 : Int32) _ _ hP hD hS ls (lv_sub hl [3, 4, 2, 1, 0] rfl) hF
abbrev rm5_meant : Room := { frames := 7, cells := 3, slots := 18, locals := 121 }
theorem hd5_meant : yX5_meant.cls = RX5 ∧ yX5_meant.cls ≠ "java/lang/invoke/MethodHandle" ∧ yX5_meant.cls ≠ "java/lang/invoke/VarHandle" ∧ (parseMethodDescriptor yX5_meant.desc).map (fun d => d.parameters.length) = some 3 := by decide +kernel
set_option maxHeartbeats 4000000 in
set_option maxRecDepth 100000 in
theorem K5_meant (l : Launch) (hfl : l.stackTraces = false) (D : va_G) (cI cZ cS cJ : ClassId) (aC aS aL aW aB aF aZ aK aM aO aT aY aV aU aR : Nat) (kQ : Nat → SA) (sr : Int32) (wm : Int32) (wW : Nat → Int32) (bh : Int32) (bF : Nat → Int32) (bZ : Nat → Int32) (bK : Nat → Int32) (bM : Nat → Int32) (ol : Int32) (oS : Nat → Int32) (kd : Int32) (kf : Nat → Int32) (kA : Nat → SA) (kV : Nat → SV) (kP : Nat → SV) (x1 : Int32) (x2 : Int32) (x3 : Int32) (k : Nat) (r : Int32) (hF : f5_meant wm wW bh bF bZ x1 x2 x3 = some (k, r)) : vx_Met l yX5_meant wsX5_meant rm5_meant (xP D (gT cI cZ cS cJ) ((W5x cI aC aS aL aW aB aF aZ aK aM aO aT aY sr wm wW bh bF bZ bK bM ol oS) ++ (HB cI cZ cS aY aV aU aR kd kf kA kV kQ kP)) [.ref aC, .int x1, .int x2, .int x3]) (xQ D k (some (.int r)) (uA ((W5x cI aC aS aL aW aB aF aZ aK aM aO aT aY sr wm wW bh bF bZ bK bM ol oS) ++ (HB cI cZ cS aY aV aU aR kd kf kA kV kQ kP))) ((W5x cI aC aS aL aW aB aF aZ aK aM aO aT aY sr wm wW bh bF bZ bK bM ol oS) ++ (HB cI cZ cS aY aV aU aR kd kf kA kV kQ kP))) (xX D k (uA ((W5x cI aC aS aL aW aB aF aZ aK aM aO aT aY sr wm wW bh bF bZ bK bM ol oS) ++ (HB cI cZ cS aY aV aU aR kd kf kA kV kQ kP))) ((W5x cI aC aS aL aW aB aF aZ aK aM aO aT aY sr wm wW bh bF bZ bK bM ol oS) ++ (HB cI cZ cS aY aV aU aR kd kf kA kV kQ kP))) 3 18 (uA ((W5x cI aC aS aL aW aB aF aZ aK aM aO aT aY sr wm wW bh bF bZ bK bM ol oS) ++ (HB cI cZ cS aY aV aU aR kd kf kA kV kQ kP))) := by
  refine vx_ofW (cc := cX5_meant) (maxL := 4) (ret := (some .int)) (by decide) rfl ?_
  intro p e s m args below meth c s₁ B hml hout hv
  obtain ⟨ha, hK, hP, hD0, hX, hZ⟩ := hv
  have hx := B.exec
  have hb := B.bytes
  have hr := B.returns
  have hlocks := B.notSynchronized
  have hts : ∀ w ∈ lw_all, w.before args s = true := fun w h => atoms_spec (ws := wsX5_meant) B.pre w (List.mem_cons_of_mem _ h)
  have hown : s.vm.findClass RX5 = some m.cls := findClass_of_methodNamed B.named
  have S : CallFix p m c cX5_meant 4 s args lw_all RX5 := ⟨hx, hb, hml, hown, hts⟩
  have hD := hD0.own
  generalize uA ((W5x cI aC aS aL aW aB aF aZ aK aM aO aT aY sr wm wW bh bF bZ bK bM ol oS) ++ (HB cI cZ cS aY aV aU aR kd kf kA kV kQ kP)) = A0 at hD hZ ⊢
  have hS : va_S A0 s.heap s.heap [] := va_S.rf
  have hl := lv_entry ([.ref aC, .int x1, .int x2, .int x3] : List Value) (n := 4) (Nat.le_of_ble_eq_true rfl)
  refine W.eq (g2 := F0 m 0 ((lg_sl ([.ref aC, .int x1, .int x2, .int x3] : List Value) ++ List.replicate (4 - (lg_sl ([.ref aC, .int x1, .int x2, .int x3] : List Value)).length) Slot.unset).toArray) []) (by rw [ha]; exact lg_entry_eq _ _ _) ?_
  generalize (lg_sl ([.ref aC, .int x1, .int x2, .int x3] : List Value) ++ List.replicate (4 - (lg_sl ([.ref aC, .int x1, .int x2, .int x3] : List Value)).length) Slot.unset).toArray = ls at hl ⊢
  have hl : lv_has ls 4 [(0, .ref aC), (1, .int x1), (2, .int x2), (3, .int x3)] := hl
  rw [f5_meant] at hF
  show xW p l e wsX5_meant rm5_meant s m args below meth c D k (some (.int r)) A0 ((W5x cI aC aS aL aW aB aF aZ aK aM aO aT aY sr wm wW bh bF bZ bK bM ol oS) ++ (HB cI cZ cS aY aV aU aR kd kf kA kV kQ kP)) 3 18 s.heap [] 0 0 (F0 m 0 ls [])
  refine lv_iload_n hx hb dX5_meant_0 rfl (lv_at hl 1 rfl) ?_
  obtain ⟨k2, h1, hF⟩ := bd1_at hF
  refine xcall (ws' := ((W5x cI aC aS aL aW aB aF aZ aK aM aO aT aY sr wm wW bh bF bZ bK bM ol oS) ++ (HB cI cZ cS aY aV aU aR kd kf kA kV kQ kP))) (vx_runS (As := [.int x1]) (rest := []) S (K5_throwIfNoSerial l hfl D cI cZ cS cJ x1 k2 h1) (va_cwS 1 hts (gd_S wd_347 wd_348 wd_22 wd_349) rfl rfl rfl hdn5_throwIfNoSerial ⟨Nat.le_of_ble_eq_true rfl, Nat.le_of_ble_eq_true rfl⟩) (xPreS hK hX hZ hS hD [] (wc := ([] : va_W)) rfl (hP.sub (ws' := ([] : va_W)) [] rfl) (hD.sub (ws' := ([] : va_W)) [] (by decide) rfl)) rfl rfl hl.1 rfl (lv_room (Nat.le_of_ble_eq_true rfl)) dX5_meant_1 ⟨(Nat.le_of_ble_eq_true rfl), (Nat.le_of_ble_eq_true rfl)⟩) hS hP hD [] rfl rfl rfl rfl (fun ce q9 H locs hk hP hD hS hce hcv hcl => ?_) (fun H locs hk hP hD hS => ?_)
  · have hF := ite_f hk hF
    cases hF
    exact xout hk hout hlocks hce hcv hcl hP hS (Nat.le_of_ble_eq_true rfl) (Nat.le_of_ble_eq_true rfl)
  · have hF := ite_t hk hF
    refine lv_iload_n hx hb dX5_meant_4 rfl (lv_at hl 2 rfl) ?_
    obtain ⟨k4, h3, hF⟩ := bd1_at hF
    refine xcall (ws' := ((W5x cI aC aS aL aW aB aF aZ aK aM aO aT aY sr wm wW bh bF bZ bK bM ol oS) ++ (HB cI cZ cS aY aV aU aR kd kf kA kV kQ kP))) (vx_runS (As := [.int x2]) (rest := []) S (K5_throwIfNoLetter l hfl D cI cZ cS cJ x2 k4 h3) (va_cwS 1 hts (gd_S wd_351 wd_352 wd_22 wd_353) rfl rfl rfl hdn5_throwIfNoLetter ⟨Nat.le_of_ble_eq_true rfl, Nat.le_of_ble_eq_true rfl⟩) (xPreS hK hX hZ hS hD [] (wc := ([] : va_W)) rfl (hP.sub (ws' := ([] : va_W)) [] rfl) (hD.sub (ws' := ([] : va_W)) [] (by decide) rfl)) rfl rfl hl.1 rfl (lv_room (Nat.le_of_ble_eq_true rfl)) dX5_meant_5 ⟨(Nat.le_of_ble_eq_true rfl), (Nat.le_of_ble_eq_true rfl)⟩) hS hP hD [] rfl rfl rfl rfl (fun ce q9 H locs hk hP hD hS hce hcv hcl => ?_) (fun H locs hk hP hD hS => ?_)
    · have hF := ite_f hk hF
      cases hF
      exact xout hk hout hlocks hce hcv hcl hP hS (Nat.le_of_ble_eq_true rfl) (Nat.le_of_ble_eq_true rfl)
    · have hF := ite_t hk hF
      refine lv_iload_n hx hb dX5_meant_8 rfl (lv_at hl 3 rfl) ?_
      refine lv_iconst hx hb dX5_meant_9 kc_iconst_m1 ?_
      refine lv_icmp_ge (tgt := 23) hx hb dX5_meant_10 (by decide) (fun c5 => ?_) (fun c5 => ?_)
      · have hF := ite_t c5 hF
        refine lv_aload_n hx hb dX5_meant_23 rfl (lv_at hl 0 rfl) ?_
        refine va_get (D := D) (ci := 5) (v := .ref aS) (C := RX5) (T := TX5) (N := 3) hx hb hts i_X5 hown hK.1 hP 0 rfl rfl 0 (by decide) (hts _ wd_139) (fun _ h9 => h9) rfl dX5_meant_24 ?_
        refine lv_iload_n hx hb dX5_meant_27 rfl (lv_at hl 1 rfl) ?_
        refine lv_iload_n hx hb dX5_meant_28 rfl (lv_at hl 2 rfl) ?_
        refine lv_iload_n hx hb dX5_meant_29 rfl (lv_at hl 3 rfl) ?_
        obtain ⟨q7, h6, hF⟩ := bd1_at hF
        refine rcall (va_runV (As := [.int x1, .int x2, .int x3]) (rest := []) S (K4_meantCheques l D cI cZ cS cJ aS aL aW aB aF aZ aK aM sr wm wW bh bF bZ bK bM x1 x2 x3 q7 h6) (cwV 3 hts (gd_V wd_665 wd_666 wd_667 wd_23 wd_668) rfl rfl rfl hd4_meantCheques ⟨Nat.le_of_ble_eq_true rfl, Nat.le_of_ble_eq_true rfl⟩) (rPreV hK (hP.sub (ws' := (W4 cI aS aL aW aB aF aZ aK aM sr wm wW bh bF bZ bK bM)) [1, 2, 3, 4, 5, 6, 7, 8] rfl) (ci := 4) (q := (RX4, TX4, 3)) rfl rfl) rfl rfl hl.1 rfl (lv_room (Nat.le_of_ble_eq_true rfl)) dX5_meant_30 ⟨(Nat.le_of_ble_eq_true rfl), (Nat.le_of_ble_eq_true rfl)⟩) ?_
        cases hF
        exact xreti (Nat.le_of_ble_eq_true rfl) (Nat.le_of_ble_eq_true rfl) hx hb hr hlocks hP hS dX5_meant_33
      · have hF := ite_f c5 hF
        cases hF
        exact xthrow (k := 2) (text := "a rank is NONE or not negative") (names := ["java/lang/RuntimeException", "java/lang/Exception"]) rfl (by decide) hx hb hfl hown (by decide +kernel) (by decide +kernel) (hts _ wd_244) (hts _ wd_32) (hX.1 (233, "a rank is NONE or not negative") (by decide +kernel)) at38g at38b hts hX ot38 hZ hS (hl.1.trans hml.symm) dX5_meant_13 dX5_meant_16 dX5_meant_17 dX5_meant_19 dX5_meant_22 hout (Nat.le_of_ble_eq_true rfl) (Nat.le_of_ble_eq_true rfl) (Nat.le_of_ble_eq_true rfl) (Nat.le_of_ble_eq_true rfl) hlocks hP (Nat.le_of_ble_eq_true rfl) (Nat.le_of_ble_eq_true rfl)
abbrev rm5_slip : Room := { frames := 7, cells := 3, slots := 18, locals := 102 }
theorem hd5_slip : yX5_slip.cls = RX5 ∧ yX5_slip.cls ≠ "java/lang/invoke/MethodHandle" ∧ yX5_slip.cls ≠ "java/lang/invoke/VarHandle" ∧ (parseMethodDescriptor yX5_slip.desc).map (fun d => d.parameters.length) = some 3 := by decide +kernel
set_option maxHeartbeats 4000000 in
set_option maxRecDepth 100000 in
theorem K5_slip (l : Launch) (hfl : l.stackTraces = false) (D : va_G) (cI cZ cS cJ : ClassId) (aC aS aL aW aB aF aZ aK aM aO aT aY aV aU aR : Nat) (kQ : Nat → SA) (sr : Int32) (wm : Int32) (wW : Nat → Int32) (bh : Int32) (bF : Nat → Int32) (bZ : Nat → Int32) (bK : Nat → Int32) (bM : Nat → Int32) (ol : Int32) (oS : Nat → Int32) (kd : Int32) (kf : Nat → Int32) (kA : Nat → SA) (kV : Nat → SV) (kP : Nat → SV) (x1 : Int32) (x2 : Int32) (x3 : Int32) (k : Nat) (r : Int32) (hF : f5_slip wm wW x1 x2 x3 = some (k, r)) : vx_Met l yX5_slip wsX5_slip rm5_slip (xP D (gT cI cZ cS cJ) ((W5x cI aC aS aL aW aB aF aZ aK aM aO aT aY sr wm wW bh bF bZ bK bM ol oS) ++ (HB cI cZ cS aY aV aU aR kd kf kA kV kQ kP)) [.ref aC, .int x1, .int x2, .int x3]) (xQ D k (some (.int r)) (uA ((W5x cI aC aS aL aW aB aF aZ aK aM aO aT aY sr wm wW bh bF bZ bK bM ol oS) ++ (HB cI cZ cS aY aV aU aR kd kf kA kV kQ kP))) ((W5x cI aC aS aL aW aB aF aZ aK aM aO aT aY sr wm wW bh bF bZ bK bM ol oS) ++ (HB cI cZ cS aY aV aU aR kd kf kA kV kQ kP))) (xX D k (uA ((W5x cI aC aS aL aW aB aF aZ aK aM aO aT aY sr wm wW bh bF bZ bK bM ol oS) ++ (HB cI cZ cS aY aV aU aR kd kf kA kV kQ kP))) ((W5x cI aC aS aL aW aB aF aZ aK aM aO aT aY sr wm wW bh bF bZ bK bM ol oS) ++ (HB cI cZ cS aY aV aU aR kd kf kA kV kQ kP))) 3 18 (uA ((W5x cI aC aS aL aW aB aF aZ aK aM aO aT aY sr wm wW bh bF bZ bK bM ol oS) ++ (HB cI cZ cS aY aV aU aR kd kf kA kV kQ kP))) := by
  refine vx_ofW (cc := cX5_slip) (maxL := 4) (ret := (some .int)) (by decide) rfl ?_
  intro p e s m args below meth c s₁ B hml hout hv
  obtain ⟨ha, hK, hP, hD0, hX, hZ⟩ := hv
  have hx := B.exec
  have hb := B.bytes
  have hr := B.returns
  have hlocks := B.notSynchronized
  have hts : ∀ w ∈ lw_all, w.before args s = true := fun w h => atoms_spec (ws := wsX5_slip) B.pre w (List.mem_cons_of_mem _ h)
  have hown : s.vm.findClass RX5 = some m.cls := findClass_of_methodNamed B.named
  have S : CallFix p m c cX5_slip 4 s args lw_all RX5 := ⟨hx, hb, hml, hown, hts⟩
  have hD := hD0.own
  generalize uA ((W5x cI aC aS aL aW aB aF aZ aK aM aO aT aY sr wm wW bh bF bZ bK bM ol oS) ++ (HB cI cZ cS aY aV aU aR kd kf kA kV kQ kP)) = A0 at hD hZ ⊢
  have hS : va_S A0 s.heap s.heap [] := va_S.rf
  have hl := lv_entry ([.ref aC, .int x1, .int x2, .int x3] : List Value) (n := 4) (Nat.le_of_ble_eq_true rfl)
  refine W.eq (g2 := F0 m 0 ((lg_sl ([.ref aC, .int x1, .int x2, .int x3] : List Value) ++ List.replicate (4 - (lg_sl ([.ref aC, .int x1, .int x2, .int x3] : List Value)).length) Slot.unset).toArray) []) (by rw [ha]; exact lg_entry_eq _ _ _) ?_
  generalize (lg_sl ([.ref aC, .int x1, .int x2, .int x3] : List Value) ++ List.replicate (4 - (lg_sl ([.ref aC, .int x1, .int x2, .int x3] : List Value)).length) Slot.unset).toArray = ls at hl ⊢
  have hl : lv_has ls 4 [(0, .ref aC), (1, .int x1), (2, .int x2), (3, .int x3)] := hl
  rw [f5_slip] at hF
  show xW p l e wsX5_slip rm5_slip s m args below meth c D k (some (.int r)) A0 ((W5x cI aC aS aL aW aB aF aZ aK aM aO aT aY sr wm wW bh bF bZ bK bM ol oS) ++ (HB cI cZ cS aY aV aU aR kd kf kA kV kQ kP)) 3 18 s.heap [] 0 0 (F0 m 0 ls [])
  refine lv_iload_n hx hb dX5_slip_0 rfl (lv_at hl 1 rfl) ?_
  obtain ⟨k2, h1, hF⟩ := bd1_at hF
  refine xcall (ws' := ((W5x cI aC aS aL aW aB aF aZ aK aM aO aT aY sr wm wW bh bF bZ bK bM ol oS) ++ (HB cI cZ cS aY aV aU aR kd kf kA kV kQ kP))) (vx_runS (As := [.int x1]) (rest := []) S (K5_throwIfNoSerial l hfl D cI cZ cS cJ x1 k2 h1) (va_cwS 1 hts (gd_S wd_347 wd_348 wd_22 wd_349) rfl rfl rfl hdn5_throwIfNoSerial ⟨Nat.le_of_ble_eq_true rfl, Nat.le_of_ble_eq_true rfl⟩) (xPreS hK hX hZ hS hD [] (wc := ([] : va_W)) rfl (hP.sub (ws' := ([] : va_W)) [] rfl) (hD.sub (ws' := ([] : va_W)) [] (by decide) rfl)) rfl rfl hl.1 rfl (lv_room (Nat.le_of_ble_eq_true rfl)) dX5_slip_1 ⟨(Nat.le_of_ble_eq_true rfl), (Nat.le_of_ble_eq_true rfl)⟩) hS hP hD [] rfl rfl rfl rfl (fun ce q9 H locs hk hP hD hS hce hcv hcl => ?_) (fun H locs hk hP hD hS => ?_)
  · have hF := ite_f hk hF
    cases hF
    exact xout hk hout hlocks hce hcv hcl hP hS (Nat.le_of_ble_eq_true rfl) (Nat.le_of_ble_eq_true rfl)
  · have hF := ite_t hk hF
    refine lv_iload_n hx hb dX5_slip_4 rfl (lv_at hl 2 rfl) ?_
    obtain ⟨k4, h3, hF⟩ := bd1_at hF
    refine xcall (ws' := ((W5x cI aC aS aL aW aB aF aZ aK aM aO aT aY sr wm wW bh bF bZ bK bM ol oS) ++ (HB cI cZ cS aY aV aU aR kd kf kA kV kQ kP))) (vx_runS (As := [.int x2]) (rest := []) S (K5_throwIfNoSerial l hfl D cI cZ cS cJ x2 k4 h3) (va_cwS 1 hts (gd_S wd_347 wd_348 wd_22 wd_349) rfl rfl rfl hdn5_throwIfNoSerial ⟨Nat.le_of_ble_eq_true rfl, Nat.le_of_ble_eq_true rfl⟩) (xPreS hK hX hZ hS hD [] (wc := ([] : va_W)) rfl (hP.sub (ws' := ([] : va_W)) [] rfl) (hD.sub (ws' := ([] : va_W)) [] (by decide) rfl)) rfl rfl hl.1 rfl (lv_room (Nat.le_of_ble_eq_true rfl)) dX5_slip_5 ⟨(Nat.le_of_ble_eq_true rfl), (Nat.le_of_ble_eq_true rfl)⟩) hS hP hD [] rfl rfl rfl rfl (fun ce q9 H locs hk hP hD hS hce hcv hcl => ?_) (fun H locs hk hP hD hS => ?_)
    · have hF := ite_f hk hF
      cases hF
      exact xout hk hout hlocks hce hcv hcl hP hS (Nat.le_of_ble_eq_true rfl) (Nat.le_of_ble_eq_true rfl)
    · have hF := ite_t hk hF
      refine lv_iload_n hx hb dX5_slip_8 rfl (lv_at hl 3 rfl) ?_
      obtain ⟨k6, h5, hF⟩ := bd1_at hF
      refine xcall (ws' := ((W5x cI aC aS aL aW aB aF aZ aK aM aO aT aY sr wm wW bh bF bZ bK bM ol oS) ++ (HB cI cZ cS aY aV aU aR kd kf kA kV kQ kP))) (vx_runS (As := [.int x3]) (rest := []) S (K5_throwIfNoLetter l hfl D cI cZ cS cJ x3 k6 h5) (va_cwS 1 hts (gd_S wd_351 wd_352 wd_22 wd_353) rfl rfl rfl hdn5_throwIfNoLetter ⟨Nat.le_of_ble_eq_true rfl, Nat.le_of_ble_eq_true rfl⟩) (xPreS hK hX hZ hS hD [] (wc := ([] : va_W)) rfl (hP.sub (ws' := ([] : va_W)) [] rfl) (hD.sub (ws' := ([] : va_W)) [] (by decide) rfl)) rfl rfl hl.1 rfl (lv_room (Nat.le_of_ble_eq_true rfl)) dX5_slip_9 ⟨(Nat.le_of_ble_eq_true rfl), (Nat.le_of_ble_eq_true rfl)⟩) hS hP hD [] rfl rfl rfl rfl (fun ce q9 H locs hk hP hD hS hce hcv hcl => ?_) (fun H locs hk hP hD hS => ?_)
      · have hF := ite_f hk hF
        cases hF
        exact xout hk hout hlocks hce hcv hcl hP hS (Nat.le_of_ble_eq_true rfl) (Nat.le_of_ble_eq_true rfl)
      · have hF := ite_t hk hF
        refine lv_aload_n hx hb dX5_slip_12 rfl (lv_at hl 0 rfl) ?_
        refine va_get (D := D) (ci := 5) (v := .ref aS) (C := RX5) (T := TX5) (N := 3) hx hb hts i_X5 hown hK.1 hP 0 rfl rfl 0 (by decide) (hts _ wd_139) (fun _ h9 => h9) rfl dX5_slip_13 ?_
        refine va_get (D := D) (ci := 4) (v := .ref aL) (C := RX4) (T := TX4) (N := 3) hx hb hts i_X4 hown hK.1 hP 1 rfl rfl 0 (by decide) (hts _ wd_89) (fun _ h9 => h9) rfl dX5_slip_16 ?_
        refine lv_iload_n hx hb dX5_slip_19 rfl (lv_at hl 1 rfl) ?_
        refine lv_iload_n hx hb dX5_slip_20 rfl (lv_at hl 2 rfl) ?_
        refine lv_iload_n hx hb dX5_slip_21 rfl (lv_at hl 3 rfl) ?_
        obtain ⟨q8, h7, hF⟩ := bd1_at hF
        refine rcall (va_runV (As := [.int x1, .int x2, .int x3]) (rest := []) S (K2_slipKind l D cI cZ cS cJ aL aW wm wW x1 x2 x3 q8 h7) (cwV 3 hts (gd_V wd_687 wd_673 wd_674 wd_24 wd_675) rfl rfl rfl hd2_slipKind ⟨Nat.le_of_ble_eq_true rfl, Nat.le_of_ble_eq_true rfl⟩) (rPreV hK (hP.sub (ws' := (W2 cI aL aW wm wW)) [2, 3] rfl) (ci := 2) (q := (RX2, TX2, 2)) rfl rfl) rfl rfl hl.1 rfl (lv_room (Nat.le_of_ble_eq_true rfl)) dX5_slip_22 ⟨(Nat.le_of_ble_eq_true rfl), (Nat.le_of_ble_eq_true rfl)⟩) ?_
        cases hF
        exact xreti (Nat.le_of_ble_eq_true rfl) (Nat.le_of_ble_eq_true rfl) hx hb hr hlocks hP hS dX5_slip_25
abbrev rm5_cashed : Room := { frames := 4, cells := 0, slots := 0, locals := 92 }
theorem hd5_cashed : yX5_cashed.cls = RX5 ∧ yX5_cashed.cls ≠ "java/lang/invoke/MethodHandle" ∧ yX5_cashed.cls ≠ "java/lang/invoke/VarHandle" ∧ (parseMethodDescriptor yX5_cashed.desc).map (fun d => d.parameters.length) = some 0 := by decide +kernel
set_option maxHeartbeats 4000000 in
set_option maxRecDepth 100000 in
theorem K5_cashed (l : Launch) (D : va_G) (cI cZ cS cJ : ClassId) (aC aS aL aW aB aF aZ aK aM aO aT aY aV aU aR : Nat) (kQ : Nat → SA) (sr : Int32) (wm : Int32) (wW : Nat → Int32) (bh : Int32) (bF : Nat → Int32) (bZ : Nat → Int32) (bK : Nat → Int32) (bM : Nat → Int32) (ol : Int32) (oS : Nat → Int32) (kd : Int32) (kf : Nat → Int32) (kA : Nat → SA) (kV : Nat → SV) (kP : Nat → SV) (r : UInt64) (hF : f5_cashed bh bF bZ bK bM = some (r)) : Met l yX5_cashed wsX5_cashed rm5_cashed (rP D (gT cI cZ cS cJ) ((W5x cI aC aS aL aW aB aF aZ aK aM aO aT aY sr wm wW bh bF bZ bK bM ol oS) ++ (HB cI cZ cS aY aV aU aR kd kf kA kV kQ kP)) [.ref aC]) (rQ (.double r)) 0 0 (fun _ => False) := by
  refine Met.ofW (cc := cX5_cashed) (maxL := 2) (ret := (some .double)) (by decide) rfl ?_
  intro p e s m args below meth c s₁ B hml hv
  obtain ⟨ha, hK, hP⟩ := hv
  have hx := B.exec
  have hb := B.bytes
  have hr := B.returns
  have hlocks := B.notSynchronized
  have hts : ∀ w ∈ lw_all, w.before args s = true := fun w h => atoms_spec (ws := wsX5_cashed) B.pre w (List.mem_cons_of_mem _ h)
  have hown : s.vm.findClass RX5 = some m.cls := findClass_of_methodNamed B.named
  have S : CallFix p m c cX5_cashed 2 s args lw_all RX5 := ⟨hx, hb, hml, hown, hts⟩
  have hl := lv_entry ([.ref aC] : List Value) (n := 2) (Nat.le_of_ble_eq_true rfl)
  refine W.eq (g2 := F0 m 0 ((lg_sl ([.ref aC] : List Value) ++ List.replicate (2 - (lg_sl ([.ref aC] : List Value)).length) Slot.unset).toArray) []) (by rw [ha]; exact lg_entry_eq _ _ _) ?_
  generalize (lg_sl ([.ref aC] : List Value) ++ List.replicate (2 - (lg_sl ([.ref aC] : List Value)).length) Slot.unset).toArray = ls at hl ⊢
  have hl : lv_has ls 2 [(0, .ref aC)] := hl
  rw [f5_cashed] at hF
  show rW p l e wsX5_cashed rm5_cashed s m args below meth c (.double r) (F0 m 0 ls [])
  refine lv_aload_n hx hb dX5_cashed_0 rfl (lv_at hl 0 rfl) ?_
  refine va_get (D := D) (ci := 5) (v := .ref aS) (C := RX5) (T := TX5) (N := 3) hx hb hts i_X5 hown hK.1 hP 0 rfl rfl 0 (by decide) (hts _ wd_139) (fun _ h9 => h9) rfl dX5_cashed_1 ?_
  refine va_get (D := D) (ci := 4) (v := .ref aB) (C := RX4) (T := TX4) (N := 3) hx hb hts i_X4 hown hK.1 hP 1 rfl rfl 1 (by decide) (hts _ wd_91) (fun _ h9 => h9) rfl dX5_cashed_4 ?_
  refine lv_iconst hx hb dX5_cashed_7 kc_iconst_1 ?_
  obtain ⟨q2, h1, hF⟩ := bd1_at hF
  refine rcall (va_runV (As := [.int (1 : Int32)]) (rest := []) S (K0_numberOfAll l D cI cZ cS cJ aB aF aZ aK aM bh bF bZ bK bM (1 : Int32) q2 h1) (cwV 1 hts (gd_V wd_419 wd_420 wd_421 wd_25 wd_422) rfl rfl rfl hd0_numberOfAll ⟨Nat.le_of_ble_eq_true rfl, Nat.le_of_ble_eq_true rfl⟩) (rPreV hK (hP.sub (ws' := (W0 cI aB aF aZ aK aM bh bF bZ bK bM)) [4, 5, 6, 7, 8] rfl) (ci := 0) (q := (RX0, TX0, 5)) rfl rfl) rfl rfl hl.1 rfl (lv_room (Nat.le_of_ble_eq_true rfl)) dX5_cashed_8 ⟨(Nat.zero_le _), (Nat.zero_le _)⟩) ?_
  refine lv_istore_n (lv' := [(1, .int q2), (0, .ref aC)]) hx hb dX5_cashed_11 rfl hl (by decide) rfl (fun ls hl => ?_)
  refine lv_iload_n hx hb dX5_cashed_12 rfl (lv_at hl 0 rfl) ?_
  refine lv_iconst hx hb dX5_cashed_13 kc_iconst_1 ?_
  refine lv_icmp_ge (tgt := 19) hx hb dX5_cashed_14 (by decide) (fun c3 => ?_) (fun c3 => ?_)
  · have hF := ite_t c3 hF
    refine lv_aload_n hx hb dX5_cashed_19 rfl (lv_at hl 1 rfl) ?_
    refine va_get (D := D) (ci := 5) (v := .ref aS) (C := RX5) (T := TX5) (N := 3) hx hb hts i_X5 hown hK.1 hP 0 rfl rfl 0 (by decide) (hts _ wd_139) (fun _ h9 => h9) rfl dX5_cashed_20 ?_
    refine va_get (D := D) (ci := 4) (v := .ref aB) (C := RX4) (T := TX4) (N := 3) hx hb hts i_X4 hown hK.1 hP 1 rfl rfl 1 (by decide) (hts _ wd_91) (fun _ h9 => h9) rfl dX5_cashed_23 ?_
    refine lv_iconst hx hb dX5_cashed_26 kc_iconst_4 ?_
    obtain ⟨q5, h4, hF⟩ := bd1_at hF
    refine rcall (va_runV (As := [.int (4 : Int32)]) (rest := []) S (K0_numberOfAll l D cI cZ cS cJ aB aF aZ aK aM bh bF bZ bK bM (4 : Int32) q5 h4) (cwV 1 hts (gd_V wd_419 wd_420 wd_421 wd_25 wd_422) rfl rfl rfl hd0_numberOfAll ⟨Nat.le_of_ble_eq_true rfl, Nat.le_of_ble_eq_true rfl⟩) (rPreV hK (hP.sub (ws' := (W0 cI aB aF aZ aK aM bh bF bZ bK bM)) [4, 5, 6, 7, 8] rfl) (ci := 0) (q := (RX0, TX0, 5)) rfl rfl) rfl rfl hl.1 rfl (lv_room (Nat.le_of_ble_eq_true rfl)) dX5_cashed_27 ⟨(Nat.zero_le _), (Nat.zero_le _)⟩) ?_
    refine lv_i2d hx hb dX5_cashed_30 ?_
    refine lv_iload_n hx hb dX5_cashed_31 rfl (lv_at hl 0 rfl) ?_
    refine lv_i2d hx hb dX5_cashed_32 ?_
    obtain ⟨g6, hF⟩ := gd_at hF
    refine lv_ddiv hx hb dX5_cashed_33 g6 ?_
    exact rretd hF hx hb hr hlocks dX5_cashed_34
  · have hF := ite_f c3 hF
    refine lv_dconst0 hx hb dX5_cashed_17 ?_
    exact rretd hF hx hb hr hlocks dX5_cashed_18
