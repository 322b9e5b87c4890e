def f5_copyRow_l2 (nG : Nat) (nH : Nat) (gA : Nat → Int32) : Nat → Int32 → (Nat → Int32) → Option ((Nat → Int32))
  | 0, _, _ => none
  | n + 1, x2, gB =>
    if (Int32.ofNat nH) ≤ x2 then
      some (gB)
    else
      if (Int32.ofNat nG) ≤ x2 then
        some (gB)
      else
        if inb x2 nG then
          if inb x2 nH then
            (f5_copyRow_l2 nG nH gA n) (x2 + 1) (upd gB x2.toNatClampNeg (gA x2.toNatClampNeg))
          else none
        else none
def f5_copyRow (nG : Nat) (nH : Nat) (gA : Nat → Int32) (gB : Nat → Int32) : Option ((Nat → Int32)) :=
  f5_copyRow_l2 nG nH gA fu (0 : Int32) gB
def f5_positionsOf (x0 : Int32) : Option (Int32) :=
  some ((if x0 = (1 : Int32) then (5 : Int32) else (6 : Int32)))
def f5_isSerial (x0 : Int32) : Option (Int32) :=
  some ((if x0 < 0 then (0 : Int32) else (if (1000000 : Int32) ≤ x0 then (0 : Int32) else (1 : Int32))))
def f5_faultOfRun (x0 : Int32) (x1 : Int32) : Option (Int32) :=
  bd1 (f5_isSerial x0) (fun q2 =>
    if q2 = 0 then
      some ((1 : Int32))
    else
      bd1 (f5_isSerial x1) (fun q5 =>
        some ((if q5 = 0 then (1 : Int32) else (if x0 ≤ x1 then (0 : Int32) else (2 : Int32))))))
def f5_copyRowE (nG nH : Nat) (gA _gB : Nat → Int32) : Option (Nat → Int32) := if nG = nH ∧ nG < 4000 then some gA else none
def f2_weightAt (wW : Nat → Int32) (x1 : Int32) : Option (Int32) :=
  some ((if x1 < 0 then (0 : Int32) else (if (6 : Int32) ≤ x1 then (0 : Int32) else (wW x1.toNatClampNeg))))
def f2_restOf (wm : Int32) (x1 : Int32) : Option (Int32) :=
  if (1 : Int32) ≤ wm then
    if ¬ wm = 0 then
      some ((if 0 ≤ (x1 - x1 / wm * wm) then (x1 - x1 / wm * wm) else ((x1 - x1 / wm * wm) + wm)))
    else none
  else
    some ((0 : Int32))
def f2_letterOf_l7 (wm : Int32) (wW : Nat → Int32) : Nat → Int32 → Int32 → Int32 → Option (Int32)
  | 0, _, _, _ => none
  | n + 1, x2, x3, x4 =>
    if x4 < 0 then
      bd1 (f2_restOf wm x2) (fun q3 =>
        some (q3))
    else
      bd1 (f2_weightAt wW x4) (fun q5 =>
        lt_ (x2 + (q5 * (x3 - x3 / (10 : Int32) * (10 : Int32)))) (fun t6 =>
          (f2_letterOf_l7 wm wW n) t6 (x3 / (10 : Int32)) (x4 + (-1))))
def f2_letterOf (wm : Int32) (wW : Nat → Int32) (x1 : Int32) : Option (Int32) :=
  f2_letterOf_l7 wm wW fu (0 : Int32) x1 (5 : Int32)
def f2_setWeight (wW : Nat → Int32) (x1 : Int32) (x2 : Int32) : Option ((Nat → Int32)) :=
  some ((if x1 < 0 then wW else (if (6 : Int32) ≤ x1 then wW else (upd wW x1.toNatClampNeg x2))))
def f2_factorAt (wW : Nat → Int32) (x1 : Int32) (x2 : Int32) : Option (Int32) :=
  bd1 (f2_weightAt wW x1) (fun q2 =>
    if x2 = (1 : Int32) then
      bd1 (f2_weightAt wW (x1 + (1 : Int32))) (fun q5 =>
        some ((q2 - q5)))
    else
      some (q2))
def f2_isHidden (wm : Int32) (x1 : Int32) (x2 : Int32) : Option (Int32) :=
  bd1 (f2_restOf wm (x1 * x2)) (fun q2 =>
    some ((if q2 = 0 then (1 : Int32) else (0 : Int32))))
def f2_hiddenPairsTried_l15 (k4 : Int32 → Int32 → Option (Int32)) (wm : Int32) (x1 : Int32) (x3 : Int32) : Nat → Int32 → Int32 → Option (Int32)
  | 0, _, _ => none
  | n + 1, x2, x4 =>
    if (9 : Int32) < x4 then
      k4 x2 (x3 + 1)
    else
      bd1 (f2_restOf wm (x1 * x3)) (fun q4 =>
        bd1 (f2_restOf wm (x1 * x4)) (fun q6 =>
          (f2_hiddenPairsTried_l15 k4 wm x1 x3 n) (if q4 = q6 then (x2 + 1) else x2) (x4 + 1)))
def f2_hiddenPairsTried_l4 (wm : Int32) (x1 : Int32) : Nat → Int32 → Int32 → Option (Int32)
  | 0, _, _ => none
  | n + 1, x2, x3 =>
    if (9 : Int32) < x3 then
      some (x2)
    else
      f2_hiddenPairsTried_l15 (f2_hiddenPairsTried_l4 wm x1 n) wm x1 x3 fu x2 (x3 + (1 : Int32))
def f2_hiddenPairsTried (wm : Int32) (x1 : Int32) : Option (Int32) :=
  f2_hiddenPairsTried_l4 wm x1 fu (0 : Int32) (0 : Int32)
def f2_hiddenPairs_l4 (wm : Int32) (x1 : Int32) : Nat → Int32 → Int32 → Option (Int32)
  | 0, _, _ => none
  | n + 1, x2, x3 =>
    if (9 : Int32) < x3 then
      some (x2)
    else
      bd1 (f2_isHidden wm x1 x3) (fun q3 =>
        (f2_hiddenPairs_l4 wm x1 n) (if q3 = 0 then x2 else (x2 + ((10 : Int32) - x3))) (x3 + 1))
def f2_hiddenPairs (wm : Int32) (x1 : Int32) : Option (Int32) :=
  f2_hiddenPairs_l4 wm x1 fu (0 : Int32) (1 : Int32)
def f2_hiddenPairsWith_j68 (k5 : Int32 → Int32 → Option (Int32)) (wm : Int32) (wW : Nat → Int32) (x1 : Int32) (x2 : Int32) (x3 : Int32) (x4 : Int32) (x5 : Int32) (s0 : Int32) : Option (Int32) :=
  bd1 (f2_hiddenPairs wm (x5 - s0)) (fun q12 =>
    k5 (x3 + q12) (x4 + 1))
def f2_hiddenPairsWith_j28 (k5 : Int32 → Int32 → Option (Int32)) (wm : Int32) (wW : Nat → Int32) (x1 : Int32) (x2 : Int32) (x3 : Int32) (x4 : Int32) (s0 : Int32) : Option (Int32) :=
  bd1 (f2_hiddenPairs wm s0) (fun q6 =>
    if (6 : Int32) ≤ (x4 + (1 : Int32)) then
      k5 (x3 + q6) (x4 + 1)
    else
      if (x4 + (1 : Int32)) = x1 then
        f2_hiddenPairsWith_j68 k5 wm wW x1 x2 (x3 + q6) x4 s0 x2
      else
        bd1 (f2_weightAt wW (x4 + (1 : Int32))) (fun q10 =>
          f2_hiddenPairsWith_j68 k5 wm wW x1 x2 (x3 + q6) x4 s0 q10))
def f2_hiddenPairsWith_l5 (wm : Int32) (wW : Nat → Int32) (x1 : Int32) (x2 : Int32) : Nat → Int32 → Int32 → Option (Int32)
  | 0, _, _ => none
  | n + 1, x3, x4 =>
    if (6 : Int32) ≤ x4 then
      some (x3)
    else
      if x4 = x1 then
        f2_hiddenPairsWith_j28 (f2_hiddenPairsWith_l5 wm wW x1 x2 n) wm wW x1 x2 x3 x4 x2
      else
        bd1 (f2_weightAt wW x4) (fun q4 =>
          f2_hiddenPairsWith_j28 (f2_hiddenPairsWith_l5 wm wW x1 x2 n) wm wW x1 x2 x3 x4 q4)
def f2_hiddenPairsWith (wm : Int32) (wW : Nat → Int32) (x1 : Int32) (x2 : Int32) : Option (Int32) :=
  f2_hiddenPairsWith_l5 wm wW x1 x2 fu (0 : Int32) (0 : Int32)
def f2_hidesNothing_l2 (wm : Int32) (wW : Nat → Int32) (x1 : Int32) : Nat → Int32 → Option (Int32)
  | 0, _ => none
  | n + 1, x2 =>
    bd1 (f5_positionsOf x1) (fun q2 =>
      if q2 ≤ x2 then
        some ((1 : Int32))
      else
        bd1 (f2_factorAt wW x2 x1) (fun q5 =>
          bd1 (f2_hiddenPairs wm q5) (fun q7 =>
            if q7 ≤ 0 then
              (f2_hidesNothing_l2 wm wW x1 n) (x2 + 1)
            else
              some ((0 : Int32)))))
def f2_hidesNothing (wm : Int32) (wW : Nat → Int32) (x1 : Int32) : Option (Int32) :=
  f2_hidesNothing_l2 wm wW x1 fu (0 : Int32)
def f2_digitAt_l4 (x1 : Int32) : Nat → Int32 → Int32 → Option (Int32)
  | 0, _, _ => none
  | n + 1, x2, x3 =>
    if x3 ≤ x1 then
      some ((x2 - x2 / (10 : Int32) * (10 : Int32)))
    else
      (f2_digitAt_l4 x1 n) (x2 / (10 : Int32)) (x3 + (-1))
def f2_digitAt (x0 : Int32) (x1 : Int32) : Option (Int32) :=
  f2_digitAt_l4 x1 fu x0 (5 : Int32)
def f2_isSwapped (x0 : Int32) (x1 : Int32) (x2 : Int32) : Option (Int32) :=
  bd1 (f2_digitAt x0 x2) (fun q2 =>
    bd1 (f2_digitAt x1 (x2 + (1 : Int32))) (fun q4 =>
      if q2 = q4 then
        bd1 (f2_digitAt x0 (x2 + (1 : Int32))) (fun q7 =>
          bd1 (f2_digitAt x1 x2) (fun q9 =>
            some ((if q7 = q9 then (1 : Int32) else (0 : Int32)))))
      else
        some ((0 : Int32))))
def f2_digitSlip_j71 (s0 : Int32) : Option (Int32) :=
  some ((if s0 = 0 then (-1 : Int32) else (1 : Int32)))
def f2_digitSlip_j70  : Option (Int32) :=
  f2_digitSlip_j71 (0 : Int32)
def f2_digitSlip_l7 (x0 : Int32) (x1 : Int32) : Nat → Int32 → Int32 → Int32 → Option (Int32)
  | 0, _, _, _ => none
  | n + 1, x2, x3, x4 =>
    if (6 : Int32) ≤ x4 then
      if x2 = (1 : Int32) then
        some ((0 : Int32))
      else
        if x2 = (2 : Int32) then
          bd1 (f2_isSwapped x0 x1 x3) (fun q5 =>
            if q5 = 0 then
              f2_digitSlip_j70
            else
              f2_digitSlip_j71 (1 : Int32))
        else
          f2_digitSlip_j70
    else
      bd1 (f2_digitAt x0 x4) (fun q8 =>
        bd1 (f2_digitAt x1 x4) (fun q10 =>
          (f2_digitSlip_l7 x0 x1 n) (if q8 = q10 then x2 else (x2 + 1)) (if q8 = q10 then x3 else (if x2 = 0 then x4 else x3)) (x4 + 1)))
def f2_digitSlip (x0 : Int32) (x1 : Int32) : Option (Int32) :=
  f2_digitSlip_l7 x0 x1 fu (0 : Int32) (0 : Int32) (0 : Int32)
def f2_hiddenMisreadings_l28 (k4 : Int32 → Int32 → Option (Int32)) (wm : Int32) (wW : Nat → Int32) (x1 : Int32) (x3 : Int32) (x4 : Int32) (x5 : Int32) : Nat → Int32 → Int32 → Option (Int32)
  | 0, _, _ => none
  | n + 1, x2, x6 =>
    if (9 : Int32) < x6 then
      k4 x2 (x3 + 1)
    else
      if x6 = x4 then
        (f2_hiddenMisreadings_l28 k4 wm wW x1 x3 x4 x5 n) x2 (x6 + 1)
      else
        bd1 (f2_isHidden wm x5 (x6 - x4)) (fun q9 =>
          (f2_hiddenMisreadings_l28 k4 wm wW x1 x3 x4 x5 n) (if q9 = 0 then x2 else (x2 + 1)) (x6 + 1))
def f2_hiddenMisreadings_l4 (wm : Int32) (wW : Nat → Int32) (x1 : Int32) : Nat → Int32 → Int32 → Option (Int32)
  | 0, _, _ => none
  | n + 1, x2, x3 =>
    if (6 : Int32) ≤ x3 then
      some (x2)
    else
      bd1 (f2_digitAt x1 x3) (fun q3 =>
        bd1 (f2_factorAt wW x3 (0 : Int32)) (fun q5 =>
          f2_hiddenMisreadings_l28 (f2_hiddenMisreadings_l4 wm wW x1 n) wm wW x1 x3 q3 q5 fu x2 (0 : Int32)))
def f2_hiddenMisreadings (wm : Int32) (wW : Nat → Int32) (x1 : Int32) : Option (Int32) :=
  f2_hiddenMisreadings_l4 wm wW x1 fu (0 : Int32) (0 : Int32)
def f2_hiddenSwaps_l4 (wm : Int32) (wW : Nat → Int32) (x1 : Int32) : Nat → Int32 → Int32 → Option (Int32)
  | 0, _, _ => none
  | n + 1, x2, x3 =>
    if (6 : Int32) ≤ (x3 + (1 : Int32)) then
      some (x2)
    else
      bd1 (f2_digitAt x1 (x3 + (1 : Int32))) (fun q3 =>
        bd1 (f2_digitAt x1 x3) (fun q5 =>
          bd1 (f2_factorAt wW x3 (1 : Int32)) (fun q7 =>
            if (q3 - q5) = 0 then
              (f2_hiddenSwaps_l4 wm wW x1 n) x2 (x3 + 1)
            else
              bd1 (f2_isHidden wm q7 (q3 - q5)) (fun q10 =>
                (f2_hiddenSwaps_l4 wm wW x1 n) (if q10 = 0 then x2 else (x2 + 1)) (x3 + 1)))))
def f2_hiddenSwaps (wm : Int32) (wW : Nat → Int32) (x1 : Int32) : Option (Int32) :=
  f2_hiddenSwaps_l4 wm wW x1 fu (0 : Int32) (0 : Int32)
def f2_slipKind_j24 (wm : Int32) (wW : Nat → Int32) (x1 : Int32) (x2 : Int32) (s0 : Int32) : Option (Int32) :=
  if x1 = x2 then
    some ((if s0 = 0 then (2 : Int32) else (3 : Int32)))
  else
    if s0 = 0 then
      some ((-1 : Int32))
    else
      bd1 (f2_digitSlip x1 x2) (fun q8 =>
        some (q8))
def f2_slipKind (wm : Int32) (wW : Nat → Int32) (x1 : Int32) (x2 : Int32) (x3 : Int32) : Option (Int32) :=
  if x3 < wm then
    bd1 (f2_letterOf wm wW x1) (fun q3 =>
      f2_slipKind_j24 wm wW x1 x2 (if q3 = x3 then (1 : Int32) else (0 : Int32)))
  else
    some ((-1 : Int32))
def f2_copyFrom (wm : Int32) (wW : Nat → Int32) (wmo : Int32) (wWo : Nat → Int32) : Option (Int32 × (Nat → Int32)) :=
  bd1 (f5_copyRowE 6 6 wWo wW) (fun u2 =>
    some (wmo, u2))
def f0_firstOf (bF : Nat → Int32) (x1 : Int32) : Option (Int32) :=
  some ((if x1 < 0 then (-1 : Int32) else (if (6 : Int32) ≤ x1 then (-1 : Int32) else (bF x1.toNatClampNeg))))
def f0_sizeOf (bZ : Nat → Int32) (x1 : Int32) : Option (Int32) :=
  some ((if x1 < 0 then (0 : Int32) else (if (6 : Int32) ≤ x1 then (0 : Int32) else (bZ x1.toNatClampNeg))))
def f0_canTake_l13 (bh : Int32) (bF : Nat → Int32) (bZ : Nat → Int32) (x1 : Int32) (x2 : Int32) : Nat → Int32 → Option (Int32)
  | 0, _ => none
  | n + 1, x3 =>
    if bh ≤ x3 then
      some ((1 : Int32))
    else
      bd1 (f0_firstOf bF x3) (fun q4 =>
        bd1 (f0_sizeOf bZ x3) (fun q6 =>
          if (q4 + q6) ≤ x1 then
            (f0_canTake_l13 bh bF bZ x1 x2 n) (x3 + 1)
          else
            if (x1 + x2) ≤ q4 then
              (f0_canTake_l13 bh bF bZ x1 x2 n) (x3 + 1)
            else
              some ((0 : Int32))))
def f0_canTake (bh : Int32) (bF : Nat → Int32) (bZ : Nat → Int32) (x1 : Int32) (x2 : Int32) : Option (Int32) :=
  if bh < (6 : Int32) then
    f0_canTake_l13 bh bF bZ x1 x2 fu (0 : Int32)
  else
    some ((0 : Int32))
def f0_setCell (bK : Nat → Int32) (bM : Nat → Int32) (x1 : Int32) (x2 : Int32) (x3 : Int32) : Option ((Nat → Int32) × (Nat → Int32)) :=
  some ((if x1 < 0 then bK else (if (240 : Int32) ≤ x1 then bK else (upd bK x1.toNatClampNeg x2))), (if x1 < 0 then bM else (if (240 : Int32) ≤ x1 then bM else (upd bM x1.toNatClampNeg x3))))
def f0_add_l46 (x2 : Int32) (x3 : Int32) : Nat → Int32 → Int32 → (Nat → Int32) → (Nat → Int32) → (Nat → Int32) → (Nat → Int32) → Option (Int32 × Int32 × (Nat → Int32) × (Nat → Int32) × (Nat → Int32) × (Nat → Int32))
  | 0, _, _, _, _, _, _ => none
  | n + 1, x4, bh, bF, bZ, bK, bM =>
    if x2 ≤ x4 then
      some (x3, (x3 + (1 : Int32)), bF, bZ, bK, bM)
    else
      bd2 (f0_setCell bK bM ((x3 * (40 : Int32)) + x4) (0 : Int32) (0 : Int32)) (fun u6 u7 =>
        (f0_add_l46 x2 x3 n) (x4 + 1) bh bF bZ u6 u7)
def f0_add (bh : Int32) (bF : Nat → Int32) (bZ : Nat → Int32) (bK : Nat → Int32) (bM : Nat → Int32) (x1 : Int32) (x2 : Int32) : Option (Int32 × Int32 × (Nat → Int32) × (Nat → Int32) × (Nat → Int32) × (Nat → Int32)) :=
  if bh < 0 then
    some ((-1 : Int32), bh, bF, bZ, bK, bM)
  else
    if (6 : Int32) ≤ bh then
      some ((-1 : Int32), bh, bF, bZ, bK, bM)
    else
      if bh < (6 : Int32) then
        f0_add_l46 x2 bh fu (0 : Int32) bh (upd bF bh.toNatClampNeg x1) (upd bZ bh.toNatClampNeg x2) bK bM
      else
        some ((-1 : Int32), bh, bF, bZ, bK, bM)
def f0_cellOf_l2 (bh : Int32) (bF : Nat → Int32) (bZ : Nat → Int32) (x1 : Int32) : Nat → Int32 → Option (Int32)
  | 0, _ => none
  | n + 1, x2 =>
    if bh ≤ x2 then
      some ((-1 : Int32))
    else
      bd1 (f0_firstOf bF x2) (fun q3 =>
        if x1 < q3 then
          (f0_cellOf_l2 bh bF bZ x1 n) (x2 + 1)
        else
          bd1 (f0_sizeOf bZ x2) (fun q6 =>
            if (q3 + q6) ≤ x1 then
              (f0_cellOf_l2 bh bF bZ x1 n) (x2 + 1)
            else
              some ((((x2 * (40 : Int32)) + x1) - q3))))
def f0_cellOf (bh : Int32) (bF : Nat → Int32) (bZ : Nat → Int32) (x1 : Int32) : Option (Int32) :=
  f0_cellOf_l2 bh bF bZ x1 fu (0 : Int32)
def f0_kindAt (bK : Nat → Int32) (x1 : Int32) : Option (Int32) :=
  some ((if x1 < 0 then (-1 : Int32) else (if (240 : Int32) ≤ x1 then (-1 : Int32) else (bK x1.toNatClampNeg))))
def f0_amountAt (bM : Nat → Int32) (x1 : Int32) : Option (Int32) :=
  some ((if x1 < 0 then (0 : Int32) else (if (240 : Int32) ≤ x1 then (0 : Int32) else (bM x1.toNatClampNeg))))
def f0_makeWritten (bK : Nat → Int32) (bM : Nat → Int32) (x1 : Int32) (x2 : Int32) : Option ((Nat → Int32) × (Nat → Int32)) :=
  bd2 (f0_setCell bK bM x1 (1 : Int32) x2) (fun u2 u3 =>
    some (u2, u3))
def f0_makeCashed (bK : Nat → Int32) (bM : Nat → Int32) (x1 : Int32) : Option ((Nat → Int32) × (Nat → Int32)) :=
  bd1 (f0_amountAt bM x1) (fun q2 =>
    bd2 (f0_setCell bK bM x1 (2 : Int32) q2) (fun u4 u5 =>
      some (u4, u5)))
def f0_makeVoid_j17 (bK : Nat → Int32) (bM : Nat → Int32) (x1 : Int32) : Option (Int32 × (Nat → Int32) × (Nat → Int32)) :=
  bd2 (f0_setCell bK bM x1 (3 : Int32) (0 : Int32)) (fun u6 u7 =>
    some ((1 : Int32), u6, u7))
def f0_makeVoid (bK : Nat → Int32) (bM : Nat → Int32) (x1 : Int32) : Option (Int32 × (Nat → Int32) × (Nat → Int32)) :=
  bd1 (f0_kindAt bK x1) (fun q2 =>
    if q2 = 0 then
      f0_makeVoid_j17 bK bM x1
    else
      if q2 = (1 : Int32) then
        f0_makeVoid_j17 bK bM x1
      else
        some ((0 : Int32), bK, bM))
def f0_makeRunVoid_l47 (k5 : Int32 → Int32 → (Nat → Int32) → (Nat → Int32) → Option (Int32 × (Nat → Int32) × (Nat → Int32))) (bh : Int32) (bF : Nat → Int32) (bZ : Nat → Int32) (x1 : Int32) (x2 : Int32) (x4 : Int32) (x5 : Int32) (x6 : Int32) : Nat → Int32 → Int32 → (Nat → Int32) → (Nat → Int32) → Option (Int32 × (Nat → Int32) × (Nat → Int32))
  | 0, _, _, _, _ => none
  | n + 1, x3, x7, bK, bM =>
    if x6 < x7 then
      k5 x3 (x4 + 1) bK bM
    else
      bd3 (f0_makeVoid bK bM (((x4 * (40 : Int32)) + x7) - x5)) (fun q10 u11 u12 =>
        (f0_makeRunVoid_l47 k5 bh bF bZ x1 x2 x4 x5 x6 n) (x3 + q10) (x7 + 1) u11 u12)
def f0_makeRunVoid_l5 (bh : Int32) (bF : Nat → Int32) (bZ : Nat → Int32) (x1 : Int32) (x2 : Int32) : Nat → Int32 → Int32 → (Nat → Int32) → (Nat → Int32) → Option (Int32 × (Nat → Int32) × (Nat → Int32))
  | 0, _, _, _, _ => none
  | n + 1, x3, x4, bK, bM =>
    if bh ≤ x4 then
      some (x3, bK, bM)
    else
      bd1 (f0_firstOf bF x4) (fun q3 =>
        bd1 (f0_sizeOf bZ x4) (fun q5 =>
          lt_ (if ((q3 + q5) - (1 : Int32)) < x2 then ((q3 + q5) - (1 : Int32)) else x2) (fun t6 =>
            f0_makeRunVoid_l47 (f0_makeRunVoid_l5 bh bF bZ x1 x2 n) bh bF bZ x1 x2 x4 q3 t6 fu x3 (if x1 < q3 then q3 else x1) bK bM)))
def f0_makeRunVoid (bh : Int32) (bF : Nat → Int32) (bZ : Nat → Int32) (bK : Nat → Int32) (bM : Nat → Int32) (x1 : Int32) (x2 : Int32) : Option (Int32 × (Nat → Int32) × (Nat → Int32)) :=
  f0_makeRunVoid_l5 bh bF bZ x1 x2 fu (0 : Int32) (0 : Int32) bK bM
def f0_sameKindFrom_l29 (bZ : Nat → Int32) (bK : Nat → Int32) (x3 : Int32) (x4 : Int32) : Nat → Int32 → Int32 → Option (Int32)
  | 0, _, _ => none
  | n + 1, x5, x6 =>
    if x3 ≤ x6 then
      some (x5)
    else
      bd1 (f0_kindAt bK x6) (fun q7 =>
        if q7 = x4 then
          (f0_sameKindFrom_l29 bZ bK x3 x4 n) (x5 + 1) (x6 + 1)
        else
          some (x5))
def f0_sameKindFrom (bZ : Nat → Int32) (bK : Nat → Int32) (x1 : Int32) : Option (Int32) :=
  bd1 (f0_sizeOf bZ (x1 / (40 : Int32))) (fun q2 =>
    bd1 (f0_kindAt bK x1) (fun q4 =>
      f0_sameKindFrom_l29 bZ bK (((x1 / (40 : Int32)) * (40 : Int32)) + q2) q4 fu (0 : Int32) x1))
def f0_chequesOf_l12 (bZ : Nat → Int32) (bK : Nat → Int32) (x1 : Int32) (x2 : Int32) (x4 : Int32) : Nat → Int32 → Int32 → Option (Int32)
  | 0, _, _ => none
  | n + 1, x3, x5 =>
    if x4 ≤ x5 then
      some (x3)
    else
      bd1 (f0_kindAt bK ((x1 * (40 : Int32)) + x5)) (fun q5 =>
        (f0_chequesOf_l12 bZ bK x1 x2 x4 n) (if q5 = x2 then (x3 + 1) else x3) (x5 + 1))
def f0_chequesOf (bZ : Nat → Int32) (bK : Nat → Int32) (x1 : Int32) (x2 : Int32) : Option (Int32) :=
  bd1 (f0_sizeOf bZ x1) (fun q2 =>
    f0_chequesOf_l12 bZ bK x1 x2 q2 fu (0 : Int32) (0 : Int32))
def f0_amountsOf_l12 (bZ : Nat → Int32) (bK : Nat → Int32) (bM : Nat → Int32) (x1 : Int32) (x2 : Int32) (x4 : Int32) : Nat → Int32 → Int32 → Option (Int32)
  | 0, _, _ => none
  | n + 1, x3, x5 =>
    if x4 ≤ x5 then
      some (x3)
    else
      bd1 (f0_kindAt bK ((x1 * (40 : Int32)) + x5)) (fun q5 =>
        if q5 = x2 then
          bd1 (f0_amountAt bM ((x1 * (40 : Int32)) + x5)) (fun q8 =>
            (f0_amountsOf_l12 bZ bK bM x1 x2 x4 n) (x3 + q8) (x5 + 1))
        else
          (f0_amountsOf_l12 bZ bK bM x1 x2 x4 n) x3 (x5 + 1))
def f0_amountsOf (bZ : Nat → Int32) (bK : Nat → Int32) (bM : Nat → Int32) (x1 : Int32) (x2 : Int32) : Option (Int32) :=
  bd1 (f0_sizeOf bZ x1) (fun q2 =>
    f0_amountsOf_l12 bZ bK bM x1 x2 q2 fu (0 : Int32) (0 : Int32))
def f0_firstBlankOf_l8 (bF : Nat → Int32) (bZ : Nat → Int32) (bK : Nat → Int32) (x1 : Int32) (x2 : Int32) : Nat → Int32 → Option (Int32)
  | 0, _ => none
  | n + 1, x3 =>
    if x2 ≤ x3 then
      some ((-1 : Int32))
    else
      bd1 (f0_kindAt bK ((x1 * (40 : Int32)) + x3)) (fun q5 =>
        if q5 = 0 then
          bd1 (f0_firstOf bF x1) (fun q8 =>
            some ((q8 + x3)))
        else
          (f0_firstBlankOf_l8 bF bZ bK x1 x2 n) (x3 + 1))
def f0_firstBlankOf (bF : Nat → Int32) (bZ : Nat → Int32) (bK : Nat → Int32) (x1 : Int32) : Option (Int32) :=
  bd1 (f0_sizeOf bZ x1) (fun q2 =>
    f0_firstBlankOf_l8 bF bZ bK x1 q2 fu (0 : Int32))
def f0_numberOf (bF : Nat → Int32) (bZ : Nat → Int32) (bK : Nat → Int32) (bM : Nat → Int32) (x1 : Int32) (x2 : Int32) : Option (Int32) :=
  if x2 = (0 : Int32) then
    bd1 (f0_firstOf bF x1) (fun q3 =>
      some (q3))
  else
    if x2 = (1 : Int32) then
      bd1 (f0_sizeOf bZ x1) (fun q6 =>
        some (q6))
    else
      if x2 = (2 : Int32) then
        bd1 (f0_chequesOf bZ bK x1 (x2 - (2 : Int32))) (fun q21 =>
          some (q21))
      else
        if x2 = (3 : Int32) then
          bd1 (f0_chequesOf bZ bK x1 (x2 - (2 : Int32))) (fun q21 =>
            some (q21))
        else
          if x2 = (4 : Int32) then
            bd1 (f0_chequesOf bZ bK x1 (x2 - (2 : Int32))) (fun q21 =>
              some (q21))
          else
            if x2 = (5 : Int32) then
              bd1 (f0_chequesOf bZ bK x1 (x2 - (2 : Int32))) (fun q21 =>
                some (q21))
            else
              if x2 = (6 : Int32) then
                bd1 (f0_amountsOf bZ bK bM x1 (1 : Int32)) (fun q13 =>
                  some (q13))
              else
                if x2 = (7 : Int32) then
                  bd1 (f0_amountsOf bZ bK bM x1 (2 : Int32)) (fun q16 =>
                    some (q16))
                else
                  if x2 = (8 : Int32) then
                    bd1 (f0_firstBlankOf bF bZ bK x1) (fun q19 =>
                      some (q19))
                  else
                    bd1 (f0_chequesOf bZ bK x1 (x2 - (2 : Int32))) (fun q21 =>
                      some (q21))
def f0_numberOfAll_l4 (bh : Int32) (bF : Nat → Int32) (bZ : Nat → Int32) (bK : Nat → Int32) (bM : Nat → Int32) (x1 : Int32) : Nat → Int32 → Int32 → Option (Int32)
  | 0, _, _ => none
  | n + 1, x2, x3 =>
    if bh ≤ x3 then
      some (x2)
    else
      bd1 (f0_numberOf bF bZ bK bM x3 x1) (fun q3 =>
        (f0_numberOfAll_l4 bh bF bZ bK bM x1 n) (x2 + q3) (x3 + 1))
def f0_numberOfAll (bh : Int32) (bF : Nat → Int32) (bZ : Nat → Int32) (bK : Nat → Int32) (bM : Nat → Int32) (x1 : Int32) : Option (Int32) :=
  f0_numberOfAll_l4 bh bF bZ bK bM x1 fu (0 : Int32) (0 : Int32)
def f0_booksBefore_l4 (bh : Int32) (bF : Nat → Int32) (x1 : Int32) : Nat → Int32 → Int32 → Option (Int32)
  | 0, _, _ => none
  | n + 1, x2, x3 =>
    if bh ≤ x3 then
      some (x2)
    else
      bd1 (f0_firstOf bF x3) (fun q3 =>
        (f0_booksBefore_l4 bh bF x1 n) (if x1 ≤ q3 then x2 else (x2 + 1)) (x3 + 1))
def f0_booksBefore (bh : Int32) (bF : Nat → Int32) (x1 : Int32) : Option (Int32) :=
  f0_booksBefore_l4 bh bF x1 fu (0 : Int32) (0 : Int32)
def f0_bookOfRank_l2 (bh : Int32) (bF : Nat → Int32) (x1 : Int32) : Nat → Int32 → Option (Int32)
  | 0, _ => none
  | n + 1, x2 =>
    if bh ≤ x2 then
      some ((-1 : Int32))
    else
      bd1 (f0_firstOf bF x2) (fun q3 =>
        bd1 (f0_booksBefore bh bF q3) (fun q5 =>
          if q5 = x1 then
            some (x2)
          else
            (f0_bookOfRank_l2 bh bF x1 n) (x2 + 1)))
def f0_bookOfRank (bh : Int32) (bF : Nat → Int32) (x1 : Int32) : Option (Int32) :=
  f0_bookOfRank_l2 bh bF x1 fu (0 : Int32)
def f0_serialOfRank_l4 (bh : Int32) (bF : Nat → Int32) (bZ : Nat → Int32) : Nat → Int32 → Int32 → Option (Int32)
  | 0, _, _ => none
  | n + 1, x2, x3 =>
    if bh ≤ x3 then
      some ((-1 : Int32))
    else
      bd1 (f0_bookOfRank bh bF x3) (fun q3 =>
        bd1 (f0_sizeOf bZ q3) (fun q5 =>
          if q5 ≤ x2 then
            (f0_serialOfRank_l4 bh bF bZ n) (x2 - q5) (x3 + 1)
          else
            bd1 (f0_firstOf bF q3) (fun q8 =>
              some ((q8 + x2)))))
def f0_serialOfRank (bh : Int32) (bF : Nat → Int32) (bZ : Nat → Int32) (x1 : Int32) : Option (Int32) :=
  f0_serialOfRank_l4 bh bF bZ fu x1 (0 : Int32)
def f0_copyFrom (bh : Int32) (bF : Nat → Int32) (bZ : Nat → Int32) (bK : Nat → Int32) (bM : Nat → Int32) (bho : Int32) (bFo : Nat → Int32) (bZo : Nat → Int32) (bKo : Nat → Int32) (bMo : Nat → Int32) : Option (Int32 × (Nat → Int32) × (Nat → Int32) × (Nat → Int32) × (Nat → Int32)) :=
  bd1 (f5_copyRowE 6 6 bFo bF) (fun u2 =>
    bd1 (f5_copyRowE 6 6 bZo bZ) (fun u4 =>
      bd1 (f5_copyRowE 240 240 bKo bK) (fun u6 =>
        bd1 (f5_copyRowE 240 240 bMo bM) (fun u8 =>
          some (bho, u2, u4, u6, u8)))))
def f4_reasonAgainstCashing (wm : Int32) (wW : Nat → Int32) (bh : Int32) (bF : Nat → Int32) (bZ : Nat → Int32) (bK : Nat → Int32) (x1 : Int32) (x2 : Int32) : Option (Int32) :=
  bd1 (f2_letterOf wm wW x1) (fun q2 =>
    if q2 = x2 then
      bd1 (f0_cellOf bh bF bZ x1) (fun q5 =>
        if q5 = (-1 : Int32) then
          some ((2 : Int32))
        else
          bd1 (f0_kindAt bK q5) (fun q8 =>
            some ((if q8 = (1 : Int32) then (0 : Int32) else (3 : Int32)))))
    else
      some ((1 : Int32)))
def f4_cashByReading (sr : Int32) (wm : Int32) (wW : Nat → Int32) (bh : Int32) (bF : Nat → Int32) (bZ : Nat → Int32) (bK : Nat → Int32) (bM : Nat → Int32) (x1 : Int32) (x2 : Int32) : Option (Int32 × Int32 × (Nat → Int32) × (Nat → Int32)) :=
  bd1 (f4_reasonAgainstCashing wm wW bh bF bZ bK x1 x2) (fun q2 =>
    if q2 = 0 then
      bd1 (f0_cellOf bh bF bZ x1) (fun q5 =>
        bd2 (f0_makeCashed bK bM q5) (fun u7 u8 =>
          bd1 (f0_amountAt u8 q5) (fun q10 =>
            some (q10, sr, u7, u8))))
    else
      some ((-q2), (sr + (1 : Int32)), bK, bM))
def f4_meantCheques_l61 (k6 : Int32 → Int32 → Option (Int32)) (wm : Int32) (wW : Nat → Int32) (bh : Int32) (bF : Nat → Int32) (bZ : Nat → Int32) (x1 : Int32) (x2 : Int32) (x3 : Int32) (x5 : Int32) (x7 : Int32) : Nat → Int32 → Int32 → Option (Int32)
  | 0, _, _ => none
  | n + 1, x4, x8 =>
    if x7 ≤ x8 then
      k6 x4 (x5 + 1)
    else
      bd1 (f2_slipKind wm wW x8 x1 x2) (fun q13 =>
        if q13 = (-1 : Int32) then
          (f4_meantCheques_l61 k6 wm wW bh bF bZ x1 x2 x3 x5 x7 n) x4 (x8 + 1)
        else
          if x4 = x3 then
            some (x8)
          else
            (f4_meantCheques_l61 k6 wm wW bh bF bZ x1 x2 x3 x5 x7 n) (x4 + 1) (x8 + 1))
def f4_meantCheques_l6 (wm : Int32) (wW : Nat → Int32) (bh : Int32) (bF : Nat → Int32) (bZ : Nat → Int32) (x1 : Int32) (x2 : Int32) (x3 : Int32) : Nat → Int32 → Int32 → Option (Int32)
  | 0, _, _ => none
  | n + 1, x4, x5 =>
    if bh ≤ x5 then
      some ((if x3 = (-1 : Int32) then x4 else (-1 : Int32)))
    else
      bd1 (f0_bookOfRank bh bF x5) (fun q4 =>
        bd1 (f0_firstOf bF q4) (fun q6 =>
          bd1 (f0_sizeOf bZ q4) (fun q8 =>
            bd1 (f0_firstOf bF q4) (fun q10 =>
              f4_meantCheques_l61 (f4_meantCheques_l6 wm wW bh bF bZ x1 x2 x3 n) wm wW bh bF bZ x1 x2 x3 x5 (q6 + q8) fu x4 q10))))
def f4_meantCheques (wm : Int32) (wW : Nat → Int32) (bh : Int32) (bF : Nat → Int32) (bZ : Nat → Int32) (x1 : Int32) (x2 : Int32) (x3 : Int32) : Option (Int32) :=
  f4_meantCheques_l6 wm wW bh bF bZ x1 x2 x3 fu (0 : Int32) (0 : Int32)
def f4_copyFrom (sr : Int32) (wm : Int32) (wW : Nat → Int32) (bh : Int32) (bF : Nat → Int32) (bZ : Nat → Int32) (bK : Nat → Int32) (bM : Nat → Int32) (sro : Int32) (wmo : Int32) (wWo : Nat → Int32) (bho : Int32) (bFo : Nat → Int32) (bZo : Nat → Int32) (bKo : Nat → Int32) (bMo : Nat → Int32) : Option (Int32 × Int32 × (Nat → Int32) × Int32 × (Nat → Int32) × (Nat → Int32) × (Nat → Int32) × (Nat → Int32)) :=
  bd2 (f2_copyFrom wm wW wmo wWo) (fun u2 u3 =>
    bd5 (f0_copyFrom bh bF bZ bK bM bho bFo bZo bKo bMo) (fun u5 u6 u7 u8 u9 =>
      some (sro, u2, u3, u5, u6, u7, u8, u9)))
def f3_isDigit (x0 : Int32) : Option (Int32) :=
  some ((if x0 < (48 : Int32) then (0 : Int32) else (if (57 : Int32) < x0 then (0 : Int32) else (1 : Int32))))
def f3_endsHead (x0 : Int32) (x1 : Int32) : Option (Int32) :=
  if x0 = (98 : Int32) then
    some ((if x1 = (43 : Int32) then (1 : Int32) else (0 : Int32)))
  else
    if x0 = (99 : Int32) then
      some ((if x1 < (65 : Int32) then (0 : Int32) else (if (90 : Int32) < x1 then (0 : Int32) else (1 : Int32))))
    else
      if x0 = (118 : Int32) then
        some ((if x1 = (45 : Int32) then (1 : Int32) else (0 : Int32)))
      else
        if x0 = (119 : Int32) then
          some ((if x1 = (61 : Int32) then (1 : Int32) else (0 : Int32)))
        else
          some ((0 : Int32))
def f3_isFull (ol : Int32) : Option (Int32) :=
  some ((if ol < (60 : Int32) then (0 : Int32) else (1 : Int32)))
def f3_add (ol : Int32) (oS : Nat → Int32) (x1 : Int32) : Option (Int32 × Int32 × (Nat → Int32)) :=
  some ((if ol < 0 then ol else (if (60 : Int32) ≤ ol then ol else (ol + (1 : Int32)))), (if ol < 0 then ol else (if (60 : Int32) ≤ ol then ol else (ol + (1 : Int32)))), (if ol < 0 then oS else (if (60 : Int32) ≤ ol then oS else (upd oS ol.toNatClampNeg x1))))
def f3_clear (ol : Int32) : Option (Int32 × Int32) :=
  some (ol, (0 : Int32))
def f3_signAt (ol : Int32) (oS : Nat → Int32) (x1 : Int32) : Option (Int32) :=
  some ((if x1 < 0 then (0 : Int32) else (if ol ≤ x1 then (0 : Int32) else (if (60 : Int32) ≤ x1 then (0 : Int32) else (oS x1.toNatClampNeg)))))
def f3_numberIn_l5 (ol : Int32) (oS : Nat → Int32) (x2 : Int32) : Nat → Int32 → Int32 → Option (Int32)
  | 0, _, _ => none
  | n + 1, x3, x4 =>
    if x2 ≤ x4 then
      some (x3)
    else
      bd1 (f3_signAt ol oS x4) (fun q3 =>
        (f3_numberIn_l5 ol oS x2 n) (((x3 * (10 : Int32)) + q3) - (48 : Int32)) (x4 + 1))
def f3_numberIn (ol : Int32) (oS : Nat → Int32) (x1 : Int32) (x2 : Int32) : Option (Int32) :=
  f3_numberIn_l5 ol oS x2 fu (0 : Int32) x1
def f3_isWhole (ol : Int32) (oS : Nat → Int32) (x1 : Int32) (x2 : Int32) : Option (Int32) :=
  bd1 (f3_signAt ol oS x1) (fun q2 =>
    if q2 = (98 : Int32) then
      some ((if (x2 - x1) ≤ (8 : Int32) then (0 : Int32) else (1 : Int32)))
    else
      if q2 = (99 : Int32) then
        some ((if (x2 - x1) = (8 : Int32) then (1 : Int32) else (0 : Int32)))
      else
        if q2 = (118 : Int32) then
          some ((if (x2 - x1) = (14 : Int32) then (1 : Int32) else (0 : Int32)))
        else
          if q2 = (119 : Int32) then
            some ((if (x2 - x1) ≤ (8 : Int32) then (0 : Int32) else (1 : Int32)))
          else
            some ((0 : Int32)))
def f3_fitsBehindHead (ol : Int32) (oS : Nat → Int32) (x1 : Int32) (x2 : Int32) : Option (Int32) :=
  bd1 (f3_numberIn ol oS (x1 + (8 : Int32)) (x2 + (1 : Int32))) (fun q2 =>
    bd1 (f3_signAt ol oS x1) (fun q4 =>
      if q4 = (98 : Int32) then
        some ((if q2 < (1 : Int32) then (0 : Int32) else (if (40 : Int32) < q2 then (0 : Int32) else (1 : Int32))))
      else
        if q4 = (118 : Int32) then
          some ((if (14 : Int32) ≤ (x2 - x1) then (0 : Int32) else (1 : Int32)))
        else
          if q4 = (119 : Int32) then
            some ((if q2 < (1 : Int32) then (0 : Int32) else (if (999 : Int32) < q2 then (0 : Int32) else (1 : Int32))))
          else
            some ((0 : Int32))))
def f3_fits (ol : Int32) (oS : Nat → Int32) (x1 : Int32) (x2 : Int32) : Option (Int32) :=
  bd1 (f3_signAt ol oS x2) (fun q2 =>
    if q2 = (59 : Int32) then
      bd1 (f3_isWhole ol oS x1 x2) (fun q24 =>
        if isZ q24 then
          some (q24)
        else none)
    else
      if (x2 - x1) = 0 then
        some ((if q2 = (98 : Int32) then (1 : Int32) else (if q2 = (119 : Int32) then (1 : Int32) else (if q2 = (99 : Int32) then (1 : Int32) else (if q2 = (118 : Int32) then (1 : Int32) else (0 : Int32))))))
      else
        if (6 : Int32) < (x2 - x1) then
          if (8 : Int32) ≤ (x2 - x1) then
            bd1 (f3_isDigit q2) (fun q8 =>
              if q8 = 0 then
                some ((0 : Int32))
              else
                bd1 (f3_fitsBehindHead ol oS x1 x2) (fun q11 =>
                  some ((if q11 = 0 then (0 : Int32) else (1 : Int32)))))
          else
            bd1 (f3_signAt ol oS x1) (fun q14 =>
              bd1 (f3_endsHead q14 q2) (fun q16 =>
                if isZ q16 then
                  some (q16)
                else none))
        else
          bd1 (f3_isDigit q2) (fun q18 =>
            if isZ q18 then
              some (q18)
            else none))
def f3_errorIndex_l4 (ol : Int32) (oS : Nat → Int32) : Nat → Int32 → Int32 → Option (Int32)
  | 0, _, _ => none
  | n + 1, x1, x2 =>
    if ol ≤ x2 then
      some (ol)
    else
      bd1 (f3_fits ol oS x1 x2) (fun q3 =>
        if q3 = 0 then
          some (x2)
        else
          bd1 (f3_signAt ol oS x2) (fun q6 =>
            (f3_errorIndex_l4 ol oS n) (if q6 = (59 : Int32) then (x2 + (1 : Int32)) else x1) (x2 + 1)))
def f3_errorIndex (ol : Int32) (oS : Nat → Int32) : Option (Int32) :=
  f3_errorIndex_l4 ol oS fu (0 : Int32) (0 : Int32)
def f3_isComplete_l17 (ol : Int32) (oS : Nat → Int32) : Nat → Int32 → Int32 → Option (Int32)
  | 0, _, _ => none
  | n + 1, x1, x2 =>
    if ol ≤ x2 then
      bd1 (f3_isWhole ol oS x1 ol) (fun q6 =>
        if isZ q6 then
          some (q6)
        else none)
    else
      bd1 (f3_signAt ol oS x2) (fun q8 =>
        (f3_isComplete_l17 ol oS n) (if q8 = (59 : Int32) then (x2 + (1 : Int32)) else x1) (x2 + 1))
def f3_isComplete (ol : Int32) (oS : Nat → Int32) : Option (Int32) :=
  bd1 (f3_errorIndex ol oS) (fun q2 =>
    if ol ≤ q2 then
      f3_isComplete_l17 ol oS fu (0 : Int32) (0 : Int32)
    else
      some ((0 : Int32)))
