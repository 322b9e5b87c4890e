
/-! ===== the law's methods as programs over states ===== -/
set_option maxRecDepth 100000 in
def fL_seen_l101 (st : ST) : Nat → Int64 → Int32 → Option (Int64)
  | 0, _, _ => none
  | n + 1, x1, x3 =>
    bd2 (F_count st (1 : Int32)) (fun k20 q21 =>
      if k20 = 0 then
        if q21 ≤ x3 then
          some (x1)
        else
          if (20 : Int32) ≤ x3 then
            some (x1)
          else
            bd2 (F_ranked st x3) (fun k26 q27 =>
              if k26 = 0 then
                bd2 (F_ranked st x3) (fun k30 q31 =>
                  if k30 = 0 then
                    bd2 (F_cheque st q31 (0 : Int32)) (fun k34 q35 =>
                      if k34 = 0 then
                        bd2 (F_ranked st x3) (fun k38 q39 =>
                          if k38 = 0 then
                            bd2 (F_cheque st q39 (1 : Int32)) (fun k42 q43 =>
                              if k42 = 0 then
                                lt_ (((((31 : Int64) * x1) + ((5 : Int64) * q27.toInt64)) + q35.toInt64) + ((3 : Int64) * q43.toInt64)) (fun t46 =>
                                  (fL_seen_l101 st n) t46 (x3 + 1))
                              else none)
                          else none)
                      else none)
                  else none)
              else none)
      else none)
set_option maxRecDepth 100000 in
def fL_seen_l61 (st : ST) : Nat → Int64 → Int32 → Option (Int64)
  | 0, _, _ => none
  | n + 1, x1, x3 =>
    bd2 (F_count st (0 : Int32)) (fun k11 q12 =>
      if k11 = 0 then
        if ((9 : Int32) * q12) ≤ x3 then
          fL_seen_l101 st fu x1 (0 : Int32)
        else
          bd2 (F_bookOf st (x3 / (9 : Int32)) (x3 - x3 / (9 : Int32) * (9 : Int32))) (fun k16 q17 =>
            if k16 = 0 then
              (fL_seen_l61 st n) (((31 : Int64) * x1) + q17.toInt64) (x3 + 1)
            else none)
      else none)
set_option maxRecDepth 100000 in
def fL_seen_l34 (st : ST) : Nat → Int64 → Int32 → Option (Int64)
  | 0, _, _ => none
  | n + 1, x1, x3 =>
    if (18 : Int32) ≤ x3 then
      fL_seen_l61 st fu x1 (0 : Int32)
    else
      bd2 (F_count st x3) (fun k7 q8 =>
        if k7 = 0 then
          (fL_seen_l34 st n) (((31 : Int64) * x1) + q8.toInt64) (x3 + 1)
        else none)
set_option maxRecDepth 100000 in
def fL_seen_l6 (st : ST) : Nat → Int64 → Int32 → Option (Int64)
  | 0, _, _ => none
  | n + 1, x1, x3 =>
    if (10 : Int32) ≤ x3 then
      fL_seen_l34 st fu x1 (12 : Int32)
    else
      bd2 (F_count st x3) (fun k2 q3 =>
        if k2 = 0 then
          (fL_seen_l6 st n) (((31 : Int64) * x1) + q3.toInt64) (x3 + 1)
        else none)
set_option maxRecDepth 100000 in
def fL_seen (st : ST) : Option (Int64) :=
  fL_seen_l6 st fu (642 : Int64) (0 : Int32)
set_option maxRecDepth 100000 in
def fL_refusesOne_j670 (st : ST) (x2 : Int32) (x3 : Int32) (s0 : Int32) : Option (Int32 × ST) :=
  bd1 (FC_meant st (0 : Int32) (25 : Int32) s0) (fun q182 =>
    if q182 = (-12 : Int32) then
      bd1 (FC_slip st x2 (0 : Int32) (99 : Int32)) (fun q185 =>
        if q185 = (-11 : Int32) then
          bd1 (FC_slip st (0 : Int32) x2 (99 : Int32)) (fun q188 =>
            if q188 = (-11 : Int32) then
              bd1 (FC_slip st (0 : Int32) (0 : Int32) x3) (fun q191 =>
                if q191 = (-12 : Int32) then
                  some ((1 : Int32), st)
                else
                  some ((0 : Int32), st))
            else
              some ((0 : Int32), st))
        else
          some ((0 : Int32), st))
    else
      some ((0 : Int32), st))
set_option maxRecDepth 100000 in
def fL_refusesOne_j552 (st : ST) (x1 : Int32) (x2 : Int32) (x3 : Int32) (s0 : Int32) : Option (Int32 × ST) :=
  bd1 (FC_weak st (5 : Int32) s0 (0 : Int32)) (fun q157 =>
    if q157 = (-12 : Int32) then
      bd1 (fL_far x1 (0 : Int32) (1 : Int32)) (fun q160 =>
        bd1 (FC_weak st (4 : Int32) (1 : Int32) q160) (fun q162 =>
          if q162 = (-12 : Int32) then
            bd1 (fL_far x1 (0 : Int32) (5 : Int32)) (fun q165 =>
              bd1 (FC_bestWeight st q165 (0 : Int32) (0 : Int32)) (fun q167 =>
                if q167 = (-11 : Int32) then
                  bd1 (fL_far x1 (0 : Int32) (2 : Int32)) (fun q170 =>
                    bd1 (FC_finds st q170 (0 : Int32) (0 : Int32)) (fun q172 =>
                      if q172 = (-12 : Int32) then
                        bd1 (FC_meant st x2 (99 : Int32) (-9 : Int32)) (fun q175 =>
                          if q175 = (-11 : Int32) then
                            bd1 (FC_meant st (0 : Int32) x3 (0 : Int32)) (fun q178 =>
                              if q178 = (-12 : Int32) then
                                if (2 : Int32) ≤ x1 then
                                  fL_refusesOne_j670 st x2 x3 (-2147483648 : Int32)
                                else
                                  fL_refusesOne_j670 st x2 x3 ((-2 : Int32) - x1)
                              else
                                some ((0 : Int32), st))
                          else
                            some ((0 : Int32), st))
                      else
                        some ((0 : Int32), st)))
                else
                  some ((0 : Int32), st)))
          else
            some ((0 : Int32), st)))
    else
      some ((0 : Int32), st))
set_option maxRecDepth 100000 in
def fL_refusesOne_j461 (st : ST) (x1 : Int32) (x2 : Int32) (x3 : Int32) : Option (Int32 × ST) :=
  bd1 (FC_missed st x2 (9 : Int32) (0 : Int32)) (fun q136 =>
    if q136 = (-11 : Int32) then
      bd1 (fL_far x1 (0 : Int32) (2 : Int32)) (fun q139 =>
        bd1 (FC_missed st (0 : Int32) q139 (0 : Int32)) (fun q141 =>
          if q141 = (-12 : Int32) then
            bd1 (fL_far x1 (0 : Int32) (5 : Int32)) (fun q144 =>
              bd1 (FC_weak st q144 (0 : Int32) (0 : Int32)) (fun q146 =>
                if q146 = (-11 : Int32) then
                  bd1 (fL_far x1 (0 : Int32) (4 : Int32)) (fun q149 =>
                    bd1 (FC_weak st q149 (1 : Int32) (9 : Int32)) (fun q151 =>
                      if q151 = (-11 : Int32) then
                        if x1 = 0 then
                          fL_refusesOne_j552 st x1 x2 x3 (-1 : Int32)
                        else
                          bd1 (fL_far x1 (2 : Int32) (3 : Int32)) (fun q155 =>
                            fL_refusesOne_j552 st x1 x2 x3 q155)
                      else
                        some ((0 : Int32), st)))
                else
                  some ((0 : Int32), st)))
          else
            some ((0 : Int32), st)))
    else
      some ((0 : Int32), st))
set_option maxRecDepth 100000 in
def fL_refusesOne_j372 (st : ST) (x1 : Int32) (x2 : Int32) (x3 : Int32) (s0 : Int32) : Option (Int32 × ST) :=
  bd1 (FC_ranked st s0 (0 : Int32) (0 : Int32)) (fun q104 =>
    if q104 = (-12 : Int32) then
      bd2 (F_count st (0 : Int32)) (fun k107 q108 =>
        if k107 = 0 then
          if q108 ≤ 0 then
            fL_refusesOne_j461 st x1 x2 x3
          else
            bd2 (F_ranked st (0 : Int32)) (fun k112 q113 =>
              if k112 = 0 then
                bd1 (fL_far x1 (0 : Int32) (4 : Int32)) (fun q116 =>
                  bd1 (FC_cheque st q113 q116 (0 : Int32)) (fun q118 =>
                    if q118 = (-12 : Int32) then
                      bd1 (fL_far x1 (0 : Int32) (8 : Int32)) (fun q121 =>
                        bd1 (FC_bookOf st (0 : Int32) q121 (0 : Int32)) (fun q123 =>
                          if q123 = (-12 : Int32) then
                            bd2 (F_ranked st (0 : Int32)) (fun k126 q127 =>
                              if k126 = 0 then
                                bd1 (fL_far x1 (1 : Int32) (999 : Int32)) (fun q130 =>
                                  bd2 (FC_write st q127 q130 (0 : Int32)) (fun q132 u133 =>
                                    if q132 = (-12 : Int32) then
                                      fL_refusesOne_j461 u133 x1 x2 x3
                                    else
                                      some ((0 : Int32), u133)))
                              else none)
                          else
                            some ((0 : Int32), st)))
                    else
                      some ((0 : Int32), st)))
              else none)
        else none)
    else
      some ((0 : Int32), st))
set_option maxRecDepth 100000 in
def fL_refusesOne (st : ST) (x1 : Int32) : Option (Int32 × ST) :=
  bd1 (fL_far x1 (0 : Int32) (999999 : Int32)) (fun q1 =>
    bd1 (fL_far x1 (0 : Int32) (25 : Int32)) (fun q3 =>
      bd1 (fL_far x1 (0 : Int32) (5 : Int32)) (fun q5 =>
        bd2 (FC_weight st q5 (0 : Int32) (0 : Int32)) (fun q7 u8 =>
          if q7 = (-11 : Int32) then
            bd1 (fL_far x1 (1 : Int32) (9 : Int32)) (fun q11 =>
              bd2 (FC_weight u8 (5 : Int32) q11 (0 : Int32)) (fun q13 u14 =>
                if q13 = (-12 : Int32) then
                  bd1 (fL_far x1 (7 : Int32) (26 : Int32)) (fun q17 =>
                    bd2 (FC_modulus u14 q17 (0 : Int32) (0 : Int32)) (fun q19 u20 =>
                      if q19 = (-12 : Int32) then
                        bd2 (FC_book u20 q1 (0 : Int32) (0 : Int32)) (fun q23 u24 =>
                          if q23 = (-11 : Int32) then
                            bd1 (fL_far x1 (1 : Int32) (40 : Int32)) (fun q27 =>
                              bd2 (FC_book u24 (999999 : Int32) q27 (0 : Int32)) (fun q29 u30 =>
                                if q29 = (-12 : Int32) then
                                  bd2 (FC_book u30 ((999999 : Int32) - x1) ((2 : Int32) + x1) (0 : Int32)) (fun q33 u34 =>
                                    if q33 = (-11 : Int32) then
                                      bd2 (FC_write u34 q1 (0 : Int32) (0 : Int32)) (fun q37 u38 =>
                                        if q37 = (-11 : Int32) then
                                          bd2 (FC_cash u38 q1 (99 : Int32) (0 : Int32)) (fun q41 u42 =>
                                            if q41 = (-11 : Int32) then
                                              bd2 (FC_cash u42 (0 : Int32) q3 (0 : Int32)) (fun q45 u46 =>
                                                if q45 = (-12 : Int32) then
                                                  bd2 (FC_voidRun u46 q1 (0 : Int32) (0 : Int32)) (fun q49 u50 =>
                                                    if q49 = (-11 : Int32) then
                                                      bd2 (FC_voidRun u50 (999999 : Int32) q1 (0 : Int32)) (fun q53 u54 =>
                                                        if q53 = (-11 : Int32) then
                                                          bd2 (FC_voidRun u54 (999999 : Int32) ((999998 : Int32) - x1) (0 : Int32)) (fun q57 u58 =>
                                                            if q57 = (-12 : Int32) then
                                                              bd1 (fL_far x1 (33 : Int32) (126 : Int32)) (fun q61 =>
                                                                bd2 (FC_append u58 q61 (0 : Int32) (0 : Int32)) (fun q63 u64 =>
                                                                  if q63 = (-12 : Int32) then
                                                                    bd2 (FC_execute u64 (0 : Int32) (0 : Int32) (0 : Int32)) (fun q67 u68 =>
                                                                      if q67 = (-12 : Int32) then
                                                                        bd1 (fL_far x1 (0 : Int32) (1 : Int32)) (fun q71 =>
                                                                          bd2 (FC_keep u68 q71 (0 : Int32) (0 : Int32)) (fun q73 u74 =>
                                                                            if q73 = (-12 : Int32) then
                                                                              bd1 (fL_far x1 (0 : Int32) (1 : Int32)) (fun q77 =>
                                                                                bd2 (FC_goBack u74 q77 (0 : Int32) (0 : Int32)) (fun q79 u80 =>
                                                                                  if q79 = (-12 : Int32) then
                                                                                    bd1 (FC_letter u80 q1 (0 : Int32) (0 : Int32)) (fun q83 =>
                                                                                      if q83 = (-11 : Int32) then
                                                                                        bd1 (FC_cheque u80 q1 (9 : Int32) (0 : Int32)) (fun q86 =>
                                                                                          if q86 = (-11 : Int32) then
                                                                                            bd2 (F_count u80 (0 : Int32)) (fun k89 q90 =>
                                                                                              if k89 = 0 then
                                                                                                bd1 (fL_far x1 (0 : Int32) (q90 - (1 : Int32))) (fun q93 =>
                                                                                                  bd1 (FC_bookOf u80 q93 (9 : Int32) (0 : Int32)) (fun q95 =>
                                                                                                    if q95 = (-11 : Int32) then
                                                                                                      bd1 (fL_far x1 (0 : Int32) (17 : Int32)) (fun q98 =>
                                                                                                        bd1 (FC_count u80 q98 (0 : Int32) (0 : Int32)) (fun q100 =>
                                                                                                          if q100 = (-12 : Int32) then
                                                                                                            if (2 : Int32) ≤ x1 then
                                                                                                              fL_refusesOne_j372 u80 x1 q1 q3 (-2147483648 : Int32)
                                                                                                            else
                                                                                                              fL_refusesOne_j372 u80 x1 q1 q3 ((-1 : Int32) - x1)
                                                                                                          else
                                                                                                            some ((0 : Int32), u80)))
                                                                                                    else
                                                                                                      some ((0 : Int32), u80)))
                                                                                              else none)
                                                                                          else
                                                                                            some ((0 : Int32), u80))
                                                                                      else
                                                                                        some ((0 : Int32), u80))
                                                                                  else
                                                                                    some ((0 : Int32), u80)))
                                                                            else
                                                                              some ((0 : Int32), u74)))
                                                                      else
                                                                        some ((0 : Int32), u68))
                                                                  else
                                                                    some ((0 : Int32), u64)))
                                                            else
                                                              some ((0 : Int32), u58))
                                                        else
                                                          some ((0 : Int32), u54))
                                                    else
                                                      some ((0 : Int32), u50))
                                                else
                                                  some ((0 : Int32), u46))
                                            else
                                              some ((0 : Int32), u42))
                                        else
                                          some ((0 : Int32), u38))
                                    else
                                      some ((0 : Int32), u34))
                                else
                                  some ((0 : Int32), u30)))
                          else
                            some ((0 : Int32), u24))
                      else
                        some ((0 : Int32), u20)))
                else
                  some ((0 : Int32), u14)))
          else
            some ((0 : Int32), u8)))))
set_option maxRecDepth 100000 in
def fL_refused_l15 (x1 : Int64) (x3 : Int32) : Nat → Int32 → ST → Option (Int32 × ST)
  | 0, _, _ => none
  | n + 1, x4, st =>
    if (4 : Int32) ≤ x4 then
      bd1 (fL_seen st) (fun q8 =>
        if (lg_cmp q8 x1) = 0 then
          bd2 (F_count st (10 : Int32)) (fun k11 q12 =>
            if k11 = 0 then
              if q12 = x3 then
                some ((1 : Int32), st)
              else
                some ((0 : Int32), st)
            else none)
        else
          some ((0 : Int32), st))
    else
      bd2 (fL_refusesOne st x4) (fun q16 u18 =>
        if q16 = 0 then
          some ((0 : Int32), u18)
        else
          (fL_refused_l15 x1 x3 n) (x4 + 1) u18)
set_option maxRecDepth 100000 in
def fL_refused (st : ST) : Option (Int32 × ST) :=
  bd1 (fL_seen st) (fun q1 =>
    bd2 (F_count st (10 : Int32)) (fun k3 q4 =>
      if k3 = 0 then
        fL_refused_l15 q1 q4 5 (0 : Int32) st
      else none))
set_option maxRecDepth 100000 in
def fL_types_j40 (k6 : Int32 → Int32 → ST → Option (Int32 × ST)) (st : ST) (x1 : Int64) (x4 : Int32) : Option (Int32 × ST) :=
  k6 (1 : Int32) (x4 + (-8)) st
set_option maxRecDepth 100000 in
def fL_types_j44 (k6 : Int32 → Int32 → ST → Option (Int32 × ST)) (st : ST) (x1 : Int64) (x4 : Int32) : Option (Int32 × ST) :=
  k6 (0 : Int32) (x4 + (-8)) st
set_option maxRecDepth 100000 in
def fL_types_l6 (x1 : Int64) : Nat → Int32 → Int32 → ST → Option (Int32 × ST)
  | 0, _, _, _ => none
  | n + 1, x3, x4, st =>
    if x4 < 0 then
      if isZ x3 then
        some (x3, st)
      else none
    else
      lt_ (((x1 >>> (x4.toInt64 &&& 63)) &&& (255 : Int64)).toInt32) (fun t2 =>
        if x3 = 0 then
          fL_types_j44 (fL_types_l6 x1 n) st x1 x4
        else
          if t2 = 0 then
            fL_types_j40 (fL_types_l6 x1 n) st x1 x4
          else
            bd3 (F_append st t2) (fun k6 q7 u8 =>
              if k6 = 0 then
                if q7 ≤ 0 then
                  fL_types_j44 (fL_types_l6 x1 n) u8 x1 x4
                else
                  fL_types_j40 (fL_types_l6 x1 n) u8 x1 x4
              else none))
set_option maxRecDepth 100000 in
def fL_types (st : ST) (x1 : Int64) : Option (Int32 × ST) :=
  fL_types_l6 x1 9 (1 : Int32) (56 : Int32) st
set_option maxRecDepth 100000 in
def fL_isError (st : ST) (x1 : Int64) (x3 : Int64) (x5 : Int32) : Option (Int32 × ST) :=
  bd2 (F_clearBuffer st) (fun q1 u2 =>
    if q1 < 0 then
      some ((0 : Int32), u2)
    else
      bd2 (fL_types u2 x1) (fun q5 u7 =>
        if q5 = 0 then
          some ((0 : Int32), u7)
        else
          bd2 (fL_types u7 x3) (fun q9 u11 =>
            if q9 = 0 then
              some ((0 : Int32), u11)
            else
              bd1 (F_firstError u11) (fun q13 =>
                if q13 = x5 then
                  some ((1 : Int32), u11)
                else
                  some ((0 : Int32), u11)))))
set_option maxRecDepth 100000 in
def fL_lettersB (st : ST) : Option (Int32) :=
  bd2 (FC_undo st (0 : Int32) (0 : Int32) (0 : Int32)) (fun q1 u2 =>
    if q1 = (-13 : Int32) then
      bd2 (FC_goBack u2 (0 : Int32) (0 : Int32) (0 : Int32)) (fun q5 u6 =>
        if q5 = (-13 : Int32) then
          bd2 (F_count u6 (9 : Int32)) (fun k9 q10 =>
            if k9 = 0 then
              if q10 = (11 : Int32) then
                bd2 (F_count u6 (17 : Int32)) (fun k14 q15 =>
                  if k14 = 0 then
                    if q15 = (6 : Int32) then
                      bd2 (F_letter u6 (123 : Int32)) (fun k19 q20 =>
                        if k19 = 0 then
                          if q20 = (10 : Int32) then
                            bd2 (F_letter u6 (123456 : Int32)) (fun k24 q25 =>
                              if k24 = 0 then
                                if q25 = (3 : Int32) then
                                  bd2 (F_letter u6 (0 : Int32)) (fun k29 q30 =>
                                    if k29 = 0 then
                                      if q30 = 0 then
                                        bd2 (F_letter u6 (999999 : Int32)) (fun k34 q35 =>
                                          if k34 = 0 then
                                            if q35 = (2 : Int32) then
                                              bd2 (F_finds u6 (0 : Int32)) (fun k39 q40 =>
                                                if k39 = 0 then
                                                  if q40 = 0 then
                                                    some ((0 : Int32))
                                                  else
                                                    bd2 (F_finds u6 (1 : Int32)) (fun k44 q45 =>
                                                      if k44 = 0 then
                                                        if q45 = 0 then
                                                          some ((0 : Int32))
                                                        else
                                                          bd2 (F_finds u6 (2 : Int32)) (fun k49 q50 =>
                                                            if k49 = 0 then
                                                              if q50 = 0 then
                                                                some ((0 : Int32))
                                                              else
                                                                bd2 (F_bestWeight u6 (0 : Int32)) (fun k54 q55 =>
                                                                  if k54 = 0 then
                                                                    if q55 = (1 : Int32) then
                                                                      bd2 (F_bestWeight u6 (1 : Int32)) (fun k59 q60 =>
                                                                        if k59 = 0 then
                                                                          if q60 = (2 : Int32) then
                                                                            bd2 (F_bestWeight u6 (5 : Int32)) (fun k64 q65 =>
                                                                              if k64 = 0 then
                                                                                if q65 = (1 : Int32) then
                                                                                  bd2 (F_missed u6 (123 : Int32) (0 : Int32)) (fun k69 q70 =>
                                                                                    if k69 = 0 then
                                                                                      if q70 = 0 then
                                                                                        bd2 (F_ranked u6 (0 : Int32)) (fun k74 q75 =>
                                                                                          if k74 = 0 then
                                                                                            if q75 = (-1 : Int32) then
                                                                                              bd1 (F_cashed u6) (fun q79 =>
                                                                                                if (Op.cmpValue (FP.dcmp q79 FP.dconst0) .l) = 0 then
                                                                                                  bd2 (fL_refused u6) (fun q82 u84 =>
                                                                                                    if q82 = 0 then
                                                                                                      some ((0 : Int32))
                                                                                                    else
                                                                                                      bd2 (F_slip u84 (90 : Int32) (90 : Int32) (1 : Int32)) (fun k86 q87 =>
                                                                                                        if k86 = 0 then
                                                                                                          if q87 = (3 : Int32) then
                                                                                                            bd2 (F_slip u84 (90 : Int32) (90 : Int32) (2 : Int32)) (fun k91 q92 =>
                                                                                                              if k91 = 0 then
                                                                                                                if q92 = (2 : Int32) then
                                                                                                                  bd2 (F_slip u84 (90 : Int32) (90 : Int32) (10 : Int32)) (fun k96 q97 =>
                                                                                                                    if k96 = 0 then
                                                                                                                      if q97 = (2 : Int32) then
                                                                                                                        bd2 (F_slip u84 (90 : Int32) (90 : Int32) (11 : Int32)) (fun k101 q102 =>
                                                                                                                          if k101 = 0 then
                                                                                                                            if q102 = (-1 : Int32) then
                                                                                                                              bd2 (F_slip u84 (90 : Int32) (91 : Int32) (1 : Int32)) (fun k106 q107 =>
                                                                                                                                if k106 = 0 then
                                                                                                                                  if q107 = 0 then
                                                                                                                                    bd2 (F_slip u84 (90 : Int32) (9 : Int32) (1 : Int32)) (fun k111 q112 =>
                                                                                                                                      if k111 = 0 then
                                                                                                                                        if q112 = (1 : Int32) then
                                                                                                                                          bd2 (F_slip u84 (90 : Int32) (900 : Int32) (1 : Int32)) (fun k116 q117 =>
                                                                                                                                            if k116 = 0 then
                                                                                                                                              if q117 = (1 : Int32) then
                                                                                                                                                bd2 (F_slip u84 (90 : Int32) (9000 : Int32) (1 : Int32)) (fun k121 q122 =>
                                                                                                                                                  if k121 = 0 then
                                                                                                                                                    if q122 = (-1 : Int32) then
                                                                                                                                                      bd2 (F_slip u84 (90 : Int32) (9 : Int32) (2 : Int32)) (fun k126 q127 =>
                                                                                                                                                        if k126 = 0 then
                                                                                                                                                          if q127 = (-1 : Int32) then
                                                                                                                                                            bd2 (F_slip u84 (90 : Int32) (19 : Int32) (1 : Int32)) (fun k131 q132 =>
                                                                                                                                                              if k131 = 0 then
                                                                                                                                                                if q132 = (-1 : Int32) then
                                                                                                                                                                  bd3 (F_modulus u84 (10 : Int32)) (fun k136 q137 u138 =>
                                                                                                                                                                    if k136 = 0 then
                                                                                                                                                                      if q137 = (11 : Int32) then
                                                                                                                                                                        bd2 (F_letter u138 (123 : Int32)) (fun k142 q143 =>
                                                                                                                                                                          if k142 = 0 then
                                                                                                                                                                            if q143 = (2 : Int32) then
                                                                                                                                                                              bd2 (F_weak u138 (0 : Int32) (0 : Int32) (0 : Int32)) (fun k147 q148 =>
                                                                                                                                                                                if k147 = 0 then
                                                                                                                                                                                  if q148 = 0 then
                                                                                                                                                                                    bd2 (F_weak u138 (1 : Int32) (0 : Int32) (0 : Int32)) (fun k152 q153 =>
                                                                                                                                                                                      if k152 = 0 then
                                                                                                                                                                                        if q153 = (5 : Int32) then
                                                                                                                                                                                          bd2 (F_weak u138 (1 : Int32) (0 : Int32) (1 : Int32)) (fun k157 q158 =>
                                                                                                                                                                                            if k157 = 0 then
                                                                                                                                                                                              if q158 = (5 : Int32) then
                                                                                                                                                                                                bd2 (F_weak u138 (4 : Int32) (0 : Int32) (0 : Int32)) (fun k162 q163 =>
                                                                                                                                                                                                  if k162 = 0 then
                                                                                                                                                                                                    if q163 = (20 : Int32) then
                                                                                                                                                                                                      bd2 (F_weak u138 (4 : Int32) (0 : Int32) (1 : Int32)) (fun k167 q168 =>
                                                                                                                                                                                                        if k167 = 0 then
                                                                                                                                                                                                          if q168 = (20 : Int32) then
                                                                                                                                                                                                            bd2 (F_weak u138 (5 : Int32) (0 : Int32) (0 : Int32)) (fun k172 q173 =>
                                                                                                                                                                                                              if k172 = 0 then
                                                                                                                                                                                                                if q173 = (5 : Int32) then
                                                                                                                                                                                                                  bd2 (F_weak u138 (4 : Int32) (1 : Int32) (0 : Int32)) (fun k177 q178 =>
                                                                                                                                                                                                                    if k177 = 0 then
                                                                                                                                                                                                                      if q178 = 0 then
                                                                                                                                                                                                                        bd2 (F_finds u138 (0 : Int32)) (fun k182 q183 =>
                                                                                                                                                                                                                          if k182 = 0 then
                                                                                                                                                                                                                            if q183 = 0 then
                                                                                                                                                                                                                              bd2 (F_finds u138 (1 : Int32)) (fun k187 q188 =>
                                                                                                                                                                                                                                if k187 = 0 then
                                                                                                                                                                                                                                  if q188 = 0 then
                                                                                                                                                                                                                                    some ((0 : Int32))
                                                                                                                                                                                                                                  else
                                                                                                                                                                                                                                    bd2 (F_missed u138 (123 : Int32) (0 : Int32)) (fun k192 q193 =>
                                                                                                                                                                                                                                      if k192 = 0 then
                                                                                                                                                                                                                                        if q193 = (7 : Int32) then
                                                                                                                                                                                                                                          bd2 (F_missed u138 (123 : Int32) (1 : Int32)) (fun k197 q198 =>
                                                                                                                                                                                                                                            if k197 = 0 then
                                                                                                                                                                                                                                              if q198 = 0 then
                                                                                                                                                                                                                                                bd2 (F_bestWeight u138 (4 : Int32)) (fun k202 q203 =>
                                                                                                                                                                                                                                                  if k202 = 0 then
                                                                                                                                                                                                                                                    if q203 = (3 : Int32) then
                                                                                                                                                                                                                                                      bd3 (F_weight u138 (4 : Int32) (4 : Int32)) (fun k207 q208 u209 =>
                                                                                                                                                                                                                                                        if k207 = 0 then
                                                                                                                                                                                                                                                          if q208 = (5 : Int32) then
                                                                                                                                                                                                                                                            bd2 (F_weak u209 (3 : Int32) (1 : Int32) (0 : Int32)) (fun k213 q214 =>
                                                                                                                                                                                                                                                              if k213 = 0 then
                                                                                                                                                                                                                                                                if q214 = (45 : Int32) then
                                                                                                                                                                                                                                                                  bd2 (F_weak u209 (3 : Int32) (1 : Int32) (1 : Int32)) (fun k218 q219 =>
                                                                                                                                                                                                                                                                    if k218 = 0 then
                                                                                                                                                                                                                                                                      if q219 = (45 : Int32) then
                                                                                                                                                                                                                                                                        bd2 (F_weak u209 (4 : Int32) (1 : Int32) (0 : Int32)) (fun k223 q224 =>
                                                                                                                                                                                                                                                                          if k223 = 0 then
                                                                                                                                                                                                                                                                            if q224 = (5 : Int32) then
                                                                                                                                                                                                                                                                              bd2 (F_finds u209 (1 : Int32)) (fun k228 q229 =>
                                                                                                                                                                                                                                                                                if k228 = 0 then
                                                                                                                                                                                                                                                                                  if q229 = 0 then
                                                                                                                                                                                                                                                                                    bd2 (F_missed u209 (123 : Int32) (1 : Int32)) (fun k233 q234 =>
                                                                                                                                                                                                                                                                                      if k233 = 0 then
                                                                                                                                                                                                                                                                                        if q234 = (1 : Int32) then
                                                                                                                                                                                                                                                                                          bd2 (F_missed u209 (111111 : Int32) (1 : Int32)) (fun k238 q239 =>
                                                                                                                                                                                                                                                                                            if k238 = 0 then
                                                                                                                                                                                                                                                                                              if q239 = 0 then
                                                                                                                                                                                                                                                                                                bd2 (F_missed u209 (16 : Int32) (1 : Int32)) (fun k243 q244 =>
                                                                                                                                                                                                                                                                                                  if k243 = 0 then
                                                                                                                                                                                                                                                                                                    if q244 = (2 : Int32) then
                                                                                                                                                                                                                                                                                                      bd3 (F_undo u209) (fun k248 q249 u250 =>
                                                                                                                                                                                                                                                                                                        if k248 = 0 then
                                                                                                                                                                                                                                                                                                          if q249 = (1 : Int32) then
                                                                                                                                                                                                                                                                                                            bd2 (F_count u250 (16 : Int32)) (fun k254 q255 =>
                                                                                                                                                                                                                                                                                                              if k254 = 0 then
                                                                                                                                                                                                                                                                                                                if q255 = (5 : Int32) then
                                                                                                                                                                                                                                                                                                                  bd3 (F_undo u250) (fun k259 q260 u261 =>
                                                                                                                                                                                                                                                                                                                    if k259 = 0 then
                                                                                                                                                                                                                                                                                                                      if q260 = 0 then
                                                                                                                                                                                                                                                                                                                        bd2 (F_count u261 (9 : Int32)) (fun k265 q266 =>
                                                                                                                                                                                                                                                                                                                          if k265 = 0 then
                                                                                                                                                                                                                                                                                                                            if q266 = (11 : Int32) then
                                                                                                                                                                                                                                                                                                                              some ((1 : Int32))
                                                                                                                                                                                                                                                                                                                            else
                                                                                                                                                                                                                                                                                                                              some ((0 : Int32))
                                                                                                                                                                                                                                                                                                                          else none)
                                                                                                                                                                                                                                                                                                                      else
                                                                                                                                                                                                                                                                                                                        some ((0 : Int32))
                                                                                                                                                                                                                                                                                                                    else none)
                                                                                                                                                                                                                                                                                                                else
                                                                                                                                                                                                                                                                                                                  some ((0 : Int32))
                                                                                                                                                                                                                                                                                                              else none)
                                                                                                                                                                                                                                                                                                          else
                                                                                                                                                                                                                                                                                                            some ((0 : Int32))
                                                                                                                                                                                                                                                                                                        else none)
                                                                                                                                                                                                                                                                                                    else
                                                                                                                                                                                                                                                                                                      some ((0 : Int32))
                                                                                                                                                                                                                                                                                                  else none)
                                                                                                                                                                                                                                                                                              else
                                                                                                                                                                                                                                                                                                some ((0 : Int32))
                                                                                                                                                                                                                                                                                            else none)
                                                                                                                                                                                                                                                                                        else
                                                                                                                                                                                                                                                                                          some ((0 : Int32))
                                                                                                                                                                                                                                                                                      else none)
                                                                                                                                                                                                                                                                                  else
                                                                                                                                                                                                                                                                                    some ((0 : Int32))
                                                                                                                                                                                                                                                                                else none)
                                                                                                                                                                                                                                                                            else
                                                                                                                                                                                                                                                                              some ((0 : Int32))
                                                                                                                                                                                                                                                                          else none)
                                                                                                                                                                                                                                                                      else
                                                                                                                                                                                                                                                                        some ((0 : Int32))
                                                                                                                                                                                                                                                                    else none)
                                                                                                                                                                                                                                                                else
                                                                                                                                                                                                                                                                  some ((0 : Int32))
                                                                                                                                                                                                                                                              else none)
                                                                                                                                                                                                                                                          else
                                                                                                                                                                                                                                                            some ((0 : Int32))
                                                                                                                                                                                                                                                        else none)
                                                                                                                                                                                                                                                    else
                                                                                                                                                                                                                                                      some ((0 : Int32))
                                                                                                                                                                                                                                                  else none)
                                                                                                                                                                                                                                              else
                                                                                                                                                                                                                                                some ((0 : Int32))
                                                                                                                                                                                                                                            else none)
                                                                                                                                                                                                                                        else
                                                                                                                                                                                                                                          some ((0 : Int32))
                                                                                                                                                                                                                                      else none)
                                                                                                                                                                                                                                else none)
                                                                                                                                                                                                                            else
                                                                                                                                                                                                                              some ((0 : Int32))
                                                                                                                                                                                                                          else none)
                                                                                                                                                                                                                      else
                                                                                                                                                                                                                        some ((0 : Int32))
                                                                                                                                                                                                                    else none)
                                                                                                                                                                                                                else
                                                                                                                                                                                                                  some ((0 : Int32))
                                                                                                                                                                                                              else none)
                                                                                                                                                                                                          else
                                                                                                                                                                                                            some ((0 : Int32))
                                                                                                                                                                                                        else none)
                                                                                                                                                                                                    else
                                                                                                                                                                                                      some ((0 : Int32))
                                                                                                                                                                                                  else none)
                                                                                                                                                                                              else
                                                                                                                                                                                                some ((0 : Int32))
                                                                                                                                                                                            else none)
                                                                                                                                                                                        else
                                                                                                                                                                                          some ((0 : Int32))
                                                                                                                                                                                      else none)
                                                                                                                                                                                  else
                                                                                                                                                                                    some ((0 : Int32))
                                                                                                                                                                                else none)
                                                                                                                                                                            else
                                                                                                                                                                              some ((0 : Int32))
                                                                                                                                                                          else none)
                                                                                                                                                                      else
                                                                                                                                                                        some ((0 : Int32))
                                                                                                                                                                    else none)
                                                                                                                                                                else
                                                                                                                                                                  some ((0 : Int32))
                                                                                                                                                              else none)
                                                                                                                                                          else
                                                                                                                                                            some ((0 : Int32))
                                                                                                                                                        else none)
                                                                                                                                                    else
                                                                                                                                                      some ((0 : Int32))
                                                                                                                                                  else none)
                                                                                                                                              else
                                                                                                                                                some ((0 : Int32))
                                                                                                                                            else none)
                                                                                                                                        else
                                                                                                                                          some ((0 : Int32))
                                                                                                                                      else none)
                                                                                                                                  else
                                                                                                                                    some ((0 : Int32))
                                                                                                                                else none)
                                                                                                                            else
                                                                                                                              some ((0 : Int32))
                                                                                                                          else none)
                                                                                                                      else
                                                                                                                        some ((0 : Int32))
                                                                                                                    else none)
                                                                                                                else
                                                                                                                  some ((0 : Int32))
                                                                                                              else none)
                                                                                                          else
                                                                                                            some ((0 : Int32))
                                                                                                        else none))
                                                                                                else
                                                                                                  some ((0 : Int32)))
                                                                                            else
                                                                                              some ((0 : Int32))
                                                                                          else none)
                                                                                      else
                                                                                        some ((0 : Int32))
                                                                                    else none)
                                                                                else
                                                                                  some ((0 : Int32))
                                                                              else none)
                                                                          else
                                                                            some ((0 : Int32))
                                                                        else none)
                                                                    else
                                                                      some ((0 : Int32))
                                                                  else none)
                                                            else none)
                                                      else none)
                                                else none)
                                            else
                                              some ((0 : Int32))
                                          else none)
                                      else
                                        some ((0 : Int32))
                                    else none)
                                else
                                  some ((0 : Int32))
                              else none)
                          else
                            some ((0 : Int32))
                        else none)
                    else
                      some ((0 : Int32))
                  else none)
              else
                some ((0 : Int32))
            else none)
        else
          some ((0 : Int32)))
    else
      some ((0 : Int32)))
set_option maxRecDepth 100000 in
def fL_chequesB (st : ST) : Option (Int32) :=
  bd3 (F_book st (100 : Int32) (5 : Int32)) (fun k1 q2 u3 =>
    if k1 = 0 then
      if q2 = 0 then
        bd3 (F_book u3 (90 : Int32) (10 : Int32)) (fun k7 q8 u9 =>
          if k7 = 0 then
            if q8 = (1 : Int32) then
              bd2 (FC_book u9 (95 : Int32) (2 : Int32) (0 : Int32)) (fun q13 u14 =>
                if q13 = (-13 : Int32) then
                  bd2 (FC_book u14 (104 : Int32) (1 : Int32) (0 : Int32)) (fun q17 u18 =>
                    if q17 = (-13 : Int32) then
                      bd2 (FC_book u18 (80 : Int32) (11 : Int32) (0 : Int32)) (fun q21 u22 =>
                        if q21 = (-13 : Int32) then
                          bd3 (F_book u22 (105 : Int32) (1 : Int32)) (fun k25 q26 u27 =>
                            if k25 = 0 then
                              if q26 = (2 : Int32) then
                                bd3 (F_book u27 (999999 : Int32) (1 : Int32)) (fun k31 q32 u33 =>
                                  if k31 = 0 then
                                    if q32 = (3 : Int32) then
                                      bd2 (FC_book u33 (999998 : Int32) (2 : Int32) (0 : Int32)) (fun q37 u38 =>
                                        if q37 = (-13 : Int32) then
                                          bd2 (F_ranked u38 (0 : Int32)) (fun k41 q42 =>
                                            if k41 = 0 then
                                              if q42 = (90 : Int32) then
                                                bd2 (F_ranked u38 (10 : Int32)) (fun k46 q47 =>
                                                  if k46 = 0 then
                                                    if q47 = (100 : Int32) then
                                                      bd2 (F_ranked u38 (15 : Int32)) (fun k51 q52 =>
                                                        if k51 = 0 then
                                                          if q52 = (105 : Int32) then
                                                            bd2 (F_ranked u38 (16 : Int32)) (fun k56 q57 =>
                                                              if k56 = 0 then
                                                                if q57 = (999999 : Int32) then
                                                                  bd2 (F_ranked u38 (17 : Int32)) (fun k61 q62 =>
                                                                    if k61 = 0 then
                                                                      if q62 = (-1 : Int32) then
                                                                        bd2 (F_ranked u38 (2147483647 : Int32)) (fun k66 q67 =>
                                                                          if k66 = 0 then
                                                                            if q67 = (-1 : Int32) then
                                                                              bd2 (F_count u38 (1 : Int32)) (fun k71 q72 =>
                                                                                if k71 = 0 then
                                                                                  if q72 = (17 : Int32) then
                                                                                    bd2 (fL_refused u38) (fun q76 u78 =>
                                                                                      if q76 = 0 then
                                                                                        some ((0 : Int32))
                                                                                      else
                                                                                        bd3 (F_write u78 (100 : Int32) (250 : Int32)) (fun k80 q81 u82 =>
                                                                                          if k80 = 0 then
                                                                                            if q81 = (4 : Int32) then
                                                                                              bd2 (FC_write u82 (100 : Int32) (1 : Int32) (0 : Int32)) (fun q86 u87 =>
                                                                                                if q86 = (-13 : Int32) then
                                                                                                  bd2 (FC_write u87 (89 : Int32) (5 : Int32) (0 : Int32)) (fun q90 u91 =>
                                                                                                    if q90 = (-11 : Int32) then
                                                                                                      bd2 (F_count u91 (6 : Int32)) (fun k94 q95 =>
                                                                                                        if k94 = 0 then
                                                                                                          if q95 = (250 : Int32) then
                                                                                                            bd3 (F_keep u91 (0 : Int32)) (fun k99 q100 u101 =>
                                                                                                              if k99 = 0 then
                                                                                                                if q100 = (4 : Int32) then
                                                                                                                  bd3 (F_cash u101 (100 : Int32) (5 : Int32)) (fun k105 q106 u107 =>
                                                                                                                    if k105 = 0 then
                                                                                                                      if q106 = (-1 : Int32) then
                                                                                                                        bd3 (F_cash u107 (89 : Int32) (6 : Int32)) (fun k111 q112 u113 =>
                                                                                                                          if k111 = 0 then
                                                                                                                            if q112 = (-2 : Int32) then
                                                                                                                              bd3 (F_cash u113 (101 : Int32) (10 : Int32)) (fun k117 q118 u119 =>
                                                                                                                                if k117 = 0 then
                                                                                                                                  if q118 = (-3 : Int32) then
                                                                                                                                    bd3 (F_cash u119 (100 : Int32) (4 : Int32)) (fun k123 q124 u125 =>
                                                                                                                                      if k123 = 0 then
                                                                                                                                        if q124 = (250 : Int32) then
                                                                                                                                          bd3 (F_cash u125 (100 : Int32) (4 : Int32)) (fun k129 q130 u131 =>
                                                                                                                                            if k129 = 0 then
                                                                                                                                              if q130 = (-3 : Int32) then
                                                                                                                                                bd2 (F_count u131 (8 : Int32)) (fun k135 q136 =>
                                                                                                                                                  if k135 = 0 then
                                                                                                                                                    if q136 = (4 : Int32) then
                                                                                                                                                      bd2 (F_count u131 (7 : Int32)) (fun k140 q141 =>
                                                                                                                                                        if k140 = 0 then
                                                                                                                                                          if q141 = (250 : Int32) then
                                                                                                                                                            bd2 (F_count u131 (6 : Int32)) (fun k145 q146 =>
                                                                                                                                                              if k145 = 0 then
                                                                                                                                                                if q146 = 0 then
                                                                                                                                                                  bd2 (F_count u131 (4 : Int32)) (fun k150 q151 =>
                                                                                                                                                                    if k150 = 0 then
                                                                                                                                                                      if q151 = (1 : Int32) then
                                                                                                                                                                        bd2 (F_cheque u131 (100 : Int32) (0 : Int32)) (fun k155 q156 =>
                                                                                                                                                                          if k155 = 0 then
                                                                                                                                                                            if q156 = (2 : Int32) then
                                                                                                                                                                              bd2 (F_cheque u131 (100 : Int32) (1 : Int32)) (fun k160 q161 =>
                                                                                                                                                                                if k160 = 0 then
                                                                                                                                                                                  if q161 = (250 : Int32) then
                                                                                                                                                                                    bd2 (F_cheque u131 (101 : Int32) (4 : Int32)) (fun k165 q166 =>
                                                                                                                                                                                      if k165 = 0 then
                                                                                                                                                                                        if q166 = (4 : Int32) then
                                                                                                                                                                                          bd2 (F_cheque u131 (100 : Int32) (4 : Int32)) (fun k170 q171 =>
                                                                                                                                                                                            if k170 = 0 then
                                                                                                                                                                                              if q171 = (1 : Int32) then
                                                                                                                                                                                                bd2 (F_cheque u131 (99 : Int32) (3 : Int32)) (fun k175 q176 =>
                                                                                                                                                                                                  if k175 = 0 then
                                                                                                                                                                                                    if q176 = (9 : Int32) then
                                                                                                                                                                                                      bd2 (F_cheque u131 (99 : Int32) (4 : Int32)) (fun k180 q181 =>
                                                                                                                                                                                                        if k180 = 0 then
                                                                                                                                                                                                          if q181 = (1 : Int32) then
                                                                                                                                                                                                            bd2 (F_bookOf u131 (0 : Int32) (8 : Int32)) (fun k185 q186 =>
                                                                                                                                                                                                              if k185 = 0 then
                                                                                                                                                                                                                if q186 = (101 : Int32) then
                                                                                                                                                                                                                  bd2 (F_bookOf u131 (0 : Int32) (4 : Int32)) (fun k190 q191 =>
                                                                                                                                                                                                                    if k190 = 0 then
                                                                                                                                                                                                                      if q191 = (1 : Int32) then
                                                                                                                                                                                                                        bd2 (F_bookOf u131 (0 : Int32) (7 : Int32)) (fun k195 q196 =>
                                                                                                                                                                                                                          if k195 = 0 then
                                                                                                                                                                                                                            if q196 = (250 : Int32) then
                                                                                                                                                                                                                              bd2 (F_meant u131 (100 : Int32) (4 : Int32) (-1 : Int32)) (fun k200 q201 =>
                                                                                                                                                                                                                                if k200 = 0 then
                                                                                                                                                                                                                                  if q201 = (1 : Int32) then
                                                                                                                                                                                                                                    bd2 (F_meant u131 (100 : Int32) (4 : Int32) (0 : Int32)) (fun k205 q206 =>
                                                                                                                                                                                                                                      if k205 = 0 then
                                                                                                                                                                                                                                        if q206 = (100 : Int32) then
                                                                                                                                                                                                                                          bd2 (F_meant u131 (100 : Int32) (5 : Int32) (-1 : Int32)) (fun k210 q211 =>
                                                                                                                                                                                                                                            if k210 = 0 then
                                                                                                                                                                                                                                              if q211 = (2 : Int32) then
                                                                                                                                                                                                                                                bd2 (F_meant u131 (100 : Int32) (5 : Int32) (0 : Int32)) (fun k215 q216 =>
                                                                                                                                                                                                                                                  if k215 = 0 then
                                                                                                                                                                                                                                                    if q216 = (100 : Int32) then
                                                                                                                                                                                                                                                      bd2 (F_meant u131 (100 : Int32) (5 : Int32) (1 : Int32)) (fun k220 q221 =>
                                                                                                                                                                                                                                                        if k220 = 0 then
                                                                                                                                                                                                                                                          if q221 = (102 : Int32) then
                                                                                                                                                                                                                                                            bd2 (F_meant u131 (100 : Int32) (5 : Int32) (2 : Int32)) (fun k225 q226 =>
                                                                                                                                                                                                                                                              if k225 = 0 then
                                                                                                                                                                                                                                                                if q226 = (-1 : Int32) then
                                                                                                                                                                                                                                                                  bd2 (F_meant u131 (9 : Int32) (1 : Int32) (-1 : Int32)) (fun k230 q231 =>
                                                                                                                                                                                                                                                                    if k230 = 0 then
                                                                                                                                                                                                                                                                      if q231 = (1 : Int32) then
                                                                                                                                                                                                                                                                        bd2 (F_meant u131 (9 : Int32) (1 : Int32) (0 : Int32)) (fun k235 q236 =>
                                                                                                                                                                                                                                                                          if k235 = 0 then
                                                                                                                                                                                                                                                                            if q236 = (90 : Int32) then
                                                                                                                                                                                                                                                                              bd2 (F_meant u131 (100 : Int32) (11 : Int32) (-1 : Int32)) (fun k240 q241 =>
                                                                                                                                                                                                                                                                                if k240 = 0 then
                                                                                                                                                                                                                                                                                  if q241 = 0 then
                                                                                                                                                                                                                                                                                    bd2 (F_meant u131 (100 : Int32) (25 : Int32) (0 : Int32)) (fun k245 q246 =>
                                                                                                                                                                                                                                                                                      if k245 = 0 then
                                                                                                                                                                                                                                                                                        if q246 = (-1 : Int32) then
                                                                                                                                                                                                                                                                                          bd3 (F_voidRun u131 (98 : Int32) (102 : Int32)) (fun k250 q251 u252 =>
                                                                                                                                                                                                                                                                                            if k250 = 0 then
                                                                                                                                                                                                                                                                                              if q251 = (4 : Int32) then
                                                                                                                                                                                                                                                                                                bd2 (F_cheque u252 (101 : Int32) (4 : Int32)) (fun k256 q257 =>
                                                                                                                                                                                                                                                                                                  if k256 = 0 then
                                                                                                                                                                                                                                                                                                    if q257 = (2 : Int32) then
                                                                                                                                                                                                                                                                                                      bd2 (F_cheque u252 (98 : Int32) (0 : Int32)) (fun k261 q262 =>
                                                                                                                                                                                                                                                                                                        if k261 = 0 then
                                                                                                                                                                                                                                                                                                          if q262 = (3 : Int32) then
                                                                                                                                                                                                                                                                                                            bd2 (F_count u252 (5 : Int32)) (fun k266 q267 =>
                                                                                                                                                                                                                                                                                                              if k266 = 0 then
                                                                                                                                                                                                                                                                                                                if q267 = (4 : Int32) then
                                                                                                                                                                                                                                                                                                                  bd3 (F_voidRun u252 (98 : Int32) (102 : Int32)) (fun k271 q272 u273 =>
                                                                                                                                                                                                                                                                                                                    if k271 = 0 then
                                                                                                                                                                                                                                                                                                                      if q272 = 0 then
                                                                                                                                                                                                                                                                                                                        bd1 (F_cashed u273) (fun q277 =>
                                                                                                                                                                                                                                                                                                                          if (Op.cmpValue (FP.dcmp q277 (4588638185040256542 : UInt64)) .l) = 0 then
                                                                                                                                                                                                                                                                                                                            bd2 (FC_write u273 (101 : Int32) (5 : Int32) (0 : Int32)) (fun q280 u281 =>
                                                                                                                                                                                                                                                                                                                              if q280 = (-13 : Int32) then
                                                                                                                                                                                                                                                                                                                                bd3 (F_write u281 (103 : Int32) (9 : Int32)) (fun k284 q285 u286 =>
                                                                                                                                                                                                                                                                                                                                  if k284 = 0 then
                                                                                                                                                                                                                                                                                                                                    if q285 = 0 then
                                                                                                                                                                                                                                                                                                                                      bd3 (F_voidRun u286 (103 : Int32) (103 : Int32)) (fun k290 q291 u292 =>
                                                                                                                                                                                                                                                                                                                                        if k290 = 0 then
                                                                                                                                                                                                                                                                                                                                          if q291 = (1 : Int32) then
                                                                                                                                                                                                                                                                                                                                            bd2 (F_cheque u292 (103 : Int32) (1 : Int32)) (fun k296 q297 =>
                                                                                                                                                                                                                                                                                                                                              if k296 = 0 then
                                                                                                                                                                                                                                                                                                                                                if q297 = 0 then
                                                                                                                                                                                                                                                                                                                                                  bd3 (F_cash u292 (103 : Int32) (0 : Int32)) (fun k301 q302 u303 =>
                                                                                                                                                                                                                                                                                                                                                    if k301 = 0 then
                                                                                                                                                                                                                                                                                                                                                      if q302 = (-3 : Int32) then
                                                                                                                                                                                                                                                                                                                                                        bd2 (F_bookOf u303 (0 : Int32) (8 : Int32)) (fun k307 q308 =>
                                                                                                                                                                                                                                                                                                                                                          if k307 = 0 then
                                                                                                                                                                                                                                                                                                                                                            if q308 = (104 : Int32) then
                                                                                                                                                                                                                                                                                                                                                              bd3 (F_voidRun u303 (104 : Int32) (104 : Int32)) (fun k312 q313 u314 =>
                                                                                                                                                                                                                                                                                                                                                                if k312 = 0 then
                                                                                                                                                                                                                                                                                                                                                                  if q313 = (1 : Int32) then
                                                                                                                                                                                                                                                                                                                                                                    bd2 (F_bookOf u314 (0 : Int32) (8 : Int32)) (fun k318 q319 =>
                                                                                                                                                                                                                                                                                                                                                                      if k318 = 0 then
                                                                                                                                                                                                                                                                                                                                                                        if q319 = (-1 : Int32) then
                                                                                                                                                                                                                                                                                                                                                                          bd2 (F_bookOf u314 (0 : Int32) (5 : Int32)) (fun k323 q324 =>
                                                                                                                                                                                                                                                                                                                                                                            if k323 = 0 then
                                                                                                                                                                                                                                                                                                                                                                              if q324 = (4 : Int32) then
                                                                                                                                                                                                                                                                                                                                                                                bd2 (fL_refused u314) (fun q328 u330 =>
                                                                                                                                                                                                                                                                                                                                                                                  if q328 = 0 then
                                                                                                                                                                                                                                                                                                                                                                                    some ((0 : Int32))
                                                                                                                                                                                                                                                                                                                                                                                  else
                                                                                                                                                                                                                                                                                                                                                                                    bd3 (F_book u330 (0 : Int32) (40 : Int32)) (fun k332 q333 u334 =>
                                                                                                                                                                                                                                                                                                                                                                                      if k332 = 0 then
                                                                                                                                                                                                                                                                                                                                                                                        if q333 = (4 : Int32) then
                                                                                                                                                                                                                                                                                                                                                                                          bd3 (F_book u334 (40 : Int32) (40 : Int32)) (fun k338 q339 u340 =>
                                                                                                                                                                                                                                                                                                                                                                                            if k338 = 0 then
                                                                                                                                                                                                                                                                                                                                                                                              if q339 = (5 : Int32) then
                                                                                                                                                                                                                                                                                                                                                                                                bd2 (FC_book u340 (500 : Int32) (1 : Int32) (0 : Int32)) (fun q344 u345 =>
                                                                                                                                                                                                                                                                                                                                                                                                  if q344 = (-13 : Int32) then
                                                                                                                                                                                                                                                                                                                                                                                                    bd2 (F_cheque u345 (79 : Int32) (3 : Int32)) (fun k348 q349 =>
                                                                                                                                                                                                                                                                                                                                                                                                      if k348 = 0 then
                                                                                                                                                                                                                                                                                                                                                                                                        if q349 = (39 : Int32) then
                                                                                                                                                                                                                                                                                                                                                                                                          bd2 (F_cheque u345 (40 : Int32) (4 : Int32)) (fun k353 q354 =>
                                                                                                                                                                                                                                                                                                                                                                                                            if k353 = 0 then
                                                                                                                                                                                                                                                                                                                                                                                                              if q354 = (40 : Int32) then
                                                                                                                                                                                                                                                                                                                                                                                                                bd2 (F_ranked u345 (79 : Int32)) (fun k358 q359 =>
                                                                                                                                                                                                                                                                                                                                                                                                                  if k358 = 0 then
                                                                                                                                                                                                                                                                                                                                                                                                                    if q359 = (79 : Int32) then
                                                                                                                                                                                                                                                                                                                                                                                                                      bd2 (F_ranked u345 (80 : Int32)) (fun k363 q364 =>
                                                                                                                                                                                                                                                                                                                                                                                                                        if k363 = 0 then
                                                                                                                                                                                                                                                                                                                                                                                                                          if q364 = (90 : Int32) then
                                                                                                                                                                                                                                                                                                                                                                                                                            bd3 (F_goBack u345 (0 : Int32)) (fun k368 q369 u370 =>
                                                                                                                                                                                                                                                                                                                                                                                                                              if k368 = 0 then
                                                                                                                                                                                                                                                                                                                                                                                                                                if q369 = (4 : Int32) then
                                                                                                                                                                                                                                                                                                                                                                                                                                  bd2 (F_cheque u370 (100 : Int32) (0 : Int32)) (fun k374 q375 =>
                                                                                                                                                                                                                                                                                                                                                                                                                                    if k374 = 0 then
                                                                                                                                                                                                                                                                                                                                                                                                                                      if q375 = (1 : Int32) then
                                                                                                                                                                                                                                                                                                                                                                                                                                        bd2 (F_count u370 (8 : Int32)) (fun k379 q380 =>
                                                                                                                                                                                                                                                                                                                                                                                                                                          if k379 = 0 then
                                                                                                                                                                                                                                                                                                                                                                                                                                            if q380 = 0 then
                                                                                                                                                                                                                                                                                                                                                                                                                                              bd2 (F_bookOf u370 (0 : Int32) (6 : Int32)) (fun k384 q385 =>
                                                                                                                                                                                                                                                                                                                                                                                                                                                if k384 = 0 then
                                                                                                                                                                                                                                                                                                                                                                                                                                                  if q385 = (250 : Int32) then
                                                                                                                                                                                                                                                                                                                                                                                                                                                    some ((1 : Int32))
                                                                                                                                                                                                                                                                                                                                                                                                                                                  else
                                                                                                                                                                                                                                                                                                                                                                                                                                                    some ((0 : Int32))
                                                                                                                                                                                                                                                                                                                                                                                                                                                else none)
                                                                                                                                                                                                                                                                                                                                                                                                                                            else
                                                                                                                                                                                                                                                                                                                                                                                                                                              some ((0 : Int32))
                                                                                                                                                                                                                                                                                                                                                                                                                                          else none)
                                                                                                                                                                                                                                                                                                                                                                                                                                      else
                                                                                                                                                                                                                                                                                                                                                                                                                                        some ((0 : Int32))
                                                                                                                                                                                                                                                                                                                                                                                                                                    else none)
                                                                                                                                                                                                                                                                                                                                                                                                                                else
                                                                                                                                                                                                                                                                                                                                                                                                                                  some ((0 : Int32))
                                                                                                                                                                                                                                                                                                                                                                                                                              else none)
                                                                                                                                                                                                                                                                                                                                                                                                                          else
                                                                                                                                                                                                                                                                                                                                                                                                                            some ((0 : Int32))
                                                                                                                                                                                                                                                                                                                                                                                                                        else none)
                                                                                                                                                                                                                                                                                                                                                                                                                    else
                                                                                                                                                                                                                                                                                                                                                                                                                      some ((0 : Int32))
                                                                                                                                                                                                                                                                                                                                                                                                                  else none)
                                                                                                                                                                                                                                                                                                                                                                                                              else
                                                                                                                                                                                                                                                                                                                                                                                                                some ((0 : Int32))
                                                                                                                                                                                                                                                                                                                                                                                                            else none)
                                                                                                                                                                                                                                                                                                                                                                                                        else
                                                                                                                                                                                                                                                                                                                                                                                                          some ((0 : Int32))
                                                                                                                                                                                                                                                                                                                                                                                                      else none)
                                                                                                                                                                                                                                                                                                                                                                                                  else
                                                                                                                                                                                                                                                                                                                                                                                                    some ((0 : Int32)))
                                                                                                                                                                                                                                                                                                                                                                                              else
                                                                                                                                                                                                                                                                                                                                                                                                some ((0 : Int32))
                                                                                                                                                                                                                                                                                                                                                                                            else none)
                                                                                                                                                                                                                                                                                                                                                                                        else
                                                                                                                                                                                                                                                                                                                                                                                          some ((0 : Int32))
                                                                                                                                                                                                                                                                                                                                                                                      else none))
                                                                                                                                                                                                                                                                                                                                                                              else
                                                                                                                                                                                                                                                                                                                                                                                some ((0 : Int32))
                                                                                                                                                                                                                                                                                                                                                                            else none)
                                                                                                                                                                                                                                                                                                                                                                        else
                                                                                                                                                                                                                                                                                                                                                                          some ((0 : Int32))
                                                                                                                                                                                                                                                                                                                                                                      else none)
                                                                                                                                                                                                                                                                                                                                                                  else
                                                                                                                                                                                                                                                                                                                                                                    some ((0 : Int32))
                                                                                                                                                                                                                                                                                                                                                                else none)
                                                                                                                                                                                                                                                                                                                                                            else
                                                                                                                                                                                                                                                                                                                                                              some ((0 : Int32))
                                                                                                                                                                                                                                                                                                                                                          else none)
                                                                                                                                                                                                                                                                                                                                                      else
                                                                                                                                                                                                                                                                                                                                                        some ((0 : Int32))
                                                                                                                                                                                                                                                                                                                                                    else none)
                                                                                                                                                                                                                                                                                                                                                else
                                                                                                                                                                                                                                                                                                                                                  some ((0 : Int32))
                                                                                                                                                                                                                                                                                                                                              else none)
                                                                                                                                                                                                                                                                                                                                          else
                                                                                                                                                                                                                                                                                                                                            some ((0 : Int32))
                                                                                                                                                                                                                                                                                                                                        else none)
                                                                                                                                                                                                                                                                                                                                    else
                                                                                                                                                                                                                                                                                                                                      some ((0 : Int32))
                                                                                                                                                                                                                                                                                                                                  else none)
                                                                                                                                                                                                                                                                                                                              else
                                                                                                                                                                                                                                                                                                                                some ((0 : Int32)))
                                                                                                                                                                                                                                                                                                                          else
                                                                                                                                                                                                                                                                                                                            some ((0 : Int32)))
                                                                                                                                                                                                                                                                                                                      else
                                                                                                                                                                                                                                                                                                                        some ((0 : Int32))
                                                                                                                                                                                                                                                                                                                    else none)
                                                                                                                                                                                                                                                                                                                else
                                                                                                                                                                                                                                                                                                                  some ((0 : Int32))
                                                                                                                                                                                                                                                                                                              else none)
                                                                                                                                                                                                                                                                                                          else
                                                                                                                                                                                                                                                                                                            some ((0 : Int32))
                                                                                                                                                                                                                                                                                                        else none)
                                                                                                                                                                                                                                                                                                    else
                                                                                                                                                                                                                                                                                                      some ((0 : Int32))
                                                                                                                                                                                                                                                                                                  else none)
                                                                                                                                                                                                                                                                                              else
                                                                                                                                                                                                                                                                                                some ((0 : Int32))
                                                                                                                                                                                                                                                                                            else none)
                                                                                                                                                                                                                                                                                        else
                                                                                                                                                                                                                                                                                          some ((0 : Int32))
                                                                                                                                                                                                                                                                                      else none)
                                                                                                                                                                                                                                                                                  else
                                                                                                                                                                                                                                                                                    some ((0 : Int32))
                                                                                                                                                                                                                                                                                else none)
                                                                                                                                                                                                                                                                            else
                                                                                                                                                                                                                                                                              some ((0 : Int32))
                                                                                                                                                                                                                                                                          else none)
                                                                                                                                                                                                                                                                      else
                                                                                                                                                                                                                                                                        some ((0 : Int32))
                                                                                                                                                                                                                                                                    else none)
                                                                                                                                                                                                                                                                else
                                                                                                                                                                                                                                                                  some ((0 : Int32))
                                                                                                                                                                                                                                                              else none)
                                                                                                                                                                                                                                                          else
                                                                                                                                                                                                                                                            some ((0 : Int32))
                                                                                                                                                                                                                                                        else none)
                                                                                                                                                                                                                                                    else
                                                                                                                                                                                                                                                      some ((0 : Int32))
                                                                                                                                                                                                                                                  else none)
                                                                                                                                                                                                                                              else
                                                                                                                                                                                                                                                some ((0 : Int32))
                                                                                                                                                                                                                                            else none)
                                                                                                                                                                                                                                        else
                                                                                                                                                                                                                                          some ((0 : Int32))
                                                                                                                                                                                                                                      else none)
                                                                                                                                                                                                                                  else
                                                                                                                                                                                                                                    some ((0 : Int32))
                                                                                                                                                                                                                                else none)
                                                                                                                                                                                                                            else
                                                                                                                                                                                                                              some ((0 : Int32))
                                                                                                                                                                                                                          else none)
                                                                                                                                                                                                                      else
                                                                                                                                                                                                                        some ((0 : Int32))
                                                                                                                                                                                                                    else none)
                                                                                                                                                                                                                else
                                                                                                                                                                                                                  some ((0 : Int32))
                                                                                                                                                                                                              else none)
                                                                                                                                                                                                          else
                                                                                                                                                                                                            some ((0 : Int32))
                                                                                                                                                                                                        else none)
                                                                                                                                                                                                    else
                                                                                                                                                                                                      some ((0 : Int32))
                                                                                                                                                                                                  else none)
                                                                                                                                                                                              else
                                                                                                                                                                                                some ((0 : Int32))
                                                                                                                                                                                            else none)
                                                                                                                                                                                        else
                                                                                                                                                                                          some ((0 : Int32))
                                                                                                                                                                                      else none)
                                                                                                                                                                                  else
                                                                                                                                                                                    some ((0 : Int32))
                                                                                                                                                                                else none)
                                                                                                                                                                            else
                                                                                                                                                                              some ((0 : Int32))
                                                                                                                                                                          else none)
                                                                                                                                                                      else
                                                                                                                                                                        some ((0 : Int32))
                                                                                                                                                                    else none)
                                                                                                                                                                else
                                                                                                                                                                  some ((0 : Int32))
                                                                                                                                                              else none)
                                                                                                                                                          else
                                                                                                                                                            some ((0 : Int32))
                                                                                                                                                        else none)
                                                                                                                                                    else
                                                                                                                                                      some ((0 : Int32))
                                                                                                                                                  else none)
                                                                                                                                              else
                                                                                                                                                some ((0 : Int32))
                                                                                                                                            else none)
                                                                                                                                        else
                                                                                                                                          some ((0 : Int32))
                                                                                                                                      else none)
                                                                                                                                  else
                                                                                                                                    some ((0 : Int32))
                                                                                                                                else none)
                                                                                                                            else
                                                                                                                              some ((0 : Int32))
                                                                                                                          else none)
                                                                                                                      else
                                                                                                                        some ((0 : Int32))
                                                                                                                    else none)
                                                                                                                else
                                                                                                                  some ((0 : Int32))
                                                                                                              else none)
                                                                                                          else
                                                                                                            some ((0 : Int32))
                                                                                                        else none)
                                                                                                    else
                                                                                                      some ((0 : Int32)))
                                                                                                else
                                                                                                  some ((0 : Int32)))
                                                                                            else
                                                                                              some ((0 : Int32))
                                                                                          else none))
                                                                                  else
                                                                                    some ((0 : Int32))
                                                                                else none)
                                                                            else
                                                                              some ((0 : Int32))
                                                                          else none)
                                                                      else
                                                                        some ((0 : Int32))
                                                                    else none)
                                                                else
                                                                  some ((0 : Int32))
                                                              else none)
                                                          else
                                                            some ((0 : Int32))
                                                        else none)
                                                    else
                                                      some ((0 : Int32))
                                                  else none)
                                              else
                                                some ((0 : Int32))
                                            else none)
                                        else
                                          some ((0 : Int32)))
                                    else
                                      some ((0 : Int32))
                                  else none)
                              else
                                some ((0 : Int32))
                            else none)
                        else
                          some ((0 : Int32)))
                    else
                      some ((0 : Int32)))
                else
                  some ((0 : Int32)))
            else
              some ((0 : Int32))
          else none)
      else
        some ((0 : Int32))
    else none)
set_option maxRecDepth 100000 in
def fL_texts_l610  : Nat → Int32 → ST → Option (Int32)
  | 0, _, _ => none
  | n + 1, x1, st =>
    if (60 : Int32) ≤ x1 then
      bd2 (FC_append st (59 : Int32) (0 : Int32) (0 : Int32)) (fun q243 u244 =>
        if q243 = (-13 : Int32) then
          bd2 (FC_execute u244 (0 : Int32) (0 : Int32) (0 : Int32)) (fun q247 u248 =>
            if q247 = (-12 : Int32) then
              bd2 (F_clearBuffer u248) (fun q251 u252 =>
                if q251 = (60 : Int32) then
                  some ((1 : Int32))
                else
                  some ((0 : Int32)))
            else
              some ((0 : Int32)))
        else
          some ((0 : Int32)))
    else
      bd3 (F_append st (55 : Int32)) (fun k255 q256 u257 =>
        if k255 = 0 then
          if q256 = (x1 + (1 : Int32)) then
            bd1 (F_firstError u257) (fun q261 =>
              if q261 = 0 then
                (fL_texts_l610 n) (x1 + 1) u257
              else
                some ((0 : Int32)))
          else
            some ((0 : Int32))
        else none)
set_option maxRecDepth 100000 in
def fL_textsB (st : ST) : Option (Int32) :=
  bd2 (fL_isError st (107959106416688 : Int64) (0 : Int64) (6 : Int32)) (fun q1 u3 =>
    if q1 = 0 then
      some ((0 : Int32))
    else
      bd2 (fL_isError u3 (7075207998124077099 : Int64) (48 : Int64) (8 : Int32)) (fun q5 u7 =>
        if q5 = 0 then
          some ((0 : Int32))
        else
          bd2 (fL_isError u7 (7075207998124077099 : Int64) (13361 : Int64) (9 : Int32)) (fun q9 u11 =>
            if q9 = 0 then
              some ((0 : Int32))
            else
              bd2 (fL_isError u11 (8588417472920563773 : Int64) (825241648 : Int64) (11 : Int32)) (fun q13 u15 =>
                if q13 = 0 then
                  some ((0 : Int32))
                else
                  bd2 (fL_isError u15 (7147265592162005089 : Int64) (0 : Int64) (7 : Int32)) (fun q17 u19 =>
                    if q17 = 0 then
                      some ((0 : Int32))
                    else
                      bd2 (fL_isError u19 (8516359878882635821 : Int64) (52983525027899 : Int64) (13 : Int32)) (fun q21 u23 =>
                        if q21 = 0 then
                          some ((0 : Int32))
                        else
                          bd2 (fL_isError u23 (120 : Int64) (0 : Int64) (0 : Int32)) (fun q25 u27 =>
                            if q25 = 0 then
                              some ((0 : Int32))
                            else
                              bd2 (fL_isError u27 (0 : Int64) (0 : Int64) (0 : Int32)) (fun q29 u31 =>
                                if q29 = 0 then
                                  some ((0 : Int32))
                                else
                                  bd2 (fL_isError u31 (7147265592162005057 : Int64) (59 : Int64) (9 : Int32)) (fun q33 u35 =>
                                    if q33 = 0 then
                                      some ((0 : Int32))
                                    else
                                      bd2 (fL_isError u35 (8516359878882635821 : Int64) (62917935970617 : Int64) (14 : Int32)) (fun q37 u39 =>
                                        if q37 = 0 then
                                          some ((0 : Int32))
                                        else
                                          bd2 (fL_isError u39 (7075207998124077099 : Int64) (13360 : Int64) (10 : Int32)) (fun q41 u43 =>
                                            if q41 = 0 then
                                              some ((0 : Int32))
                                            else
                                              bd2 (fL_isError u43 (8588417472920563773 : Int64) (48 : Int64) (8 : Int32)) (fun q45 u47 =>
                                                if q45 = 0 then
                                                  some ((0 : Int32))
                                                else
                                                  bd2 (fL_isError u47 (8588417472920563773 : Int64) (12341 : Int64) (8 : Int32)) (fun q49 u51 =>
                                                    if q49 = 0 then
                                                      some ((0 : Int32))
                                                    else
                                                      bd2 (fL_isError u51 (8588417472920563770 : Int64) (0 : Int64) (7 : Int32)) (fun q53 u55 =>
                                                        if q53 = 0 then
                                                          some ((0 : Int32))
                                                        else
                                                          bd2 (fL_isError u55 (27919006219382849 : Int64) (0 : Int64) (6 : Int32)) (fun q57 u59 =>
                                                            if q57 = 0 then
                                                              some ((0 : Int32))
                                                            else
                                                              bd2 (fL_isError u59 (7147265592162005057 : Int64) (65 : Int64) (8 : Int32)) (fun q61 u63 =>
                                                                if q61 = 0 then
                                                                  some ((0 : Int32))
                                                                else
                                                                  bd2 (fL_isError u63 (7075207998124077099 : Int64) (3423035 : Int64) (10 : Int32)) (fun q65 u67 =>
                                                                    if q65 = 0 then
                                                                      some ((0 : Int32))
                                                                    else
                                                                      bd2 (fL_isError u67 (8516359878882635819 : Int64) (0 : Int64) (7 : Int32)) (fun q69 u71 =>
                                                                        if q69 = 0 then
                                                                          some ((0 : Int32))
                                                                        else
                                                                          bd2 (fL_isError u71 (67 : Int64) (0 : Int64) (0 : Int32)) (fun q73 u75 =>
                                                                            if q73 = 0 then
                                                                              some ((0 : Int32))
                                                                            else
                                                                              bd2 (F_clearBuffer u75) (fun q77 u78 =>
                                                                                if q77 = (1 : Int32) then
                                                                                  bd2 (fL_types u78 (7075207998157631531 : Int64)) (fun q81 u83 =>
                                                                                    if q81 = 0 then
                                                                                      some ((0 : Int32))
                                                                                    else
                                                                                      bd2 (fL_types u83 (3691675368410853936 : Int64)) (fun q85 u87 =>
                                                                                        if q85 = 0 then
                                                                                          some ((0 : Int32))
                                                                                        else
                                                                                          bd2 (fL_types u87 (3548052761732132912 : Int64)) (fun q89 u91 =>
                                                                                            if q89 = 0 then
                                                                                              some ((0 : Int32))
                                                                                            else
                                                                                              bd2 (fL_types u91 (207000449348 : Int64)) (fun q93 u95 =>
                                                                                                if q93 = 0 then
                                                                                                  some ((0 : Int32))
                                                                                                else
                                                                                                  bd2 (F_count u95 (11 : Int32)) (fun k97 q98 =>
                                                                                                    if k97 = 0 then
                                                                                                      if q98 = (29 : Int32) then
                                                                                                        bd3 (F_execute u95) (fun k102 q103 u104 =>
                                                                                                          if k102 = 0 then
                                                                                                            if q103 = (3 : Int32) then
                                                                                                              bd2 (F_count u104 (11 : Int32)) (fun k108 q109 =>
                                                                                                                if k108 = 0 then
                                                                                                                  if q109 = 0 then
                                                                                                                    bd2 (F_cheque u104 (201 : Int32) (0 : Int32)) (fun k113 q114 =>
                                                                                                                      if k113 = 0 then
                                                                                                                        if q114 = (2 : Int32) then
                                                                                                                          bd2 (F_count u104 (7 : Int32)) (fun k118 q119 =>
                                                                                                                            if k118 = 0 then
                                                                                                                              if q119 = (70 : Int32) then
                                                                                                                                bd2 (fL_types u104 (7147265592195560002 : Int64)) (fun q123 u125 =>
                                                                                                                                  if q123 = 0 then
                                                                                                                                    some ((0 : Int32))
                                                                                                                                  else
                                                                                                                                    bd2 (fL_types u125 (4279035579480617008 : Int64)) (fun q127 u129 =>
                                                                                                                                      if q127 = 0 then
                                                                                                                                        some ((0 : Int32))
                                                                                                                                      else
                                                                                                                                        bd2 (fL_types u129 (11057 : Int64)) (fun q131 u133 =>
                                                                                                                                          if q131 = 0 then
                                                                                                                                            some ((0 : Int32))
                                                                                                                                          else
                                                                                                                                            bd3 (F_execute u133) (fun k135 q136 u137 =>
                                                                                                                                              if k135 = 0 then
                                                                                                                                                if q136 = 0 then
                                                                                                                                                  bd2 (F_count u137 (8 : Int32)) (fun k141 q142 =>
                                                                                                                                                    if k141 = 0 then
                                                                                                                                                      if q142 = (1 : Int32) then
                                                                                                                                                        bd2 (F_count u137 (0 : Int32)) (fun k146 q147 =>
                                                                                                                                                          if k146 = 0 then
                                                                                                                                                            if q147 = (1 : Int32) then
                                                                                                                                                              bd2 (fL_types u137 (8516359878916190765 : Int64)) (fun q151 u153 =>
                                                                                                                                                                if q151 = 0 then
                                                                                                                                                                  some ((0 : Int32))
                                                                                                                                                                else
                                                                                                                                                                  bd2 (fL_types u153 (52983525158960 : Int64)) (fun q155 u157 =>
                                                                                                                                                                    if q155 = 0 then
                                                                                                                                                                      some ((0 : Int32))
                                                                                                                                                                    else
                                                                                                                                                                      bd3 (F_execute u157) (fun k159 q160 u161 =>
                                                                                                                                                                        if k159 = 0 then
                                                                                                                                                                          if q160 = 0 then
                                                                                                                                                                            bd2 (fL_types u161 (8516359878882635821 : Int64)) (fun q165 u167 =>
                                                                                                                                                                              if q165 = 0 then
                                                                                                                                                                                some ((0 : Int32))
                                                                                                                                                                              else
                                                                                                                                                                                bd2 (fL_types u167 (4123389851770370935 : Int64)) (fun q169 u171 =>
                                                                                                                                                                                  if q169 = 0 then
                                                                                                                                                                                    some ((0 : Int32))
                                                                                                                                                                                  else
                                                                                                                                                                                    bd2 (fL_types u171 (3472328304817618229 : Int64)) (fun q173 u175 =>
                                                                                                                                                                                      if q173 = 0 then
                                                                                                                                                                                        some ((0 : Int32))
                                                                                                                                                                                      else
                                                                                                                                                                                        bd3 (F_execute u175) (fun k177 q178 u179 =>
                                                                                                                                                                                          if k177 = 0 then
                                                                                                                                                                                            if q178 = (1 : Int32) then
                                                                                                                                                                                              bd2 (F_count u179 (5 : Int32)) (fun k183 q184 =>
                                                                                                                                                                                                if k183 = 0 then
                                                                                                                                                                                                  if q184 = (2 : Int32) then
                                                                                                                                                                                                    bd2 (F_cheque u179 (201 : Int32) (0 : Int32)) (fun k188 q189 =>
                                                                                                                                                                                                      if k188 = 0 then
                                                                                                                                                                                                        if q189 = (2 : Int32) then
                                                                                                                                                                                                          bd2 (F_count u179 (10 : Int32)) (fun k193 q194 =>
                                                                                                                                                                                                            if k193 = 0 then
                                                                                                                                                                                                              if q194 = (4 : Int32) then
                                                                                                                                                                                                                bd3 (F_undo u179) (fun k198 q199 u200 =>
                                                                                                                                                                                                                  if k198 = 0 then
                                                                                                                                                                                                                    if q199 = (3 : Int32) then
                                                                                                                                                                                                                      bd2 (F_count u200 (5 : Int32)) (fun k204 q205 =>
                                                                                                                                                                                                                        if k204 = 0 then
                                                                                                                                                                                                                          if q205 = 0 then
                                                                                                                                                                                                                            bd2 (fL_types u200 (7077751207325415723 : Int64)) (fun q209 u211 =>
                                                                                                                                                                                                                              if q209 = 0 then
                                                                                                                                                                                                                                some ((0 : Int32))
                                                                                                                                                                                                                              else
                                                                                                                                                                                                                                bd2 (fL_types u211 (50 : Int64)) (fun q213 u215 =>
                                                                                                                                                                                                                                  if q213 = 0 then
                                                                                                                                                                                                                                    some ((0 : Int32))
                                                                                                                                                                                                                                  else
                                                                                                                                                                                                                                    bd3 (F_execute u215) (fun k217 q218 u219 =>
                                                                                                                                                                                                                                      if k217 = 0 then
                                                                                                                                                                                                                                        if q218 = 0 then
                                                                                                                                                                                                                                          bd2 (fL_types u219 (7075207998157632043 : Int64)) (fun q223 u225 =>
                                                                                                                                                                                                                                            if q223 = 0 then
                                                                                                                                                                                                                                              some ((0 : Int32))
                                                                                                                                                                                                                                            else
                                                                                                                                                                                                                                              bd2 (fL_types u225 (49 : Int64)) (fun q227 u229 =>
                                                                                                                                                                                                                                                if q227 = 0 then
                                                                                                                                                                                                                                                  some ((0 : Int32))
                                                                                                                                                                                                                                                else
                                                                                                                                                                                                                                                  bd3 (F_execute u229) (fun k231 q232 u233 =>
                                                                                                                                                                                                                                                    if k231 = 0 then
                                                                                                                                                                                                                                                      if q232 = 0 then
                                                                                                                                                                                                                                                        bd2 (F_count u233 (0 : Int32)) (fun k237 q238 =>
                                                                                                                                                                                                                                                          if k237 = 0 then
                                                                                                                                                                                                                                                            if q238 = (1 : Int32) then
                                                                                                                                                                                                                                                              fL_texts_l610 61 (0 : Int32) u233
                                                                                                                                                                                                                                                            else
                                                                                                                                                                                                                                                              some ((0 : Int32))
                                                                                                                                                                                                                                                          else none)
                                                                                                                                                                                                                                                      else
                                                                                                                                                                                                                                                        some ((0 : Int32))
                                                                                                                                                                                                                                                    else none)))
                                                                                                                                                                                                                                        else
                                                                                                                                                                                                                                          some ((0 : Int32))
                                                                                                                                                                                                                                      else none)))
                                                                                                                                                                                                                          else
                                                                                                                                                                                                                            some ((0 : Int32))
                                                                                                                                                                                                                        else none)
                                                                                                                                                                                                                    else
                                                                                                                                                                                                                      some ((0 : Int32))
                                                                                                                                                                                                                  else none)
                                                                                                                                                                                                              else
                                                                                                                                                                                                                some ((0 : Int32))
                                                                                                                                                                                                            else none)
                                                                                                                                                                                                        else
                                                                                                                                                                                                          some ((0 : Int32))
                                                                                                                                                                                                      else none)
                                                                                                                                                                                                  else
                                                                                                                                                                                                    some ((0 : Int32))
                                                                                                                                                                                                else none)
                                                                                                                                                                                            else
                                                                                                                                                                                              some ((0 : Int32))
                                                                                                                                                                                          else none))))
                                                                                                                                                                          else
                                                                                                                                                                            some ((0 : Int32))
                                                                                                                                                                        else none)))
                                                                                                                                                            else
                                                                                                                                                              some ((0 : Int32))
                                                                                                                                                          else none)
                                                                                                                                                      else
                                                                                                                                                        some ((0 : Int32))
                                                                                                                                                    else none)
                                                                                                                                                else
                                                                                                                                                  some ((0 : Int32))
                                                                                                                                              else none))))
                                                                                                                              else
                                                                                                                                some ((0 : Int32))
                                                                                                                            else none)
                                                                                                                        else
                                                                                                                          some ((0 : Int32))
                                                                                                                      else none)
                                                                                                                  else
                                                                                                                    some ((0 : Int32))
                                                                                                                else none)
                                                                                                            else
                                                                                                              some ((0 : Int32))
                                                                                                          else none)
                                                                                                      else
                                                                                                        some ((0 : Int32))
                                                                                                    else none)))))
                                                                                else
                                                                                  some ((0 : Int32))))))))))))))))))))))
set_option maxRecDepth 100000 in
def fL_law_j446 (k91 : Int32 → Int32 → ST → (Nat → Int64) → Option (Int32)) (nL : Nat) (st : ST) (wq : Nat → Int64) (xs : Nat → Int32) (x4 : Int64) (x6 : Int32) (s0 : Int32) (s1 : Int32) : Option (Int32) :=
  k91 (s1 + s0) (x6 + 1) st wq
set_option maxRecDepth 100000 in
def fL_law_j435 (k91 : Int32 → Int32 → ST → (Nat → Int64) → Option (Int32)) (nL : Nat) (st : ST) (wq : Nat → Int64) (xs : Nat → Int32) (x3 : Int32) (x4 : Int64) (x6 : Int32) (x15 : Int32) : Option (Int32) :=
  if x15 = 0 then
    fL_law_j446 k91 nL st wq xs x4 x6 (1 : Int32) x3
  else
    fL_law_j446 k91 nL st wq xs x4 x6 (0 : Int32) x3
set_option maxRecDepth 100000 in
def fL_law_j404 (k91 : Int32 → Int32 → ST → (Nat → Int64) → Option (Int32)) (nL : Nat) (st : ST) (wq : Nat → Int64) (xs : Nat → Int32) (x3 : Int32) (x4 : Int64) (x6 : Int32) (x9 : Int32) (s0 : Int32) : Option (Int32) :=
  if s0 = 0 then
    fL_law_j435 k91 nL st wq xs x3 x4 x6 s0
  else
    bd2 (F_count st (10 : Int32)) (fun k155 q156 =>
      if k155 = 0 then
        if q156 = x9 then
          bd1 (fL_seen st) (fun q160 =>
            if inb x3 64 then
              if (lg_cmp q160 (wq x3.toNatClampNeg)) = 0 then
                fL_law_j435 k91 nL st wq xs x3 x4 x6 s0
              else
                some ((0 : Int32))
            else none)
        else
          some ((0 : Int32))
      else none)
set_option maxRecDepth 100000 in
def fL_law_j390 (k91 : Int32 → Int32 → ST → (Nat → Int64) → Option (Int32)) (nL : Nat) (st : ST) (wq : Nat → Int64) (xs : Nat → Int32) (x3 : Int32) (x4 : Int64) (x6 : Int32) (x9 : Int32) (s0 : Int32) : Option (Int32) :=
  if (-9 : Int32) ≤ s0 then
    fL_law_j404 k91 nL st wq xs x3 x4 x6 x9 (0 : Int32)
  else
    fL_law_j404 k91 nL st wq xs x3 x4 x6 x9 (1 : Int32)
set_option maxRecDepth 100000 in
def fL_law_j208 (k91 : Int32 → Int32 → ST → (Nat → Int64) → Option (Int32)) (nL : Nat) (st : ST) (wq : Nat → Int64) (xs : Nat → Int32) (x3 : Int32) (x4 : Int64) (x6 : Int32) (x7 : Int32) (x8 : Int32) (x9 : Int32) (x10 : Int32) (x11 : Int32) (x12 : Int32) (s0 : Int32) : Option (Int32) :=
  if (5 : Int32) ≤ x8 then
    if x12 = 0 then
      if (12 : Int32) ≤ x8 then
        if x8 = (12 : Int32) then
          bd1 (fL_part (x7 >>> ((5 : Int32) &&& 31)) (60 : Int32)) (fun q117 =>
            bd1 (fL_part (x7 >>> ((11 : Int32) &&& 31)) (9 : Int32)) (fun q119 =>
              bd2 (FC_book st q117 q119 (0 : Int32)) (fun q121 u122 =>
                fL_law_j390 k91 nL u122 wq xs x3 x4 x6 x9 q121)))
        else
          if (15 : Int32) ≤ x8 then
            if x8 = (15 : Int32) then
              bd1 (fL_part (x7 >>> ((5 : Int32) &&& 31)) (30 : Int32)) (fun q105 =>
                bd2 (FC_modulus st q105 (0 : Int32) (0 : Int32)) (fun q107 u108 =>
                  fL_law_j390 k91 nL u108 wq xs x3 x4 x6 x9 q107))
            else
              bd1 (fL_part (x7 >>> ((5 : Int32) &&& 31)) (2 : Int32)) (fun q100 =>
                bd2 (FC_goBack st q100 (0 : Int32) (0 : Int32)) (fun q102 u103 =>
                  fL_law_j390 k91 nL u103 wq xs x3 x4 x6 x9 q102))
          else
            bd1 (fL_part (x7 >>> ((5 : Int32) &&& 31)) (7 : Int32)) (fun q110 =>
              bd1 (fL_part (x7 >>> ((9 : Int32) &&& 31)) (11 : Int32)) (fun q112 =>
                bd2 (FC_weight st q110 q112 (0 : Int32)) (fun q114 u115 =>
                  fL_law_j390 k91 nL u115 wq xs x3 x4 x6 x9 q114)))
      else
        bd1 (fL_part (x7 >>> ((9 : Int32) &&& 31)) (17 : Int32)) (fun q124 =>
          bd2 (FC_voidRun st x10 ((8 : Int32) + q124) (0 : Int32)) (fun q126 u127 =>
            fL_law_j390 k91 nL u127 wq xs x3 x4 x6 x9 q126))
    else
      bd2 (FC_cash st x10 s0 (0 : Int32)) (fun q129 u130 =>
        fL_law_j390 k91 nL u130 wq xs x3 x4 x6 x9 q129)
  else
    bd2 (FC_write st x10 x11 (0 : Int32)) (fun q132 u133 =>
      fL_law_j390 k91 nL u133 wq xs x3 x4 x6 x9 q132)
set_option maxRecDepth 100000 in
def fL_law_j175 (k91 : Int32 → Int32 → ST → (Nat → Int64) → Option (Int32)) (nL : Nat) (st : ST) (wq : Nat → Int64) (xs : Nat → Int32) (x3 : Int32) (x4 : Int64) (x6 : Int32) (x7 : Int32) (x8 : Int32) (x9 : Int32) (x10 : Int32) (x11 : Int32) (s0 : Int32) : Option (Int32) :=
  bd1 (fL_part (x7 >>> ((9 : Int32) &&& 31)) (3 : Int32)) (fun q73 =>
    if q73 = 0 then
      bd1 (fL_part (x7 >>> ((11 : Int32) &&& 31)) (27 : Int32)) (fun q80 =>
        fL_law_j208 k91 nL st wq xs x3 x4 x6 x7 x8 x9 x10 x11 s0 q80)
    else
      bd2 (F_letter st x10) (fun k76 q77 =>
        if k76 = 0 then
          fL_law_j208 k91 nL st wq xs x3 x4 x6 x7 x8 x9 x10 x11 s0 q77
        else none))
set_option maxRecDepth 100000 in
def fL_law_j174 (k91 : Int32 → Int32 → ST → (Nat → Int64) → Option (Int32)) (nL : Nat) (st : ST) (wq : Nat → Int64) (xs : Nat → Int32) (x3 : Int32) (x4 : Int64) (x6 : Int32) (x7 : Int32) (x8 : Int32) (x9 : Int32) (x10 : Int32) (x11 : Int32) : Option (Int32) :=
  fL_law_j175 k91 nL st wq xs x3 x4 x6 x7 x8 x9 x10 x11 (0 : Int32)
set_option maxRecDepth 100000 in
def fL_law_j569 (nL : Nat) (st : ST) (wq : Nat → Int64) (xs : Nat → Int32) (x4 : Int64) : Option (Int32) :=
  bd2 (FC_undo st (0 : Int32) (0 : Int32) (0 : Int32)) (fun q135 u136 =>
    if q135 = (-13 : Int32) then
      bd3 (F_goBack u136 (1 : Int32)) (fun k139 q140 u141 =>
        if k139 = 0 then
          if q140 = (1 : Int32) then
            bd1 (fL_seen u141) (fun q145 =>
              if (lg_cmp q145 x4) = 0 then
                bd2 (F_count u141 (10 : Int32)) (fun k148 q149 =>
                  if k148 = 0 then
                    if q149 = (1 : Int32) then
                      some ((1 : Int32))
                    else
                      some ((0 : Int32))
                  else none)
              else
                some ((0 : Int32)))
          else
            some ((0 : Int32))
        else none)
    else
      some ((0 : Int32)))
set_option maxRecDepth 100000 in
def fL_law_l538 (nL : Nat) (xs : Nat → Int32) (x4 : Int64) : Nat → Int32 → ST → (Nat → Int64) → Option (Int32)
  | 0, _, _, _ => none
  | n + 1, x6, st, wq =>
    if (6 : Int32) ≤ x6 then
      fL_law_j569 nL st wq xs x4
    else
      bd2 (F_count st (10 : Int32)) (fun k83 q84 =>
        if k83 = 0 then
          if q84 ≤ 0 then
            fL_law_j569 nL st wq xs x4
          else
            bd3 (F_undo st) (fun k88 q89 u90 =>
              if k88 = 0 then
                if 0 ≤ q89 then
                  (fL_law_l538 nL xs x4 n) (x6 + 1) u90 wq
                else
                  some ((0 : Int32))
              else none)
        else none)
set_option maxRecDepth 100000 in
def fL_law_l473 (nL : Nat) (xs : Nat → Int32) (x3 : Int32) (x4 : Int64) : Nat → Int32 → ST → (Nat → Int64) → Option (Int32)
  | 0, _, _, _ => none
  | n + 1, x6, st, wq =>
    bd2 (F_count st (10 : Int32)) (fun k52 q53 =>
      if k52 = 0 then
        if q53 ≤ 0 then
          fL_law_l538 nL xs x4 7 (0 : Int32) st wq
        else
          if x3 ≤ x6 then
            fL_law_l538 nL xs x4 7 (0 : Int32) st wq
          else
            bd2 (F_count st (10 : Int32)) (fun k58 q59 =>
              if k58 = 0 then
                if (5 : Int32) < x6 then
                  some ((0 : Int32))
                else
                  bd1 (fL_seen st) (fun q63 =>
                    if inb (x3 - x6) 64 then
                      if (lg_cmp q63 (wq (x3 - x6).toNatClampNeg)) = 0 then
                        bd3 (F_undo st) (fun k67 q68 u69 =>
                          if k67 = 0 then
                            if q68 = (q59 - (1 : Int32)) then
                              (fL_law_l473 nL xs x3 x4 n) (x6 + 1) u69 wq
                            else
                              some ((0 : Int32))
                          else none)
                      else
                        some ((0 : Int32))
                    else none)
              else none)
      else none)
set_option maxRecDepth 100000 in
def fL_law_l91 (nL : Nat) (xs : Nat → Int32) (x4 : Int64) : Nat → Int32 → Int32 → ST → (Nat → Int64) → Option (Int32)
  | 0, _, _, _, _ => none
  | n + 1, x3, x6, st, wq =>
    if (28 : Int32) ≤ x6 then
      bd1 (fL_seen st) (fun q28 =>
        if inb x3 64 then
          bd2 (fL_refused st) (fun q31 u33 =>
            if q31 = 0 then
              some ((0 : Int32))
            else
              fL_law_l473 nL xs x3 x4 30 (0 : Int32) u33 (vp_updL wq x3.toNatClampNeg q28))
        else none)
    else
      bd1 (fL_drawn nL xs x6) (fun q35 =>
        bd1 (fL_part q35 (18 : Int32)) (fun q37 =>
          bd1 (fL_seen st) (fun q39 =>
            if inb x3 64 then
              bd2 (F_count st (10 : Int32)) (fun k42 q43 =>
                if k42 = 0 then
                  bd1 (fL_part (q35 >>> ((5 : Int32) &&& 31)) (16 : Int32)) (fun q46 =>
                    bd1 (fL_part (q35 >>> ((9 : Int32) &&& 31)) (1001 : Int32)) (fun q48 =>
                      if q37 ≤ (4 : Int32) then
                        fL_law_j174 (fL_law_l91 nL xs x4 n) nL st (vp_updL wq x3.toNatClampNeg q39) xs x3 x4 x6 q35 q37 q43 ((8 : Int32) + q46) q48
                      else
                        if (10 : Int32) ≤ q37 then
                          fL_law_j174 (fL_law_l91 nL xs x4 n) nL st (vp_updL wq x3.toNatClampNeg q39) xs x3 x4 x6 q35 q37 q43 ((8 : Int32) + q46) q48
                        else
                          fL_law_j175 (fL_law_l91 nL xs x4 n) nL st (vp_updL wq x3.toNatClampNeg q39) xs x3 x4 x6 q35 q37 q43 ((8 : Int32) + q46) q48 (1 : Int32)))
                else none)
            else none)))
set_option maxRecDepth 100000 in
def fL_lawB (nL : Nat) (st : ST) (wq : Nat → Int64) (xs : Nat → Int32) : Option (Int32) :=
  bd3 (F_book st (10 : Int32) (6 : Int32)) (fun k1 q2 u3 =>
    if k1 = 0 then
      if q2 = 0 then
        bd3 (F_write u3 (12 : Int32) (90 : Int32)) (fun k7 q8 u9 =>
          if k7 = 0 then
            if q8 = (6 : Int32) then
              bd3 (F_cash u9 (13 : Int32) (9 : Int32)) (fun k13 q14 u15 =>
                if k13 = 0 then
                  if q14 = (-1 : Int32) then
                    bd3 (F_keep u15 (1 : Int32)) (fun k19 q20 u21 =>
                      if k19 = 0 then
                        if q20 = (1 : Int32) then
                          bd1 (fL_seen u21) (fun q25 =>
                            fL_law_l91 nL xs q25 30 (0 : Int32) (0 : Int32) u21 wq)
                        else
                          some ((0 : Int32))
                      else none)
                  else
                    some ((0 : Int32))
                else none)
            else
              some ((0 : Int32))
          else none)
      else
        some ((0 : Int32))
    else none)
