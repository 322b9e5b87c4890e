
/-! ===== pure rows: orders carried out, twice ===== -/
theorem s5_isSerial_t {s : Nat} (hs : s < 1000000) : f5_isSerial (nI s) = some (nI 1) := by simp (disch := omega) only [q_inb, q_isZ0, q_isZ1, q_leT, q_leF, q_ltT, q_ltF, q_eqT, q_eqF, nI_leI, nI_ltI, nI_eq, nI_add, pk_mul, q_sub, pk_sub, q_mod, pk_div, nI_clamp, q_not, q_m1, q_z1, q_n1lt, Nat.add_zero, Nat.zero_add, q_nT, q_nF, ↓reduceIte, bd0_s, bd1_s, bd2_s, bd3_s, bd4_s, bd5_s, bd6_s, bd7_s, bd8_s, bd9_s, lt_s_, qL0, qL1, qL2, qL3, qL4, qL5, qL6, qL7, qL8, qL9, qL10, qL11, qL12, qL13, qL14, qL15, qL16, qL17, qL21, qL25, qL26, qL31, qL33, qL40, qL43, qL45, qL48, qL49, qL57, qL58, qL59, qL60, qL61, qL65, qL90, qL97, qL98, qL99, qL118, qL119, qL126, qL240, qL261, qL501, qL999, qL1000, qL1002, qL2505, qL3006, qL999999, qL1000000, f5_isSerial]
theorem s5_isSerial_f {x : Int32} (h : x < 0 ∨ ∃ s, 1000000 ≤ s ∧ s < 2 ^ 31 ∧ x = nI s) : f5_isSerial x = some (nI 0) := by
  rcases h with h | ⟨s, h1, h2, rfl⟩
  · unfold f5_isSerial
    rw [if_pos h]
    rfl
  · simp (disch := omega) only [q_inb, q_isZ0, q_isZ1, q_leT, q_leF, q_ltT, q_ltF, q_eqT, q_eqF, nI_leI, nI_ltI, nI_eq, nI_add, pk_mul, q_sub, pk_sub, q_mod, pk_div, nI_clamp, q_not, q_m1, q_z1, q_n1lt, Nat.add_zero, Nat.zero_add, q_nT, q_nF, ↓reduceIte, bd0_s, bd1_s, bd2_s, bd3_s, bd4_s, bd5_s, bd6_s, bd7_s, bd8_s, bd9_s, lt_s_, qL0, qL1, qL2, qL3, qL4, qL5, qL6, qL7, qL8, qL9, qL10, qL11, qL12, qL13, qL14, qL15, qL16, qL17, qL21, qL25, qL26, qL31, qL33, qL40, qL43, qL45, qL48, qL49, qL57, qL58, qL59, qL60, qL61, qL65, qL90, qL97, qL98, qL99, qL118, qL119, qL126, qL240, qL261, qL501, qL999, qL1000, qL1002, qL2505, qL3006, qL999999, qL1000000, f5_isSerial]
theorem s6_isSerial_t {s : Nat} (hs : s < 1000000) : f6_isSerial (nI s) = some (nI 1) := by
  have h := s6_in_t (a := s) (b := 0) (c := 999999) (by omega) (by decide) (by omega)
  simp (disch := omega) only [q_inb, q_isZ0, q_isZ1, q_leT, q_leF, q_ltT, q_ltF, q_eqT, q_eqF, nI_leI, nI_ltI, nI_eq, nI_add, pk_mul, q_sub, pk_sub, q_mod, pk_div, nI_clamp, q_not, q_m1, q_z1, q_n1lt, Nat.add_zero, Nat.zero_add, q_nT, q_nF, ↓reduceIte, bd0_s, bd1_s, bd2_s, bd3_s, bd4_s, bd5_s, bd6_s, bd7_s, bd8_s, bd9_s, lt_s_, qL0, qL1, qL2, qL3, qL4, qL5, qL6, qL7, qL8, qL9, qL10, qL11, qL12, qL13, qL14, qL15, qL16, qL17, qL21, qL25, qL26, qL31, qL33, qL40, qL43, qL45, qL48, qL49, qL57, qL58, qL59, qL60, qL61, qL65, qL90, qL97, qL98, qL99, qL118, qL119, qL126, qL240, qL261, qL501, qL999, qL1000, qL1002, qL2505, qL3006, qL999999, qL1000000, f6_isSerial, h]
theorem s6_isSerial_f {x : Int32} (h : x < 0 ∨ ∃ s, 1000000 ≤ s ∧ s < 2 ^ 31 ∧ x = nI s) : f6_isSerial x = some (nI 0) := by
  have h1 : f6_in x (nI 0) (nI 999999) = some (nI 0) := by
    rcases h with h | ⟨s, h1, h2, rfl⟩
    · exact s6_in_neg h (by decide) _
    · exact s6_in_f (by omega) (by decide) (by decide) (by omega)
  simp (disch := omega) only [q_inb, q_isZ0, q_isZ1, q_leT, q_leF, q_ltT, q_ltF, q_eqT, q_eqF, nI_leI, nI_ltI, nI_eq, nI_add, pk_mul, q_sub, pk_sub, q_mod, pk_div, nI_clamp, q_not, q_m1, q_z1, q_n1lt, Nat.add_zero, Nat.zero_add, q_nT, q_nF, ↓reduceIte, bd0_s, bd1_s, bd2_s, bd3_s, bd4_s, bd5_s, bd6_s, bd7_s, bd8_s, bd9_s, lt_s_, qL0, qL1, qL2, qL3, qL4, qL5, qL6, qL7, qL8, qL9, qL10, qL11, qL12, qL13, qL14, qL15, qL16, qL17, qL21, qL25, qL26, qL31, qL33, qL40, qL43, qL45, qL48, qL49, qL57, qL58, qL59, qL60, qL61, qL65, qL90, qL97, qL98, qL99, qL118, qL119, qL126, qL240, qL261, qL501, qL999, qL1000, qL1002, qL2505, qL3006, qL999999, qL1000000, f6_isSerial, h1]
theorem serial_case (x : Int32) : (∃ s, s < 1000000 ∧ x = nI s) ∨ (x < 0 ∨ ∃ s, 1000000 ≤ s ∧ s < 2 ^ 31 ∧ x = nI s) := by
  rcases q_nn x with h | ⟨n, h1, rfl⟩
  · exact Or.inr (Or.inl h)
  · by_cases q : n < 1000000
    · exact Or.inl ⟨n, q, rfl⟩
    · exact Or.inr (Or.inr ⟨n, by omega, h1, rfl⟩)
theorem exec_one {sr wm : Int32} {wW : Nat → Int32} {bh : Int32} {bF bZ bK bM g oS D : Nat → Int32} {n : Nat} {T : NF} {q s e : Nat} (hb : Bk sr wm wW bh bF bZ bK bM g) (H : cT_ n T oS) (ho : ordOK oS n T D q s e) (hq : q ≤ 7) :
    ∃ d sr' bh' bF' bZ' bK' bM' g', d ≤ 1 ∧ f5_runOrder sr wm wW bh bF bZ bK bM (nI n) oS (nI s) (nI e) = some (nI d, sr', bh', bF', bZ', bK', bM') ∧ f6_isDone g D (nI q) = some (nI d, g') ∧ Bk sr' wm wW bh' bF' bZ' bK' bM' g' := by
  have hb0 := hb
  obtain ⟨h, m, W, F, Z, K, M, hW, hB, hK, cW, cB, cK, mW, mB, mK, hr⟩ := hb
  obtain rfl := cB.1
  have hh := hB.1
  have hn := H.1
  obtain ⟨a1, a2, a, b, a3, d0, d1, d2, a4, a5⟩ := ho
  have hs := s3_signAt_in H (show s < n by omega)
  have e1 : s + 1 + 6 = s + 7 := rfl
  have head : ∀ v : Int32, f3_numberIn (nI n) oS (nI (s + 8)) (nI e) = some v → ∀ L, T s = L → f5_runOrder sr wm wW (nI h) bF bZ bK bM (nI n) oS (nI s) (nI e) = (if nI L = (98 : Int32) then
          bd6 (f5_runBook (nI h) bF bZ bK bM (nI a) v) (fun q9 u10 u11 u12 u13 u14 =>
            if isZ q9 then some (q9, sr, u10, u11, u12, u13, u14) else none)
        else
          if nI L = (99 : Int32) then
            bd1 (f3_signAt (nI n) oS (nI e - (1 : Int32))) (fun q17 =>
              bd4 (f4_cashByReading sr wm wW (nI h) bF bZ bK bM (nI a) (q17 - (65 : Int32))) (fun q19 u20 u21 u22 =>
                some ((if q19 ≤ 0 then (0 : Int32) else (1 : Int32)), u20, nI h, bF, bZ, u21, u22)))
          else
            if nI L = (118 : Int32) then
              bd3 (f5_runVoiding (nI h) bF bZ bK bM (nI a) v) (fun q26 u27 u28 =>
                if isZ q26 then some (q26, sr, nI h, bF, bZ, u27, u28) else none)
            else
              if nI L = (119 : Int32) then
                bd3 (f5_runWriting (nI h) bF bZ bK bM (nI a) v) (fun q31 u32 u33 =>
                  if isZ q31 then some (q31, sr, nI h, bF, bZ, u32, u33) else none)
              else some ((0 : Int32), sr, nI h, bF, bZ, bK, bM)) := fun v hv L hL => by
    unfold f5_runOrder
    rw [nI_1, show nI (s + 1) + (6 : Int32) = nI (s + 7) from nI_add (s + 1) 6, a4, bd1_s, show nI s + (8 : Int32) = nI (s + 8) from nI_add s 8, hv, bd1_s, hs, bd1_s, hL]
  have head6 : ∀ L, T s = L → f6_isDone g D (nI q) = (if nI L = (99 : Int32) then
              bd2 (f6_cashes g (nI a) (nI b)) (fun q34 u35 =>
                some ((if q34 ≤ 0 then (0 : Int32) else (1 : Int32)), u35))
            else
              if nI L = (98 : Int32) then
                bd1 (f6_isSerial ((nI a + nI b) - (1 : Int32))) (fun q24 =>
                  if q24 = 0 then some ((0 : Int32), g)
                  else
                    bd1 (f6_canBook g (nI a) (nI b)) (fun q27 =>
                      if q27 = 0 then some ((0 : Int32), g)
                      else
                        bd2 (f6_books g (nI a) (nI b)) (fun q30 u31 =>
                          some ((if q30 < 0 then (0 : Int32) else (1 : Int32)), u31))))
              else
                if nI L = (118 : Int32) then
                  if nI b < nI a then some ((0 : Int32), g)
                  else
                    bd2 (f6_voids g (nI a) (nI b)) (fun q20 u21 =>
                      some ((if q20 < 0 then (0 : Int32) else (1 : Int32)), u21))
                else
                  bd1 (f6_spotOf g (nI a)) (fun q12 =>
                    if q12 = (-1 : Int32) then some ((0 : Int32), g)
                    else
                      if inb ((21 : Int32) + q12) 501 then
                        if (g ((21 : Int32) + q12).toNatClampNeg) = 0 then
                          bd1 (f6_writes g q12 (nI b)) (fun u17 => some ((1 : Int32), u17))
                        else some ((0 : Int32), g)
                      else none)) := fun L hL => by
    unfold f6_isDone
    have i0 : inb ((3 : Int32) * nI q) 24 := by rw [qL3, pk_mul]; exact vp_in_nI (by omega) (by decide)
    have i1 : inb ((3 : Int32) * nI q + (1 : Int32)) 24 := by rw [qL3, pk_mul, nI_1]; exact vp_in_nI (by omega) (by decide)
    have i2 : inb ((3 : Int32) * nI q + (2 : Int32)) 24 := by rw [qL3, pk_mul, qL2, nI_add]; exact vp_in_nI (by omega) (by decide)
    have j0 : D ((3 : Int32) * nI q).toNatClampNeg = nI L := by rw [qL3, pk_mul, nI_clamp (by omega), d0, hL]
    have j1 : D ((3 : Int32) * nI q + (1 : Int32)).toNatClampNeg = nI a := by rw [qL3, pk_mul, nI_1, nI_clamp (by omega), d1]
    have j2 : D ((3 : Int32) * nI q + (2 : Int32)).toNatClampNeg = nI b := by rw [qL3, pk_mul, qL2, nI_add, nI_clamp (by omega), d2]
    rw [if_pos i0, if_pos i1, lt_s_, if_pos i2, lt_s_, j0, j1, j2]
  rcases a5 with ⟨z, b1, b2, b3⟩ | ⟨z, b1, b2, b3⟩ | ⟨z, b1, b3⟩ | ⟨z, b1, b2, b4, b3⟩
  · -- 'b'
    have f0 := head _ b3 98 z
    have f6 := head6 98 z
    rw [if_pos (show nI 98 = (98 : Int32) from rfl)] at f0
    rw [if_neg (by decide), if_pos (show nI 98 = (98 : Int32) from rfl)] at f6
    rw [f0, f6]
    have e2 : nI a + nI b - (1 : Int32) = nI (a + b - 1) := by rw [nI_add, qL1, pk_sub (by omega)]
    have g1 := s5_isSerial_t a3
    by_cases c1 : a + b - 1 < 1000000
    · have g2 := s5_isSerial_t c1
      have g3 := s6_isSerial_t c1
      rcases can_case hB cB mB a3 b2 with ⟨g4, g5⟩ | ⟨g6, g7, g4, g5⟩
      · refine ⟨0, sr, nI h, bF, bZ, bK, bM, g, by omega, ?_, ?_, hb0⟩
        · simp (disch := omega) only [q_inb, q_isZ0, q_isZ1, q_leT, q_leF, q_ltT, q_ltF, q_eqT, q_eqF, nI_leI, nI_ltI, nI_eq, nI_add, pk_mul, q_sub, pk_sub, q_mod, pk_div, nI_clamp, q_not, q_m1, q_z1, q_n1lt, Nat.add_zero, Nat.zero_add, q_nT, q_nF, ↓reduceIte, bd0_s, bd1_s, bd2_s, bd3_s, bd4_s, bd5_s, bd6_s, bd7_s, bd8_s, bd9_s, lt_s_, qL0, qL1, qL2, qL3, qL4, qL5, qL6, qL7, qL8, qL9, qL10, qL11, qL12, qL13, qL14, qL15, qL16, qL17, qL21, qL25, qL26, qL31, qL33, qL40, qL43, qL45, qL48, qL49, qL57, qL58, qL59, qL60, qL61, qL65, qL90, qL97, qL98, qL99, qL118, qL119, qL126, qL240, qL261, qL501, qL999, qL1000, qL1002, qL2505, qL3006, qL999999, qL1000000, f5_runBook, f5_faultOfBook, g1, g2, g4]
        · simp (disch := omega) only [q_inb, q_isZ0, q_isZ1, q_leT, q_leF, q_ltT, q_ltF, q_eqT, q_eqF, nI_leI, nI_ltI, nI_eq, nI_add, pk_mul, q_sub, pk_sub, q_mod, pk_div, nI_clamp, q_not, q_m1, q_z1, q_n1lt, Nat.add_zero, Nat.zero_add, q_nT, q_nF, ↓reduceIte, bd0_s, bd1_s, bd2_s, bd3_s, bd4_s, bd5_s, bd6_s, bd7_s, bd8_s, bd9_s, lt_s_, qL0, qL1, qL2, qL3, qL4, qL5, qL6, qL7, qL8, qL9, qL10, qL11, qL12, qL13, qL14, qL15, qL16, qL17, qL21, qL25, qL26, qL31, qL33, qL40, qL43, qL45, qL48, qL49, qL57, qL58, qL59, qL60, qL61, qL65, qL90, qL97, qL98, qL99, qL118, qL119, qL126, qL240, qL261, qL501, qL999, qL1000, qL1002, qL2505, qL3006, qL999999, qL1000000, g3, g5]
      · obtain ⟨bh', bF', bZ', bK', bM', g', k1, k2, k3⟩ := op_add hW hB hK cW cB cK mW mB mK hr g6 b1 b2 (by omega) g7
        refine ⟨1, sr, bh', bF', bZ', bK', bM', g', by omega, ?_, ?_, k3⟩
        · simp (disch := omega) only [q_inb, q_isZ0, q_isZ1, q_leT, q_leF, q_ltT, q_ltF, q_eqT, q_eqF, nI_leI, nI_ltI, nI_eq, nI_add, pk_mul, q_sub, pk_sub, q_mod, pk_div, nI_clamp, q_not, q_m1, q_z1, q_n1lt, Nat.add_zero, Nat.zero_add, q_nT, q_nF, ↓reduceIte, bd0_s, bd1_s, bd2_s, bd3_s, bd4_s, bd5_s, bd6_s, bd7_s, bd8_s, bd9_s, lt_s_, qL0, qL1, qL2, qL3, qL4, qL5, qL6, qL7, qL8, qL9, qL10, qL11, qL12, qL13, qL14, qL15, qL16, qL17, qL21, qL25, qL26, qL31, qL33, qL40, qL43, qL45, qL48, qL49, qL57, qL58, qL59, qL60, qL61, qL65, qL90, qL97, qL98, qL99, qL118, qL119, qL126, qL240, qL261, qL501, qL999, qL1000, qL1002, qL2505, qL3006, qL999999, qL1000000, f5_runBook, f5_faultOfBook, g1, g2, g4, k1]
        · simp (disch := omega) only [q_inb, q_isZ0, q_isZ1, q_leT, q_leF, q_ltT, q_ltF, q_eqT, q_eqF, nI_leI, nI_ltI, nI_eq, nI_add, pk_mul, q_sub, pk_sub, q_mod, pk_div, nI_clamp, q_not, q_m1, q_z1, q_n1lt, Nat.add_zero, Nat.zero_add, q_nT, q_nF, ↓reduceIte, bd0_s, bd1_s, bd2_s, bd3_s, bd4_s, bd5_s, bd6_s, bd7_s, bd8_s, bd9_s, lt_s_, qL0, qL1, qL2, qL3, qL4, qL5, qL6, qL7, qL8, qL9, qL10, qL11, qL12, qL13, qL14, qL15, qL16, qL17, qL21, qL25, qL26, qL31, qL33, qL40, qL43, qL45, qL48, qL49, qL57, qL58, qL59, qL60, qL61, qL65, qL90, qL97, qL98, qL99, qL118, qL119, qL126, qL240, qL261, qL501, qL999, qL1000, qL1002, qL2505, qL3006, qL999999, qL1000000, g3, g5, k2]
    · have g2 := s5_isSerial_f (x := nI (a + b - 1)) (Or.inr ⟨_, by omega, by omega, rfl⟩)
      have g3 := s6_isSerial_f (x := nI (a + b - 1)) (Or.inr ⟨_, by omega, by omega, rfl⟩)
      refine ⟨0, sr, nI h, bF, bZ, bK, bM, g, by omega, ?_, ?_, hb0⟩
      · simp (disch := omega) only [q_inb, q_isZ0, q_isZ1, q_leT, q_leF, q_ltT, q_ltF, q_eqT, q_eqF, nI_leI, nI_ltI, nI_eq, nI_add, pk_mul, q_sub, pk_sub, q_mod, pk_div, nI_clamp, q_not, q_m1, q_z1, q_n1lt, Nat.add_zero, Nat.zero_add, q_nT, q_nF, ↓reduceIte, bd0_s, bd1_s, bd2_s, bd3_s, bd4_s, bd5_s, bd6_s, bd7_s, bd8_s, bd9_s, lt_s_, qL0, qL1, qL2, qL3, qL4, qL5, qL6, qL7, qL8, qL9, qL10, qL11, qL12, qL13, qL14, qL15, qL16, qL17, qL21, qL25, qL26, qL31, qL33, qL40, qL43, qL45, qL48, qL49, qL57, qL58, qL59, qL60, qL61, qL65, qL90, qL97, qL98, qL99, qL118, qL119, qL126, qL240, qL261, qL501, qL999, qL1000, qL1002, qL2505, qL3006, qL999999, qL1000000, f5_runBook, f5_faultOfBook, g1, g2]
      · simp (disch := omega) only [q_inb, q_isZ0, q_isZ1, q_leT, q_leF, q_ltT, q_ltF, q_eqT, q_eqF, nI_leI, nI_ltI, nI_eq, nI_add, pk_mul, q_sub, pk_sub, q_mod, pk_div, nI_clamp, q_not, q_m1, q_z1, q_n1lt, Nat.add_zero, Nat.zero_add, q_nT, q_nF, ↓reduceIte, bd0_s, bd1_s, bd2_s, bd3_s, bd4_s, bd5_s, bd6_s, bd7_s, bd8_s, bd9_s, lt_s_, qL0, qL1, qL2, qL3, qL4, qL5, qL6, qL7, qL8, qL9, qL10, qL11, qL12, qL13, qL14, qL15, qL16, qL17, qL21, qL25, qL26, qL31, qL33, qL40, qL43, qL45, qL48, qL49, qL57, qL58, qL59, qL60, qL61, qL65, qL90, qL97, qL98, qL99, qL118, qL119, qL126, qL240, qL261, qL501, qL999, qL1000, qL1002, qL2505, qL3006, qL999999, qL1000000, g3]
  · -- 'w'
    have f0 := head _ b3 119 z
    have f6 := head6 119 z
    rw [if_neg (by decide), if_neg (by decide), if_neg (by decide), if_pos (show nI 119 = (119 : Int32) from rfl)] at f0
    rw [if_neg (by decide), if_neg (by decide), if_neg (by decide)] at f6
    rw [f0, f6]
    rcases cell_case h F Z (nI a) with ⟨s', b', e', hin⟩ | hnone
    · have e'' : a = s' := (nI_eq (by omega) (by have := inB_lt hB hin; omega)).mp e'
      subst e''
      obtain ⟨c1, c2, c3, c4⟩ := inB_cell hB hin
      have h4 := s0_cellOf_in hB cB hin
      have h5 := s6_spotOf_in hB mB hin
      have h6 := s0_kindAt hB cK c1 c2
      have h8 := hK b' (a - F b') c1 c2
      have h9 := mK b' (a - F b') c1 c2
      generalize 40 * b' + (a - F b') = c at c4 h4 h5 h6 h8 h9
      by_cases hk : K c = 0
      · obtain ⟨bK', bM', g', k1, k2, k3⟩ := op_write hW hB hK cW cB cK mW mB mK hr c4 b2 b1
        refine ⟨1, sr, nI h, bF, bZ, bK', bM', g', by omega, ?_, ?_, k3⟩
        · simp (disch := omega) only [q_inb, q_isZ0, q_isZ1, q_leT, q_leF, q_ltT, q_ltF, q_eqT, q_eqF, nI_leI, nI_ltI, nI_eq, nI_add, pk_mul, q_sub, pk_sub, q_mod, pk_div, nI_clamp, q_not, q_m1, q_z1, q_n1lt, Nat.add_zero, Nat.zero_add, q_nT, q_nF, ↓reduceIte, bd0_s, bd1_s, bd2_s, bd3_s, bd4_s, bd5_s, bd6_s, bd7_s, bd8_s, bd9_s, lt_s_, qL0, qL1, qL2, qL3, qL4, qL5, qL6, qL7, qL8, qL9, qL10, qL11, qL12, qL13, qL14, qL15, qL16, qL17, qL21, qL25, qL26, qL31, qL33, qL40, qL43, qL45, qL48, qL49, qL57, qL58, qL59, qL60, qL61, qL65, qL90, qL97, qL98, qL99, qL118, qL119, qL126, qL240, qL261, qL501, qL999, qL1000, qL1002, qL2505, qL3006, qL999999, qL1000000, f5_runWriting, f5_faultOfWriting, h4, h6, k1]
        · simp (disch := omega) only [q_inb, q_isZ0, q_isZ1, q_leT, q_leF, q_ltT, q_ltF, q_eqT, q_eqF, nI_leI, nI_ltI, nI_eq, nI_add, pk_mul, q_sub, pk_sub, q_mod, pk_div, nI_clamp, q_not, q_m1, q_z1, q_n1lt, Nat.add_zero, Nat.zero_add, q_nT, q_nF, ↓reduceIte, bd0_s, bd1_s, bd2_s, bd3_s, bd4_s, bd5_s, bd6_s, bd7_s, bd8_s, bd9_s, lt_s_, qL0, qL1, qL2, qL3, qL4, qL5, qL6, qL7, qL8, qL9, qL10, qL11, qL12, qL13, qL14, qL15, qL16, qL17, qL21, qL25, qL26, qL31, qL33, qL40, qL43, qL45, qL48, qL49, qL57, qL58, qL59, qL60, qL61, qL65, qL90, qL97, qL98, qL99, qL118, qL119, qL126, qL240, qL261, qL501, qL999, qL1000, qL1002, qL2505, qL3006, qL999999, qL1000000, h5, h9.1, k2]
      · refine ⟨0, sr, nI h, bF, bZ, bK, bM, g, by omega, ?_, ?_, hb0⟩
        · simp (disch := omega) only [q_inb, q_isZ0, q_isZ1, q_leT, q_leF, q_ltT, q_ltF, q_eqT, q_eqF, nI_leI, nI_ltI, nI_eq, nI_add, pk_mul, q_sub, pk_sub, q_mod, pk_div, nI_clamp, q_not, q_m1, q_z1, q_n1lt, Nat.add_zero, Nat.zero_add, q_nT, q_nF, ↓reduceIte, bd0_s, bd1_s, bd2_s, bd3_s, bd4_s, bd5_s, bd6_s, bd7_s, bd8_s, bd9_s, lt_s_, qL0, qL1, qL2, qL3, qL4, qL5, qL6, qL7, qL8, qL9, qL10, qL11, qL12, qL13, qL14, qL15, qL16, qL17, qL21, qL25, qL26, qL31, qL33, qL40, qL43, qL45, qL48, qL49, qL57, qL58, qL59, qL60, qL61, qL65, qL90, qL97, qL98, qL99, qL118, qL119, qL126, qL240, qL261, qL501, qL999, qL1000, qL1002, qL2505, qL3006, qL999999, qL1000000, f5_runWriting, f5_faultOfWriting, h4, h6]
        · simp (disch := omega) only [q_inb, q_isZ0, q_isZ1, q_leT, q_leF, q_ltT, q_ltF, q_eqT, q_eqF, nI_leI, nI_ltI, nI_eq, nI_add, pk_mul, q_sub, pk_sub, q_mod, pk_div, nI_clamp, q_not, q_m1, q_z1, q_n1lt, Nat.add_zero, Nat.zero_add, q_nT, q_nF, ↓reduceIte, bd0_s, bd1_s, bd2_s, bd3_s, bd4_s, bd5_s, bd6_s, bd7_s, bd8_s, bd9_s, lt_s_, qL0, qL1, qL2, qL3, qL4, qL5, qL6, qL7, qL8, qL9, qL10, qL11, qL12, qL13, qL14, qL15, qL16, qL17, qL21, qL25, qL26, qL31, qL33, qL40, qL43, qL45, qL48, qL49, qL57, qL58, qL59, qL60, qL61, qL65, qL90, qL97, qL98, qL99, qL118, qL119, qL126, qL240, qL261, qL501, qL999, qL1000, qL1002, qL2505, qL3006, qL999999, qL1000000, h5, h9.1]
    · have h4 := s0_cellOf_no hB cB hnone
      have h5 := s6_spotOf_no hB mB hnone
      refine ⟨0, sr, nI h, bF, bZ, bK, bM, g, by omega, ?_, ?_, hb0⟩
      · simp (disch := omega) only [q_inb, q_isZ0, q_isZ1, q_leT, q_leF, q_ltT, q_ltF, q_eqT, q_eqF, nI_leI, nI_ltI, nI_eq, nI_add, pk_mul, q_sub, pk_sub, q_mod, pk_div, nI_clamp, q_not, q_m1, q_z1, q_n1lt, Nat.add_zero, Nat.zero_add, q_nT, q_nF, ↓reduceIte, bd0_s, bd1_s, bd2_s, bd3_s, bd4_s, bd5_s, bd6_s, bd7_s, bd8_s, bd9_s, lt_s_, qL0, qL1, qL2, qL3, qL4, qL5, qL6, qL7, qL8, qL9, qL10, qL11, qL12, qL13, qL14, qL15, qL16, qL17, qL21, qL25, qL26, qL31, qL33, qL40, qL43, qL45, qL48, qL49, qL57, qL58, qL59, qL60, qL61, qL65, qL90, qL97, qL98, qL99, qL118, qL119, qL126, qL240, qL261, qL501, qL999, qL1000, qL1002, qL2505, qL3006, qL999999, qL1000000, f5_runWriting, f5_faultOfWriting, h4]
      · simp (disch := omega) only [q_inb, q_isZ0, q_isZ1, q_leT, q_leF, q_ltT, q_ltF, q_eqT, q_eqF, nI_leI, nI_ltI, nI_eq, nI_add, pk_mul, q_sub, pk_sub, q_mod, pk_div, nI_clamp, q_not, q_m1, q_z1, q_n1lt, Nat.add_zero, Nat.zero_add, q_nT, q_nF, ↓reduceIte, bd0_s, bd1_s, bd2_s, bd3_s, bd4_s, bd5_s, bd6_s, bd7_s, bd8_s, bd9_s, lt_s_, qL0, qL1, qL2, qL3, qL4, qL5, qL6, qL7, qL8, qL9, qL10, qL11, qL12, qL13, qL14, qL15, qL16, qL17, qL21, qL25, qL26, qL31, qL33, qL40, qL43, qL45, qL48, qL49, qL57, qL58, qL59, qL60, qL61, qL65, qL90, qL97, qL98, qL99, qL118, qL119, qL126, qL240, qL261, qL501, qL999, qL1000, qL1002, qL2505, qL3006, qL999999, qL1000000, h5]
  · -- 'v'
    have f0 := head _ b3 118 z
    have f6 := head6 118 z
    rw [if_neg (by decide), if_neg (by decide), if_pos (show nI 118 = (118 : Int32) from rfl)] at f0
    rw [if_neg (by decide), if_neg (by decide), if_pos (show nI 118 = (118 : Int32) from rfl)] at f6
    rw [f0, f6]
    have g1 := s5_isSerial_t a3
    have g2 := s5_isSerial_t b1
    by_cases c1 : a ≤ b
    · obtain ⟨v, bK', bM', g', k0, k1, k2, k3⟩ := op_void hW hB hK cW cB cK mW mB mK hr a3 b1
      refine ⟨1, sr, nI h, bF, bZ, bK', bM', g', by omega, ?_, ?_, k3⟩
      · simp (disch := omega) only [q_inb, q_isZ0, q_isZ1, q_leT, q_leF, q_ltT, q_ltF, q_eqT, q_eqF, nI_leI, nI_ltI, nI_eq, nI_add, pk_mul, q_sub, pk_sub, q_mod, pk_div, nI_clamp, q_not, q_m1, q_z1, q_n1lt, Nat.add_zero, Nat.zero_add, q_nT, q_nF, ↓reduceIte, bd0_s, bd1_s, bd2_s, bd3_s, bd4_s, bd5_s, bd6_s, bd7_s, bd8_s, bd9_s, lt_s_, qL0, qL1, qL2, qL3, qL4, qL5, qL6, qL7, qL8, qL9, qL10, qL11, qL12, qL13, qL14, qL15, qL16, qL17, qL21, qL25, qL26, qL31, qL33, qL40, qL43, qL45, qL48, qL49, qL57, qL58, qL59, qL60, qL61, qL65, qL90, qL97, qL98, qL99, qL118, qL119, qL126, qL240, qL261, qL501, qL999, qL1000, qL1002, qL2505, qL3006, qL999999, qL1000000, f5_runVoiding, f5_faultOfRun, g1, g2, k1]
      · simp (disch := omega) only [q_inb, q_isZ0, q_isZ1, q_leT, q_leF, q_ltT, q_ltF, q_eqT, q_eqF, nI_leI, nI_ltI, nI_eq, nI_add, pk_mul, q_sub, pk_sub, q_mod, pk_div, nI_clamp, q_not, q_m1, q_z1, q_n1lt, Nat.add_zero, Nat.zero_add, q_nT, q_nF, ↓reduceIte, bd0_s, bd1_s, bd2_s, bd3_s, bd4_s, bd5_s, bd6_s, bd7_s, bd8_s, bd9_s, lt_s_, qL0, qL1, qL2, qL3, qL4, qL5, qL6, qL7, qL8, qL9, qL10, qL11, qL12, qL13, qL14, qL15, qL16, qL17, qL21, qL25, qL26, qL31, qL33, qL40, qL43, qL45, qL48, qL49, qL57, qL58, qL59, qL60, qL61, qL65, qL90, qL97, qL98, qL99, qL118, qL119, qL126, qL240, qL261, qL501, qL999, qL1000, qL1002, qL2505, qL3006, qL999999, qL1000000, k2]
    · refine ⟨0, sr, nI h, bF, bZ, bK, bM, g, by omega, ?_, ?_, hb0⟩
      · simp (disch := omega) only [q_inb, q_isZ0, q_isZ1, q_leT, q_leF, q_ltT, q_ltF, q_eqT, q_eqF, nI_leI, nI_ltI, nI_eq, nI_add, pk_mul, q_sub, pk_sub, q_mod, pk_div, nI_clamp, q_not, q_m1, q_z1, q_n1lt, Nat.add_zero, Nat.zero_add, q_nT, q_nF, ↓reduceIte, bd0_s, bd1_s, bd2_s, bd3_s, bd4_s, bd5_s, bd6_s, bd7_s, bd8_s, bd9_s, lt_s_, qL0, qL1, qL2, qL3, qL4, qL5, qL6, qL7, qL8, qL9, qL10, qL11, qL12, qL13, qL14, qL15, qL16, qL17, qL21, qL25, qL26, qL31, qL33, qL40, qL43, qL45, qL48, qL49, qL57, qL58, qL59, qL60, qL61, qL65, qL90, qL97, qL98, qL99, qL118, qL119, qL126, qL240, qL261, qL501, qL999, qL1000, qL1002, qL2505, qL3006, qL999999, qL1000000, f5_runVoiding, f5_faultOfRun, g1, g2]
      · simp (disch := omega) only [q_inb, q_isZ0, q_isZ1, q_leT, q_leF, q_ltT, q_ltF, q_eqT, q_eqF, nI_leI, nI_ltI, nI_eq, nI_add, pk_mul, q_sub, pk_sub, q_mod, pk_div, nI_clamp, q_not, q_m1, q_z1, q_n1lt, Nat.add_zero, Nat.zero_add, q_nT, q_nF, ↓reduceIte, bd0_s, bd1_s, bd2_s, bd3_s, bd4_s, bd5_s, bd6_s, bd7_s, bd8_s, bd9_s, lt_s_, qL0, qL1, qL2, qL3, qL4, qL5, qL6, qL7, qL8, qL9, qL10, qL11, qL12, qL13, qL14, qL15, qL16, qL17, qL21, qL25, qL26, qL31, qL33, qL40, qL43, qL45, qL48, qL49, qL57, qL58, qL59, qL60, qL61, qL65, qL90, qL97, qL98, qL99, qL118, qL119, qL126, qL240, qL261, qL501, qL999, qL1000, qL1002, qL2505, qL3006, qL999999, qL1000000]
  · -- 'c'
    have f0 := head _ b3 99 z
    have f6 := head6 99 z
    rw [if_neg (by decide), if_pos (show nI 99 = (99 : Int32) from rfl)] at f0
    rw [if_pos (show nI 99 = (99 : Int32) from rfl)] at f6
    rw [f0, f6]
    have h1 := s3_signAt_in H (show s + 7 < n by omega)
    have e2 : nI e - (1 : Int32) = nI (s + 7) := by rw [qL1, pk_sub (by omega), b2]; rfl
    have e3 : nI (T (s + 7)) - (65 : Int32) = nI b := by rw [b4, qL65, pk_sub (by omega), Nat.add_sub_cancel]
    obtain ⟨r, sr', bK', bM', g', k1, k2, k3⟩ := op_cash hW hB hK cW cB cK mW mB mK hr a3 b1
    by_cases c1 : r ≤ 0
    · refine ⟨0, sr', nI h, bF, bZ, bK', bM', g', by omega, ?_, ?_, k3⟩
      · rw [e2, h1, bd1_s, e3, k1, bd4_s, if_pos c1]; rfl
      · rw [k2, bd2_s, if_pos c1]; rfl
    · refine ⟨1, sr', nI h, bF, bZ, bK', bM', g', by omega, ?_, ?_, k3⟩
      · rw [e2, h1, bd1_s, e3, k1, bd4_s, if_neg c1]; rfl
      · rw [k2, bd2_s, if_neg c1]; rfl
theorem exec_walk {wm : Int32} {wW oS D mT mP : Nat → Int32} {n : Nat} {T : NF} (H : cT_ n T oS) {ms ml mt mq : Int32} : ∀ (k q s : Nat) (sr bh : Int32) (bF bZ bK bM g : Nat → Int32) (t t6 : Nat), Bk sr wm wW bh bF bZ bK bM g → ordL oS n T D k q s → q + k ≤ 7 → s ≤ n → n - s + 2 ≤ t → k < t6 →
    ∃ v sr' bh' bF' bZ' bK' bM' g', f5_runOrders_l15 wm wW (nI n) oS (nI n) t (nI q) (nI s) (nI s) sr bh bF bZ bK bM = some (v, sr', bh', bF', bZ', bK', bM') ∧ f6_execute_l29 mT t6 (nI q) ms ml mt mq (nI (q + k)) g mP D = some (v, ms, ml, mt, mq, nI (q + k), g', mP, D) ∧ Bk sr' wm wW bh' bF' bZ' bK' bM' g' := by
  intro k
  induction k with
  | zero => intro q s sr bh bF bZ bK bM g t t6 _ h; exact absurd h id
  | succ k ih =>
    intro q s sr bh bF bZ bK bM g t t6 hb hL hq hs ht ht6
    have hn := H.1
    obtain ⟨e, ho, h59, hend⟩ := hL
    have e1 := ho.1
    have e2 := ho.2.1
    obtain ⟨d, sr', bh', bF', bZ', bK', bM', g', k1, k2, k3, k4⟩ := exec_one hb H ho (by omega)
    have go : ∀ t, f5_runOrders_l15 wm wW (nI n) oS (nI n) (t + (e - s)) (nI q) (nI s) (nI s) sr bh bF bZ bK bM = f5_runOrders_l15 wm wW (nI n) oS (nI n) t (nI q) (nI s) (nI e) sr bh bF bZ bK bM := fun t => by
      have := traj (fun i t => f5_runOrders_l15 wm wW (nI n) oS (nI n) t (nI q) (nI s) (nI i) sr bh bF bZ bK bM) s (e - s) (fun i t h1 h2 => by
        have p3 := s3_signAt_in H (show i < n by omega)
        have p4 := H.2 i (by omega)
        have p5 := h59 i h1 (by omega)
        rw [f5_runOrders_l15, if_neg (nI_nlt (by omega) (by omega)), if_neg (fun y => by have := (nI_eq (by omega) (by omega)).mp y; omega), p3, bd1_s, if_neg (by rw [qL59, nI_eq (by omega) (by decide)]; exact p5), nI_1]) t
      rwa [show s + (e - s) = e by omega] at this
    obtain ⟨u, rfl⟩ : ∃ u, t = (u + 1) + (e - s) := ⟨t - (e - s) - 1, by omega⟩
    obtain ⟨u6, rfl⟩ : ∃ u6, t6 = u6 + 1 := ⟨t6 - 1, by omega⟩
    -- the order itself
    have at5 : ∀ k15, f5_runOrders_j41 k15 sr wm wW bh bF bZ bK bM (nI n) oS (nI q) (nI s) (nI n) (nI e) = if nI d = 0 then some (nI q, sr', bh', bF', bZ', bK', bM') else k15 (nI (q + 1)) (nI (e + 1)) (nI (e + 1)) sr' bh' bF' bZ' bK' bM' := fun k15 => by
      unfold f5_runOrders_j41
      rw [k2, bd7_s, nI_1, nI_1]
    have st5 : f5_runOrders_l15 wm wW (nI n) oS (nI n) (u + 1) (nI q) (nI s) (nI e) sr bh bF bZ bK bM = f5_runOrders_j41 (f5_runOrders_l15 wm wW (nI n) oS (nI n) u) sr wm wW bh bF bZ bK bM (nI n) oS (nI q) (nI s) (nI n) (nI e) := by
      rw [f5_runOrders_l15, if_neg (nI_nlt (by omega) (by omega))]
      rcases hend with ⟨-, z⟩ | ⟨z, z2, -⟩
      · rw [if_pos (by rw [z])]
      · have p3 := s3_signAt_in H z
        rw [if_neg (fun y => by have := (nI_eq (by omega) (by omega)).mp y; omega), p3, bd1_s, z2, if_pos (show nI 59 = (59 : Int32) from rfl)]
    rw [go, st5, at5, f6_execute_l29, if_neg (nI_ge (show q < q + (k + 1) by omega) (by omega)), k3, bd2_s]
    rcases (show d = 0 ∨ d = 1 by omega) with rfl | rfl
    · rw [if_pos (show nI 0 = (0 : Int32) from rfl), if_pos (show nI 0 = (0 : Int32) from rfl)]
      exact ⟨_, _, _, _, _, _, _, _, rfl, rfl, k4⟩
    · rw [if_neg (by decide), if_neg (by decide), nI_1]
      rcases hend with ⟨z1, z2⟩ | ⟨z1, z2, z3⟩
      · subst z1
        obtain ⟨u', rfl⟩ : ∃ u', u = u' + 1 := ⟨u - 1, by omega⟩
        obtain ⟨u7, rfl⟩ : ∃ u7, u6 = u7 + 1 := ⟨u6 - 1, by omega⟩
        rw [f5_runOrders_l15, if_pos (nI_lt (by omega) (by omega)), f6_execute_l29, if_pos (nI_le (by omega) (by omega))]
        exact ⟨_, _, _, _, _, _, _, _, rfl, rfl, k4⟩
      · have := ih (q + 1) (e + 1) sr' bh' bF' bZ' bK' bM' g' u u6 k4 z3 (by omega) (by omega) (by omega) (by omega)
        rwa [show q + 1 + k = q + (k + 1) by omega] at this
