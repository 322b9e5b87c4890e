
/-! ===== pure rows: the books; the cell of a serial ===== -/
/-- s is in book b -/
def inB (h : Nat) (F Z : NF) (s b : Nat) : Prop := b < h ∧ F b ≤ s ∧ s < F b + Z b
theorem inB_one {h : Nat} {F Z : NF} (Hw : wB_ h F Z) {s b c : Nat} (h1 : inB h F Z s b) (h2 : inB h F Z s c) : b = c := by
  refine Decidable.byContradiction fun q => ?_
  have h3 := Hw.2.2 b c h1.1 h2.1 q
  unfold inB at h1 h2
  omega
theorem inB_lt {h : Nat} {F Z : NF} (Hw : wB_ h F Z) {s b : Nat} (h1 : inB h F Z s b) : s < 1000000 := by
  have h3 := Hw.2.1 b h1.1
  unfold inB at h1
  omega
theorem s0_firstOf {h : Nat} {F Z : NF} {bh : Int32} {bF bZ : Nat → Int32} (Hw : wB_ h F Z) (H : cB_ h F Z bh bF bZ) {b : Nat} (hb : b < h) : f0_firstOf bF (nI b) = some (nI (F b)) := by
  have e := (H.2 b hb).1
  have h1 := Hw.1
  simp (disch := omega) only [q_inb, q_isZ0, q_isZ1, q_leT, q_leF, q_ltT, q_ltF, q_eqT, q_eqF, nI_leI, nI_ltI, nI_eq, nI_add, pk_mul, q_sub, pk_sub, q_mod, pk_div, nI_clamp, q_not, q_m1, q_z1, q_n1lt, Nat.add_zero, Nat.zero_add, q_nT, q_nF, ↓reduceIte, bd0_s, bd1_s, bd2_s, bd3_s, bd4_s, bd5_s, bd6_s, bd7_s, bd8_s, bd9_s, lt_s_, qL0, qL1, qL2, qL3, qL4, qL5, qL6, qL7, qL8, qL9, qL10, qL11, qL12, qL13, qL14, qL15, qL16, qL17, qL21, qL25, qL26, qL31, qL33, qL40, qL43, qL45, qL48, qL49, qL57, qL58, qL59, qL60, qL61, qL65, qL90, qL97, qL98, qL99, qL118, qL119, qL126, qL240, qL261, qL501, qL999, qL1000, qL1002, qL2505, qL3006, qL999999, qL1000000, f0_firstOf, e]
theorem s0_sizeOf {h : Nat} {F Z : NF} {bh : Int32} {bF bZ : Nat → Int32} (Hw : wB_ h F Z) (H : cB_ h F Z bh bF bZ) {b : Nat} (hb : b < h) : f0_sizeOf bZ (nI b) = some (nI (Z b)) := by
  have e := (H.2 b hb).2
  have h1 := Hw.1
  simp (disch := omega) only [q_inb, q_isZ0, q_isZ1, q_leT, q_leF, q_ltT, q_ltF, q_eqT, q_eqF, nI_leI, nI_ltI, nI_eq, nI_add, pk_mul, q_sub, pk_sub, q_mod, pk_div, nI_clamp, q_not, q_m1, q_z1, q_n1lt, Nat.add_zero, Nat.zero_add, q_nT, q_nF, ↓reduceIte, bd0_s, bd1_s, bd2_s, bd3_s, bd4_s, bd5_s, bd6_s, bd7_s, bd8_s, bd9_s, lt_s_, qL0, qL1, qL2, qL3, qL4, qL5, qL6, qL7, qL8, qL9, qL10, qL11, qL12, qL13, qL14, qL15, qL16, qL17, qL21, qL25, qL26, qL31, qL33, qL40, qL43, qL45, qL48, qL49, qL57, qL58, qL59, qL60, qL61, qL65, qL90, qL97, qL98, qL99, qL118, qL119, qL126, qL240, qL261, qL501, qL999, qL1000, qL1002, qL2505, qL3006, qL999999, qL1000000, f0_sizeOf, e]
theorem s6_firstOf {h : Nat} {F Z : NF} {g : Nat → Int32} (Hw : wB_ h F Z) (H : mB_ h F Z g) {b : Nat} (hb : b < h) : f6_firstOf g (nI b) = some (nI (F b)) := by
  have e := (H.2 b hb).1
  have h1 := Hw.1
  simp (disch := omega) only [q_inb, q_isZ0, q_isZ1, q_leT, q_leF, q_ltT, q_ltF, q_eqT, q_eqF, nI_leI, nI_ltI, nI_eq, nI_add, pk_mul, q_sub, pk_sub, q_mod, pk_div, nI_clamp, q_not, q_m1, q_z1, q_n1lt, Nat.add_zero, Nat.zero_add, q_nT, q_nF, ↓reduceIte, bd0_s, bd1_s, bd2_s, bd3_s, bd4_s, bd5_s, bd6_s, bd7_s, bd8_s, bd9_s, lt_s_, qL0, qL1, qL2, qL3, qL4, qL5, qL6, qL7, qL8, qL9, qL10, qL11, qL12, qL13, qL14, qL15, qL16, qL17, qL21, qL25, qL26, qL31, qL33, qL40, qL43, qL45, qL48, qL49, qL57, qL58, qL59, qL60, qL61, qL65, qL90, qL97, qL98, qL99, qL118, qL119, qL126, qL240, qL261, qL501, qL999, qL1000, qL1002, qL2505, qL3006, qL999999, qL1000000, f6_firstOf, e]
theorem s6_countOf {h : Nat} {F Z : NF} {g : Nat → Int32} (Hw : wB_ h F Z) (H : mB_ h F Z g) {b : Nat} (hb : b < h) : f6_countOf g (nI b) = some (nI (Z b)) := by
  have e := (H.2 b hb).2
  have h1 := Hw.1
  simp (disch := omega) only [q_inb, q_isZ0, q_isZ1, q_leT, q_leF, q_ltT, q_ltF, q_eqT, q_eqF, nI_leI, nI_ltI, nI_eq, nI_add, pk_mul, q_sub, pk_sub, q_mod, pk_div, nI_clamp, q_not, q_m1, q_z1, q_n1lt, Nat.add_zero, Nat.zero_add, q_nT, q_nF, ↓reduceIte, bd0_s, bd1_s, bd2_s, bd3_s, bd4_s, bd5_s, bd6_s, bd7_s, bd8_s, bd9_s, lt_s_, qL0, qL1, qL2, qL3, qL4, qL5, qL6, qL7, qL8, qL9, qL10, qL11, qL12, qL13, qL14, qL15, qL16, qL17, qL21, qL25, qL26, qL31, qL33, qL40, qL43, qL45, qL48, qL49, qL57, qL58, qL59, qL60, qL61, qL65, qL90, qL97, qL98, qL99, qL118, qL119, qL126, qL240, qL261, qL501, qL999, qL1000, qL1002, qL2505, qL3006, qL999999, qL1000000, f6_countOf, e]
theorem s0_cellOf_in {h : Nat} {F Z : NF} {bh : Int32} {bF bZ : Nat → Int32} (Hw : wB_ h F Z) (H : cB_ h F Z bh bF bZ) {s b : Nat} (hin : inB h F Z s b) : f0_cellOf bh bF bZ (nI s) = some (nI (40 * b + (s - F b))) := by
  obtain rfl := H.1
  have hs := inB_lt Hw hin
  have hh := Hw.1
  obtain ⟨t, ht⟩ := traj0 (fun i t => f0_cellOf_l2 (nI h) bF bZ (nI s) t (nI i)) b (by have := hin.1; omega) (fun i t hi => by
    have h1 : i < h := Nat.lt_trans hi hin.1
    have h2 := s0_firstOf Hw H h1
    have h3 := s0_sizeOf Hw H h1
    have h4 := Hw.2.1 i h1
    have h5 : ¬ (F i ≤ s ∧ s < F i + Z i) := fun q => by
      have := inB_one Hw (show inB h F Z s i from ⟨h1, q⟩) hin
      omega
    rw [f0_cellOf_l2]
    by_cases h6 : s < F i
    · simp (disch := omega) only [q_inb, q_isZ0, q_isZ1, q_leT, q_leF, q_ltT, q_ltF, q_eqT, q_eqF, nI_leI, nI_ltI, nI_eq, nI_add, pk_mul, q_sub, pk_sub, q_mod, pk_div, nI_clamp, q_not, q_m1, q_z1, q_n1lt, Nat.add_zero, Nat.zero_add, q_nT, q_nF, ↓reduceIte, bd0_s, bd1_s, bd2_s, bd3_s, bd4_s, bd5_s, bd6_s, bd7_s, bd8_s, bd9_s, lt_s_, qL0, qL1, qL2, qL3, qL4, qL5, qL6, qL7, qL8, qL9, qL10, qL11, qL12, qL13, qL14, qL15, qL16, qL17, qL21, qL25, qL26, qL31, qL33, qL40, qL43, qL45, qL48, qL49, qL57, qL58, qL59, qL60, qL61, qL65, qL90, qL97, qL98, qL99, qL118, qL119, qL126, qL240, qL261, qL501, qL999, qL1000, qL1002, qL2505, qL3006, qL999999, qL1000000, h2, h3]
    · simp (disch := omega) only [q_inb, q_isZ0, q_isZ1, q_leT, q_leF, q_ltT, q_ltF, q_eqT, q_eqF, nI_leI, nI_ltI, nI_eq, nI_add, pk_mul, q_sub, pk_sub, q_mod, pk_div, nI_clamp, q_not, q_m1, q_z1, q_n1lt, Nat.add_zero, Nat.zero_add, q_nT, q_nF, ↓reduceIte, bd0_s, bd1_s, bd2_s, bd3_s, bd4_s, bd5_s, bd6_s, bd7_s, bd8_s, bd9_s, lt_s_, qL0, qL1, qL2, qL3, qL4, qL5, qL6, qL7, qL8, qL9, qL10, qL11, qL12, qL13, qL14, qL15, qL16, qL17, qL21, qL25, qL26, qL31, qL33, qL40, qL43, qL45, qL48, qL49, qL57, qL58, qL59, qL60, qL61, qL65, qL90, qL97, qL98, qL99, qL118, qL119, qL126, qL240, qL261, qL501, qL999, qL1000, qL1002, qL2505, qL3006, qL999999, qL1000000, h2, h3])
  have h2 := s0_firstOf Hw H hin.1
  have h3 := s0_sizeOf Hw H hin.1
  have h4 := Hw.2.1 b hin.1
  obtain ⟨k1, k2, k3⟩ := hin
  unfold f0_cellOf
  refine Eq.trans ht ?_
  rw [f0_cellOf_l2]
  simp (disch := omega) only [q_inb, q_isZ0, q_isZ1, q_leT, q_leF, q_ltT, q_ltF, q_eqT, q_eqF, nI_leI, nI_ltI, nI_eq, nI_add, pk_mul, q_sub, pk_sub, q_mod, pk_div, nI_clamp, q_not, q_m1, q_z1, q_n1lt, Nat.add_zero, Nat.zero_add, q_nT, q_nF, ↓reduceIte, bd0_s, bd1_s, bd2_s, bd3_s, bd4_s, bd5_s, bd6_s, bd7_s, bd8_s, bd9_s, lt_s_, qL0, qL1, qL2, qL3, qL4, qL5, qL6, qL7, qL8, qL9, qL10, qL11, qL12, qL13, qL14, qL15, qL16, qL17, qL21, qL25, qL26, qL31, qL33, qL40, qL43, qL45, qL48, qL49, qL57, qL58, qL59, qL60, qL61, qL65, qL90, qL97, qL98, qL99, qL118, qL119, qL126, qL240, qL261, qL501, qL999, qL1000, qL1002, qL2505, qL3006, qL999999, qL1000000, h2, h3]
  rw [show b * 40 + s - F b = 40 * b + (s - F b) by omega]
theorem s0_cellOf_no {h : Nat} {F Z : NF} {bh : Int32} {bF bZ : Nat → Int32} (Hw : wB_ h F Z) (H : cB_ h F Z bh bF bZ) {x : Int32} (hno : x < 0 ∨ ∃ s, s < 2 ^ 31 ∧ x = nI s ∧ ∀ b, ¬ inB h F Z s b) : f0_cellOf bh bF bZ x = some (-1) := by
  obtain rfl := H.1
  have hh := Hw.1
  obtain ⟨t, ht⟩ := traj0 (fun i t => f0_cellOf_l2 (nI h) bF bZ x t (nI i)) h (by omega) (fun i t h1 => by
    have h2 := s0_firstOf Hw H h1
    have h3 := s0_sizeOf Hw H h1
    have h4 := Hw.2.1 i h1
    rw [f0_cellOf_l2]
    rcases hno with hx | ⟨s, hs, rfl, hno⟩
    · have h5 := q_neg hx (show F i < 2 ^ 31 by omega)
      rw [if_neg (by rw [nI_leI (by omega) (by omega)]; omega), h2, bd1_s, if_pos h5, nI_1]
    · have h5 : ¬ (F i ≤ s ∧ s < F i + Z i) := fun q => hno i ⟨h1, q⟩
      by_cases h6 : s < F i
      · simp (disch := omega) only [q_inb, q_isZ0, q_isZ1, q_leT, q_leF, q_ltT, q_ltF, q_eqT, q_eqF, nI_leI, nI_ltI, nI_eq, nI_add, pk_mul, q_sub, pk_sub, q_mod, pk_div, nI_clamp, q_not, q_m1, q_z1, q_n1lt, Nat.add_zero, Nat.zero_add, q_nT, q_nF, ↓reduceIte, bd0_s, bd1_s, bd2_s, bd3_s, bd4_s, bd5_s, bd6_s, bd7_s, bd8_s, bd9_s, lt_s_, qL0, qL1, qL2, qL3, qL4, qL5, qL6, qL7, qL8, qL9, qL10, qL11, qL12, qL13, qL14, qL15, qL16, qL17, qL21, qL25, qL26, qL31, qL33, qL40, qL43, qL45, qL48, qL49, qL57, qL58, qL59, qL60, qL61, qL65, qL90, qL97, qL98, qL99, qL118, qL119, qL126, qL240, qL261, qL501, qL999, qL1000, qL1002, qL2505, qL3006, qL999999, qL1000000, h2, h3]
      · simp (disch := omega) only [q_inb, q_isZ0, q_isZ1, q_leT, q_leF, q_ltT, q_ltF, q_eqT, q_eqF, nI_leI, nI_ltI, nI_eq, nI_add, pk_mul, q_sub, pk_sub, q_mod, pk_div, nI_clamp, q_not, q_m1, q_z1, q_n1lt, Nat.add_zero, Nat.zero_add, q_nT, q_nF, ↓reduceIte, bd0_s, bd1_s, bd2_s, bd3_s, bd4_s, bd5_s, bd6_s, bd7_s, bd8_s, bd9_s, lt_s_, qL0, qL1, qL2, qL3, qL4, qL5, qL6, qL7, qL8, qL9, qL10, qL11, qL12, qL13, qL14, qL15, qL16, qL17, qL21, qL25, qL26, qL31, qL33, qL40, qL43, qL45, qL48, qL49, qL57, qL58, qL59, qL60, qL61, qL65, qL90, qL97, qL98, qL99, qL118, qL119, qL126, qL240, qL261, qL501, qL999, qL1000, qL1002, qL2505, qL3006, qL999999, qL1000000, h2, h3])
  unfold f0_cellOf
  refine Eq.trans ht ?_
  rw [f0_cellOf_l2]
  simp (disch := omega) only [q_inb, q_isZ0, q_isZ1, q_leT, q_leF, q_ltT, q_ltF, q_eqT, q_eqF, nI_leI, nI_ltI, nI_eq, nI_add, pk_mul, q_sub, pk_sub, q_mod, pk_div, nI_clamp, q_not, q_m1, q_z1, q_n1lt, Nat.add_zero, Nat.zero_add, q_nT, q_nF, ↓reduceIte, bd0_s, bd1_s, bd2_s, bd3_s, bd4_s, bd5_s, bd6_s, bd7_s, bd8_s, bd9_s, lt_s_, qL0, qL1, qL2, qL3, qL4, qL5, qL6, qL7, qL8, qL9, qL10, qL11, qL12, qL13, qL14, qL15, qL16, qL17, qL21, qL25, qL26, qL31, qL33, qL40, qL43, qL45, qL48, qL49, qL57, qL58, qL59, qL60, qL61, qL65, qL90, qL97, qL98, qL99, qL118, qL119, qL126, qL240, qL261, qL501, qL999, qL1000, qL1002, qL2505, qL3006, qL999999, qL1000000]
theorem s6_in_neg {x : Int32} (hx : x < 0) {a : Nat} (ha : a < 2 ^ 31) (y : Int32) : f6_in x (nI a) y = some (nI 0) := by
  unfold f6_in
  rw [if_pos (q_neg hx ha)]
  rfl
theorem s6_in_t {a b c : Nat} (ha : a < 2 ^ 31) (hc : c < 2 ^ 31) (h : b ≤ a ∧ a ≤ c) : f6_in (nI a) (nI b) (nI c) = some (nI 1) := by
  simp (disch := omega) only [q_inb, q_isZ0, q_isZ1, q_leT, q_leF, q_ltT, q_ltF, q_eqT, q_eqF, nI_leI, nI_ltI, nI_eq, nI_add, pk_mul, q_sub, pk_sub, q_mod, pk_div, nI_clamp, q_not, q_m1, q_z1, q_n1lt, Nat.add_zero, Nat.zero_add, q_nT, q_nF, ↓reduceIte, bd0_s, bd1_s, bd2_s, bd3_s, bd4_s, bd5_s, bd6_s, bd7_s, bd8_s, bd9_s, lt_s_, qL0, qL1, qL2, qL3, qL4, qL5, qL6, qL7, qL8, qL9, qL10, qL11, qL12, qL13, qL14, qL15, qL16, qL17, qL21, qL25, qL26, qL31, qL33, qL40, qL43, qL45, qL48, qL49, qL57, qL58, qL59, qL60, qL61, qL65, qL90, qL97, qL98, qL99, qL118, qL119, qL126, qL240, qL261, qL501, qL999, qL1000, qL1002, qL2505, qL3006, qL999999, qL1000000, f6_in]
theorem s6_in_f {a b c : Nat} (ha : a < 2 ^ 31) (hb : b < 2 ^ 31) (hc : c < 2 ^ 31) (h : ¬ (b ≤ a ∧ a ≤ c)) : f6_in (nI a) (nI b) (nI c) = some (nI 0) := by
  by_cases h1 : b ≤ a
  · simp (disch := omega) only [q_inb, q_isZ0, q_isZ1, q_leT, q_leF, q_ltT, q_ltF, q_eqT, q_eqF, nI_leI, nI_ltI, nI_eq, nI_add, pk_mul, q_sub, pk_sub, q_mod, pk_div, nI_clamp, q_not, q_m1, q_z1, q_n1lt, Nat.add_zero, Nat.zero_add, q_nT, q_nF, ↓reduceIte, bd0_s, bd1_s, bd2_s, bd3_s, bd4_s, bd5_s, bd6_s, bd7_s, bd8_s, bd9_s, lt_s_, qL0, qL1, qL2, qL3, qL4, qL5, qL6, qL7, qL8, qL9, qL10, qL11, qL12, qL13, qL14, qL15, qL16, qL17, qL21, qL25, qL26, qL31, qL33, qL40, qL43, qL45, qL48, qL49, qL57, qL58, qL59, qL60, qL61, qL65, qL90, qL97, qL98, qL99, qL118, qL119, qL126, qL240, qL261, qL501, qL999, qL1000, qL1002, qL2505, qL3006, qL999999, qL1000000, f6_in]
  · simp (disch := omega) only [q_inb, q_isZ0, q_isZ1, q_leT, q_leF, q_ltT, q_ltF, q_eqT, q_eqF, nI_leI, nI_ltI, nI_eq, nI_add, pk_mul, q_sub, pk_sub, q_mod, pk_div, nI_clamp, q_not, q_m1, q_z1, q_n1lt, Nat.add_zero, Nat.zero_add, q_nT, q_nF, ↓reduceIte, bd0_s, bd1_s, bd2_s, bd3_s, bd4_s, bd5_s, bd6_s, bd7_s, bd8_s, bd9_s, lt_s_, qL0, qL1, qL2, qL3, qL4, qL5, qL6, qL7, qL8, qL9, qL10, qL11, qL12, qL13, qL14, qL15, qL16, qL17, qL21, qL25, qL26, qL31, qL33, qL40, qL43, qL45, qL48, qL49, qL57, qL58, qL59, qL60, qL61, qL65, qL90, qL97, qL98, qL99, qL118, qL119, qL126, qL240, qL261, qL501, qL999, qL1000, qL1002, qL2505, qL3006, qL999999, qL1000000, f6_in]
theorem s6_spotOf_in {h : Nat} {F Z : NF} {g : Nat → Int32} (Hw : wB_ h F Z) (H : mB_ h F Z g) {s b : Nat} (hin : inB h F Z s b) : f6_spotOf g (nI s) = some (nI (40 * b + (s - F b))) := by
  have hs := inB_lt Hw hin
  have hh := Hw.1
  obtain ⟨t, ht⟩ := traj0 (fun i t => f6_spotOf_l4 g (nI s) t (if b < i then nI (40 * b + (s - F b)) else -nI 1) (nI i)) h (by omega) (fun i t h1 => by
    have h2 := s6_firstOf Hw H h1
    have h3 := s6_countOf Hw H h1
    have h4 := Hw.2.1 i h1
    rw [f6_spotOf_l4]
    by_cases h5 : F i ≤ s ∧ s < F i + Z i
    · have h6 := inB_one Hw (show inB h F Z s i from ⟨h1, h5⟩) hin
      subst h6
      have h7 := s6_in_t (a := s) (b := F i) (c := F i + Z i - 1) (by omega) (by omega) (by omega)
      rw [if_neg (Nat.lt_irrefl i), if_pos (Nat.lt_succ_self i)]
      simp (disch := omega) only [q_inb, q_isZ0, q_isZ1, q_leT, q_leF, q_ltT, q_ltF, q_eqT, q_eqF, nI_leI, nI_ltI, nI_eq, nI_add, pk_mul, q_sub, pk_sub, q_mod, pk_div, nI_clamp, q_not, q_m1, q_z1, q_n1lt, Nat.add_zero, Nat.zero_add, q_nT, q_nF, ↓reduceIte, bd0_s, bd1_s, bd2_s, bd3_s, bd4_s, bd5_s, bd6_s, bd7_s, bd8_s, bd9_s, lt_s_, qL0, qL1, qL2, qL3, qL4, qL5, qL6, qL7, qL8, qL9, qL10, qL11, qL12, qL13, qL14, qL15, qL16, qL17, qL21, qL25, qL26, qL31, qL33, qL40, qL43, qL45, qL48, qL49, qL57, qL58, qL59, qL60, qL61, qL65, qL90, qL97, qL98, qL99, qL118, qL119, qL126, qL240, qL261, qL501, qL999, qL1000, qL1002, qL2505, qL3006, qL999999, qL1000000, show g 0 = nI h from H.1, h2, h3, h7]
      rw [show 40 * i + s - F i = 40 * i + (s - F i) by omega]
    · have h7 := s6_in_f (a := s) (b := F i) (c := F i + Z i - 1) (by omega) (by omega) (by omega) (by omega)
      have h8 : i ≠ b := fun q => h5 (by subst q; exact hin.2)
      have h9 : (if b < i + 1 then nI (40 * b + (s - F b)) else -nI 1) = if b < i then nI (40 * b + (s - F b)) else -nI 1 := by
        by_cases h10 : b < i
        · rw [if_pos h10, if_pos (by omega)]
        · rw [if_neg h10, if_neg (by omega)]
      rw [h9]
      generalize (if b < i then nI (40 * b + (s - F b)) else -nI 1) = v
      simp (disch := omega) only [q_inb, q_isZ0, q_isZ1, q_leT, q_leF, q_ltT, q_ltF, q_eqT, q_eqF, nI_leI, nI_ltI, nI_eq, nI_add, pk_mul, q_sub, pk_sub, q_mod, pk_div, nI_clamp, q_not, q_m1, q_z1, q_n1lt, Nat.add_zero, Nat.zero_add, q_nT, q_nF, ↓reduceIte, bd0_s, bd1_s, bd2_s, bd3_s, bd4_s, bd5_s, bd6_s, bd7_s, bd8_s, bd9_s, lt_s_, qL0, qL1, qL2, qL3, qL4, qL5, qL6, qL7, qL8, qL9, qL10, qL11, qL12, qL13, qL14, qL15, qL16, qL17, qL21, qL25, qL26, qL31, qL33, qL40, qL43, qL45, qL48, qL49, qL57, qL58, qL59, qL60, qL61, qL65, qL90, qL97, qL98, qL99, qL118, qL119, qL126, qL240, qL261, qL501, qL999, qL1000, qL1002, qL2505, qL3006, qL999999, qL1000000, show g 0 = nI h from H.1, h2, h3, h7])
  rw [if_neg (Nat.not_lt_zero b), if_pos hin.1] at ht
  unfold f6_spotOf
  refine Eq.trans ht ?_
  rw [f6_spotOf_l4]
  simp (disch := omega) only [q_inb, q_isZ0, q_isZ1, q_leT, q_leF, q_ltT, q_ltF, q_eqT, q_eqF, nI_leI, nI_ltI, nI_eq, nI_add, pk_mul, q_sub, pk_sub, q_mod, pk_div, nI_clamp, q_not, q_m1, q_z1, q_n1lt, Nat.add_zero, Nat.zero_add, q_nT, q_nF, ↓reduceIte, bd0_s, bd1_s, bd2_s, bd3_s, bd4_s, bd5_s, bd6_s, bd7_s, bd8_s, bd9_s, lt_s_, qL0, qL1, qL2, qL3, qL4, qL5, qL6, qL7, qL8, qL9, qL10, qL11, qL12, qL13, qL14, qL15, qL16, qL17, qL21, qL25, qL26, qL31, qL33, qL40, qL43, qL45, qL48, qL49, qL57, qL58, qL59, qL60, qL61, qL65, qL90, qL97, qL98, qL99, qL118, qL119, qL126, qL240, qL261, qL501, qL999, qL1000, qL1002, qL2505, qL3006, qL999999, qL1000000, show g 0 = nI h from H.1]
theorem s6_spotOf_no {h : Nat} {F Z : NF} {g : Nat → Int32} (Hw : wB_ h F Z) (H : mB_ h F Z g) {x : Int32} (hno : x < 0 ∨ ∃ s, s < 2 ^ 31 ∧ x = nI s ∧ ∀ b, ¬ inB h F Z s b) : f6_spotOf g x = some (-1) := by
  have hh := Hw.1
  obtain ⟨t, ht⟩ := traj0 (fun i t => f6_spotOf_l4 g x t (-1) (nI i)) h (by omega) (fun i t h1 => by
    have h2 := s6_firstOf Hw H h1
    have h3 := s6_countOf Hw H h1
    have h4 := Hw.2.1 i h1
    have h7 : f6_in x (nI (F i)) (nI (F i + Z i - 1)) = some (nI 0) := by
      rcases hno with hx | ⟨s, hs, rfl, hno⟩
      · exact s6_in_neg hx (by omega) _
      · have h5 : ¬ (F i ≤ s ∧ s < F i + Z i) := fun q => hno i ⟨h1, q⟩
        exact s6_in_f (by omega) (by omega) (by omega) (by omega)
    rw [f6_spotOf_l4]
    simp (disch := omega) only [q_inb, q_isZ0, q_isZ1, q_leT, q_leF, q_ltT, q_ltF, q_eqT, q_eqF, nI_leI, nI_ltI, nI_eq, nI_add, pk_mul, q_sub, pk_sub, q_mod, pk_div, nI_clamp, q_not, q_m1, q_z1, q_n1lt, Nat.add_zero, Nat.zero_add, q_nT, q_nF, ↓reduceIte, bd0_s, bd1_s, bd2_s, bd3_s, bd4_s, bd5_s, bd6_s, bd7_s, bd8_s, bd9_s, lt_s_, qL0, qL1, qL2, qL3, qL4, qL5, qL6, qL7, qL8, qL9, qL10, qL11, qL12, qL13, qL14, qL15, qL16, qL17, qL21, qL25, qL26, qL31, qL33, qL40, qL43, qL45, qL48, qL49, qL57, qL58, qL59, qL60, qL61, qL65, qL90, qL97, qL98, qL99, qL118, qL119, qL126, qL240, qL261, qL501, qL999, qL1000, qL1002, qL2505, qL3006, qL999999, qL1000000, show g 0 = nI h from H.1, h2, h3, h7])
  unfold f6_spotOf
  refine Eq.trans ht ?_
  rw [f6_spotOf_l4]
  simp (disch := omega) only [q_inb, q_isZ0, q_isZ1, q_leT, q_leF, q_ltT, q_ltF, q_eqT, q_eqF, nI_leI, nI_ltI, nI_eq, nI_add, pk_mul, q_sub, pk_sub, q_mod, pk_div, nI_clamp, q_not, q_m1, q_z1, q_n1lt, Nat.add_zero, Nat.zero_add, q_nT, q_nF, ↓reduceIte, bd0_s, bd1_s, bd2_s, bd3_s, bd4_s, bd5_s, bd6_s, bd7_s, bd8_s, bd9_s, lt_s_, qL0, qL1, qL2, qL3, qL4, qL5, qL6, qL7, qL8, qL9, qL10, qL11, qL12, qL13, qL14, qL15, qL16, qL17, qL21, qL25, qL26, qL31, qL33, qL40, qL43, qL45, qL48, qL49, qL57, qL58, qL59, qL60, qL61, qL65, qL90, qL97, qL98, qL99, qL118, qL119, qL126, qL240, qL261, qL501, qL999, qL1000, qL1002, qL2505, qL3006, qL999999, qL1000000, show g 0 = nI h from H.1]
/-- a serial is in one book, or in none -/
theorem cell_case (h : Nat) (F Z : NF) (x : Int32) : (∃ s b, x = nI s ∧ inB h F Z s b) ∨ (x < 0 ∨ ∃ s, s < 2 ^ 31 ∧ x = nI s ∧ ∀ b, ¬ inB h F Z s b) := by
  rcases q_nn x with hx | ⟨s, hs, rfl⟩
  · exact Or.inr (Or.inl hx)
  · by_cases hb : ∃ b, inB h F Z s b
    · obtain ⟨b, hb⟩ := hb
      exact Or.inl ⟨s, b, rfl, hb⟩
    · exact Or.inr (Or.inr ⟨s, hs, rfl, fun b q => hb ⟨b, q⟩⟩)
/-- n serials from s on meet a book -/
def tkB (F Z : NF) (s n b : Nat) : Prop := s < F b + Z b ∧ F b < s + n
theorem s0_canTake_f {h : Nat} {F Z : NF} {bh : Int32} {bF bZ : Nat → Int32} (Hw : wB_ h F Z) (H : cB_ h F Z bh bF bZ) {s n : Nat} (hs : s < 1000000) (hn : n ≤ 40) (hno : h = 6 ∨ ∃ b, b < h ∧ tkB F Z s n b) : f0_canTake bh bF bZ (nI s) (nI n) = some (nI 0) := by
  obtain rfl := H.1
  have hh := Hw.1
  unfold f0_canTake
  by_cases h6 : h = 6
  · simp (disch := omega) only [q_inb, q_isZ0, q_isZ1, q_leT, q_leF, q_ltT, q_ltF, q_eqT, q_eqF, nI_leI, nI_ltI, nI_eq, nI_add, pk_mul, q_sub, pk_sub, q_mod, pk_div, nI_clamp, q_not, q_m1, q_z1, q_n1lt, Nat.add_zero, Nat.zero_add, q_nT, q_nF, ↓reduceIte, bd0_s, bd1_s, bd2_s, bd3_s, bd4_s, bd5_s, bd6_s, bd7_s, bd8_s, bd9_s, lt_s_, qL0, qL1, qL2, qL3, qL4, qL5, qL6, qL7, qL8, qL9, qL10, qL11, qL12, qL13, qL14, qL15, qL16, qL17, qL21, qL25, qL26, qL31, qL33, qL40, qL43, qL45, qL48, qL49, qL57, qL58, qL59, qL60, qL61, qL65, qL90, qL97, qL98, qL99, qL118, qL119, qL126, qL240, qL261, qL501, qL999, qL1000, qL1002, qL2505, qL3006, qL999999, qL1000000, h6]
  have h7 : ∃ b, b < h ∧ tkB F Z s n b := hno.resolve_left h6
  have dec : ∀ b, Decidable (tkB F Z s n b) := fun b => inferInstanceAs (Decidable (_ ∧ _))
  obtain ⟨b, h8, h9, h10⟩ := fb_first h7
  obtain ⟨t, ht⟩ := traj0 (fun i t => f0_canTake_l13 (nI h) bF bZ (nI s) (nI n) t (nI i)) b (by omega) (fun i t hi => by
    have h1 : i < h := Nat.lt_trans hi h8
    have h2 := s0_firstOf Hw H h1
    have h3 := s0_sizeOf Hw H h1
    have h4 := Hw.2.1 i h1
    have h5 : ¬ (s < F i + Z i ∧ F i < s + n) := h10 i hi
    rw [f0_canTake_l13]
    by_cases h6 : F i + Z i ≤ s
    · simp (disch := omega) only [q_inb, q_isZ0, q_isZ1, q_leT, q_leF, q_ltT, q_ltF, q_eqT, q_eqF, nI_leI, nI_ltI, nI_eq, nI_add, pk_mul, q_sub, pk_sub, q_mod, pk_div, nI_clamp, q_not, q_m1, q_z1, q_n1lt, Nat.add_zero, Nat.zero_add, q_nT, q_nF, ↓reduceIte, bd0_s, bd1_s, bd2_s, bd3_s, bd4_s, bd5_s, bd6_s, bd7_s, bd8_s, bd9_s, lt_s_, qL0, qL1, qL2, qL3, qL4, qL5, qL6, qL7, qL8, qL9, qL10, qL11, qL12, qL13, qL14, qL15, qL16, qL17, qL21, qL25, qL26, qL31, qL33, qL40, qL43, qL45, qL48, qL49, qL57, qL58, qL59, qL60, qL61, qL65, qL90, qL97, qL98, qL99, qL118, qL119, qL126, qL240, qL261, qL501, qL999, qL1000, qL1002, qL2505, qL3006, qL999999, qL1000000, h2, h3]
    · simp (disch := omega) only [q_inb, q_isZ0, q_isZ1, q_leT, q_leF, q_ltT, q_ltF, q_eqT, q_eqF, nI_leI, nI_ltI, nI_eq, nI_add, pk_mul, q_sub, pk_sub, q_mod, pk_div, nI_clamp, q_not, q_m1, q_z1, q_n1lt, Nat.add_zero, Nat.zero_add, q_nT, q_nF, ↓reduceIte, bd0_s, bd1_s, bd2_s, bd3_s, bd4_s, bd5_s, bd6_s, bd7_s, bd8_s, bd9_s, lt_s_, qL0, qL1, qL2, qL3, qL4, qL5, qL6, qL7, qL8, qL9, qL10, qL11, qL12, qL13, qL14, qL15, qL16, qL17, qL21, qL25, qL26, qL31, qL33, qL40, qL43, qL45, qL48, qL49, qL57, qL58, qL59, qL60, qL61, qL65, qL90, qL97, qL98, qL99, qL118, qL119, qL126, qL240, qL261, qL501, qL999, qL1000, qL1002, qL2505, qL3006, qL999999, qL1000000, h2, h3])
  have h2 := s0_firstOf Hw H h8
  have h3 := s0_sizeOf Hw H h8
  have h4 := Hw.2.1 b h8
  unfold tkB at h9
  rw [if_pos (by rw [qL6, nI_ltI (by omega) (by decide)]; omega)]
  refine Eq.trans ht ?_
  rw [f0_canTake_l13]
  simp (disch := omega) only [q_inb, q_isZ0, q_isZ1, q_leT, q_leF, q_ltT, q_ltF, q_eqT, q_eqF, nI_leI, nI_ltI, nI_eq, nI_add, pk_mul, q_sub, pk_sub, q_mod, pk_div, nI_clamp, q_not, q_m1, q_z1, q_n1lt, Nat.add_zero, Nat.zero_add, q_nT, q_nF, ↓reduceIte, bd0_s, bd1_s, bd2_s, bd3_s, bd4_s, bd5_s, bd6_s, bd7_s, bd8_s, bd9_s, lt_s_, qL0, qL1, qL2, qL3, qL4, qL5, qL6, qL7, qL8, qL9, qL10, qL11, qL12, qL13, qL14, qL15, qL16, qL17, qL21, qL25, qL26, qL31, qL33, qL40, qL43, qL45, qL48, qL49, qL57, qL58, qL59, qL60, qL61, qL65, qL90, qL97, qL98, qL99, qL118, qL119, qL126, qL240, qL261, qL501, qL999, qL1000, qL1002, qL2505, qL3006, qL999999, qL1000000, h2, h3]
theorem s0_canTake_t {h : Nat} {F Z : NF} {bh : Int32} {bF bZ : Nat → Int32} (Hw : wB_ h F Z) (H : cB_ h F Z bh bF bZ) {s n : Nat} (hs : s < 1000000) (hn : n ≤ 40) (h6 : h < 6) (hno : ∀ b, b < h → ¬ tkB F Z s n b) : f0_canTake bh bF bZ (nI s) (nI n) = some (nI 1) := by
  obtain rfl := H.1
  unfold f0_canTake
  obtain ⟨t, ht⟩ := traj0 (fun i t => f0_canTake_l13 (nI h) bF bZ (nI s) (nI n) t (nI i)) h (by omega) (fun i t h1 => by
    have h2 := s0_firstOf Hw H h1
    have h3 := s0_sizeOf Hw H h1
    have h4 := Hw.2.1 i h1
    have h5 : ¬ (s < F i + Z i ∧ F i < s + n) := hno i h1
    rw [f0_canTake_l13]
    by_cases h6 : F i + Z i ≤ s
    · simp (disch := omega) only [q_inb, q_isZ0, q_isZ1, q_leT, q_leF, q_ltT, q_ltF, q_eqT, q_eqF, nI_leI, nI_ltI, nI_eq, nI_add, pk_mul, q_sub, pk_sub, q_mod, pk_div, nI_clamp, q_not, q_m1, q_z1, q_n1lt, Nat.add_zero, Nat.zero_add, q_nT, q_nF, ↓reduceIte, bd0_s, bd1_s, bd2_s, bd3_s, bd4_s, bd5_s, bd6_s, bd7_s, bd8_s, bd9_s, lt_s_, qL0, qL1, qL2, qL3, qL4, qL5, qL6, qL7, qL8, qL9, qL10, qL11, qL12, qL13, qL14, qL15, qL16, qL17, qL21, qL25, qL26, qL31, qL33, qL40, qL43, qL45, qL48, qL49, qL57, qL58, qL59, qL60, qL61, qL65, qL90, qL97, qL98, qL99, qL118, qL119, qL126, qL240, qL261, qL501, qL999, qL1000, qL1002, qL2505, qL3006, qL999999, qL1000000, h2, h3]
    · simp (disch := omega) only [q_inb, q_isZ0, q_isZ1, q_leT, q_leF, q_ltT, q_ltF, q_eqT, q_eqF, nI_leI, nI_ltI, nI_eq, nI_add, pk_mul, q_sub, pk_sub, q_mod, pk_div, nI_clamp, q_not, q_m1, q_z1, q_n1lt, Nat.add_zero, Nat.zero_add, q_nT, q_nF, ↓reduceIte, bd0_s, bd1_s, bd2_s, bd3_s, bd4_s, bd5_s, bd6_s, bd7_s, bd8_s, bd9_s, lt_s_, qL0, qL1, qL2, qL3, qL4, qL5, qL6, qL7, qL8, qL9, qL10, qL11, qL12, qL13, qL14, qL15, qL16, qL17, qL21, qL25, qL26, qL31, qL33, qL40, qL43, qL45, qL48, qL49, qL57, qL58, qL59, qL60, qL61, qL65, qL90, qL97, qL98, qL99, qL118, qL119, qL126, qL240, qL261, qL501, qL999, qL1000, qL1002, qL2505, qL3006, qL999999, qL1000000, h2, h3])
  rw [if_pos (by rw [qL6, nI_ltI (by omega) (by decide)]; omega)]
  refine Eq.trans ht ?_
  rw [f0_canTake_l13]
  simp (disch := omega) only [q_inb, q_isZ0, q_isZ1, q_leT, q_leF, q_ltT, q_ltF, q_eqT, q_eqF, nI_leI, nI_ltI, nI_eq, nI_add, pk_mul, q_sub, pk_sub, q_mod, pk_div, nI_clamp, q_not, q_m1, q_z1, q_n1lt, Nat.add_zero, Nat.zero_add, q_nT, q_nF, ↓reduceIte, bd0_s, bd1_s, bd2_s, bd3_s, bd4_s, bd5_s, bd6_s, bd7_s, bd8_s, bd9_s, lt_s_, qL0, qL1, qL2, qL3, qL4, qL5, qL6, qL7, qL8, qL9, qL10, qL11, qL12, qL13, qL14, qL15, qL16, qL17, qL21, qL25, qL26, qL31, qL33, qL40, qL43, qL45, qL48, qL49, qL57, qL58, qL59, qL60, qL61, qL65, qL90, qL97, qL98, qL99, qL118, qL119, qL126, qL240, qL261, qL501, qL999, qL1000, qL1002, qL2505, qL3006, qL999999, qL1000000]
theorem s6_isTaken_f {h : Nat} {F Z : NF} {g : Nat → Int32} (Hw : wB_ h F Z) (H : mB_ h F Z g) {s n : Nat} (hs : s < 1000000) (hn : n ≤ 40) (hno : ∀ b, b < h → ¬ tkB F Z s n b) : f6_isTaken g (nI s) (nI n) = some (nI 0) := by
  have hh := Hw.1
  obtain ⟨t, ht⟩ := traj0 (fun i t => f6_isTaken_l5 g (nI s) (nI n) t (nI 0) (nI i)) h (by omega) (fun i t h1 => by
    have h2 := s6_firstOf Hw H h1
    have h3 := s6_countOf Hw H h1
    have h4 := Hw.2.1 i h1
    have h5 : ¬ (s < F i + Z i ∧ F i < s + n) := hno i h1
    rw [f6_isTaken_l5]
    by_cases h6 : F i + Z i ≤ s
    · simp (disch := omega) only [q_inb, q_isZ0, q_isZ1, q_leT, q_leF, q_ltT, q_ltF, q_eqT, q_eqF, nI_leI, nI_ltI, nI_eq, nI_add, pk_mul, q_sub, pk_sub, q_mod, pk_div, nI_clamp, q_not, q_m1, q_z1, q_n1lt, Nat.add_zero, Nat.zero_add, q_nT, q_nF, ↓reduceIte, bd0_s, bd1_s, bd2_s, bd3_s, bd4_s, bd5_s, bd6_s, bd7_s, bd8_s, bd9_s, lt_s_, qL0, qL1, qL2, qL3, qL4, qL5, qL6, qL7, qL8, qL9, qL10, qL11, qL12, qL13, qL14, qL15, qL16, qL17, qL21, qL25, qL26, qL31, qL33, qL40, qL43, qL45, qL48, qL49, qL57, qL58, qL59, qL60, qL61, qL65, qL90, qL97, qL98, qL99, qL118, qL119, qL126, qL240, qL261, qL501, qL999, qL1000, qL1002, qL2505, qL3006, qL999999, qL1000000, show g 0 = nI h from H.1, h2, h3, f6_isTaken_j53]
    · simp (disch := omega) only [q_inb, q_isZ0, q_isZ1, q_leT, q_leF, q_ltT, q_ltF, q_eqT, q_eqF, nI_leI, nI_ltI, nI_eq, nI_add, pk_mul, q_sub, pk_sub, q_mod, pk_div, nI_clamp, q_not, q_m1, q_z1, q_n1lt, Nat.add_zero, Nat.zero_add, q_nT, q_nF, ↓reduceIte, bd0_s, bd1_s, bd2_s, bd3_s, bd4_s, bd5_s, bd6_s, bd7_s, bd8_s, bd9_s, lt_s_, qL0, qL1, qL2, qL3, qL4, qL5, qL6, qL7, qL8, qL9, qL10, qL11, qL12, qL13, qL14, qL15, qL16, qL17, qL21, qL25, qL26, qL31, qL33, qL40, qL43, qL45, qL48, qL49, qL57, qL58, qL59, qL60, qL61, qL65, qL90, qL97, qL98, qL99, qL118, qL119, qL126, qL240, qL261, qL501, qL999, qL1000, qL1002, qL2505, qL3006, qL999999, qL1000000, show g 0 = nI h from H.1, h2, h3, f6_isTaken_j53])
  unfold f6_isTaken
  refine Eq.trans ht ?_
  rw [f6_isTaken_l5]
  simp (disch := omega) only [q_inb, q_isZ0, q_isZ1, q_leT, q_leF, q_ltT, q_ltF, q_eqT, q_eqF, nI_leI, nI_ltI, nI_eq, nI_add, pk_mul, q_sub, pk_sub, q_mod, pk_div, nI_clamp, q_not, q_m1, q_z1, q_n1lt, Nat.add_zero, Nat.zero_add, q_nT, q_nF, ↓reduceIte, bd0_s, bd1_s, bd2_s, bd3_s, bd4_s, bd5_s, bd6_s, bd7_s, bd8_s, bd9_s, lt_s_, qL0, qL1, qL2, qL3, qL4, qL5, qL6, qL7, qL8, qL9, qL10, qL11, qL12, qL13, qL14, qL15, qL16, qL17, qL21, qL25, qL26, qL31, qL33, qL40, qL43, qL45, qL48, qL49, qL57, qL58, qL59, qL60, qL61, qL65, qL90, qL97, qL98, qL99, qL118, qL119, qL126, qL240, qL261, qL501, qL999, qL1000, qL1002, qL2505, qL3006, qL999999, qL1000000, show g 0 = nI h from H.1]
theorem s6_isTaken_t {h : Nat} {F Z : NF} {g : Nat → Int32} (Hw : wB_ h F Z) (H : mB_ h F Z g) {s n : Nat} (hs : s < 1000000) (hn : n ≤ 40) (hno : ∃ b, b < h ∧ tkB F Z s n b) : f6_isTaken g (nI s) (nI n) = some (nI 1) := by
  have hh := Hw.1
  have dec : ∀ b, Decidable (tkB F Z s n b) := fun b => inferInstanceAs (Decidable (_ ∧ _))
  obtain ⟨b, h8, h9, h10⟩ := fb_first hno
  obtain ⟨t, ht⟩ := traj0 (fun i t => f6_isTaken_l5 g (nI s) (nI n) t (nI (if b < i then 1 else 0)) (nI i)) h (by omega) (fun i t h1 => by
    have h2 := s6_firstOf Hw H h1
    have h3 := s6_countOf Hw H h1
    have h4 := Hw.2.1 i h1
    rw [f6_isTaken_l5]
    by_cases hbi : b < i
    · rw [if_pos hbi, if_pos (show b < i + 1 by omega)]
      simp (disch := omega) only [q_inb, q_isZ0, q_isZ1, q_leT, q_leF, q_ltT, q_ltF, q_eqT, q_eqF, nI_leI, nI_ltI, nI_eq, nI_add, pk_mul, q_sub, pk_sub, q_mod, pk_div, nI_clamp, q_not, q_m1, q_z1, q_n1lt, Nat.add_zero, Nat.zero_add, q_nT, q_nF, ↓reduceIte, bd0_s, bd1_s, bd2_s, bd3_s, bd4_s, bd5_s, bd6_s, bd7_s, bd8_s, bd9_s, lt_s_, qL0, qL1, qL2, qL3, qL4, qL5, qL6, qL7, qL8, qL9, qL10, qL11, qL12, qL13, qL14, qL15, qL16, qL17, qL21, qL25, qL26, qL31, qL33, qL40, qL43, qL45, qL48, qL49, qL57, qL58, qL59, qL60, qL61, qL65, qL90, qL97, qL98, qL99, qL118, qL119, qL126, qL240, qL261, qL501, qL999, qL1000, qL1002, qL2505, qL3006, qL999999, qL1000000, show g 0 = nI h from H.1, h2, h3, f6_isTaken_j49, f6_isTaken_j53]
    · rw [if_neg hbi]
      by_cases hib : i = b
      · subst hib
        unfold tkB at h9
        rw [if_pos (Nat.lt_succ_self i)]
        simp (disch := omega) only [q_inb, q_isZ0, q_isZ1, q_leT, q_leF, q_ltT, q_ltF, q_eqT, q_eqF, nI_leI, nI_ltI, nI_eq, nI_add, pk_mul, q_sub, pk_sub, q_mod, pk_div, nI_clamp, q_not, q_m1, q_z1, q_n1lt, Nat.add_zero, Nat.zero_add, q_nT, q_nF, ↓reduceIte, bd0_s, bd1_s, bd2_s, bd3_s, bd4_s, bd5_s, bd6_s, bd7_s, bd8_s, bd9_s, lt_s_, qL0, qL1, qL2, qL3, qL4, qL5, qL6, qL7, qL8, qL9, qL10, qL11, qL12, qL13, qL14, qL15, qL16, qL17, qL21, qL25, qL26, qL31, qL33, qL40, qL43, qL45, qL48, qL49, qL57, qL58, qL59, qL60, qL61, qL65, qL90, qL97, qL98, qL99, qL118, qL119, qL126, qL240, qL261, qL501, qL999, qL1000, qL1002, qL2505, qL3006, qL999999, qL1000000, show g 0 = nI h from H.1, h2, h3, f6_isTaken_j49, f6_isTaken_j53]
      · have h5 : ¬ (s < F i + Z i ∧ F i < s + n) := h10 i (by omega)
        rw [if_neg (show ¬ b < i + 1 by omega)]
        by_cases h6 : F i + Z i ≤ s
        · simp (disch := omega) only [q_inb, q_isZ0, q_isZ1, q_leT, q_leF, q_ltT, q_ltF, q_eqT, q_eqF, nI_leI, nI_ltI, nI_eq, nI_add, pk_mul, q_sub, pk_sub, q_mod, pk_div, nI_clamp, q_not, q_m1, q_z1, q_n1lt, Nat.add_zero, Nat.zero_add, q_nT, q_nF, ↓reduceIte, bd0_s, bd1_s, bd2_s, bd3_s, bd4_s, bd5_s, bd6_s, bd7_s, bd8_s, bd9_s, lt_s_, qL0, qL1, qL2, qL3, qL4, qL5, qL6, qL7, qL8, qL9, qL10, qL11, qL12, qL13, qL14, qL15, qL16, qL17, qL21, qL25, qL26, qL31, qL33, qL40, qL43, qL45, qL48, qL49, qL57, qL58, qL59, qL60, qL61, qL65, qL90, qL97, qL98, qL99, qL118, qL119, qL126, qL240, qL261, qL501, qL999, qL1000, qL1002, qL2505, qL3006, qL999999, qL1000000, show g 0 = nI h from H.1, h2, h3, f6_isTaken_j49, f6_isTaken_j53]
        · simp (disch := omega) only [q_inb, q_isZ0, q_isZ1, q_leT, q_leF, q_ltT, q_ltF, q_eqT, q_eqF, nI_leI, nI_ltI, nI_eq, nI_add, pk_mul, q_sub, pk_sub, q_mod, pk_div, nI_clamp, q_not, q_m1, q_z1, q_n1lt, Nat.add_zero, Nat.zero_add, q_nT, q_nF, ↓reduceIte, bd0_s, bd1_s, bd2_s, bd3_s, bd4_s, bd5_s, bd6_s, bd7_s, bd8_s, bd9_s, lt_s_, qL0, qL1, qL2, qL3, qL4, qL5, qL6, qL7, qL8, qL9, qL10, qL11, qL12, qL13, qL14, qL15, qL16, qL17, qL21, qL25, qL26, qL31, qL33, qL40, qL43, qL45, qL48, qL49, qL57, qL58, qL59, qL60, qL61, qL65, qL90, qL97, qL98, qL99, qL118, qL119, qL126, qL240, qL261, qL501, qL999, qL1000, qL1002, qL2505, qL3006, qL999999, qL1000000, show g 0 = nI h from H.1, h2, h3, f6_isTaken_j49, f6_isTaken_j53])
  rw [if_neg (Nat.not_lt_zero b), if_pos h8] at ht
  unfold f6_isTaken
  refine Eq.trans ht ?_
  rw [f6_isTaken_l5]
  simp (disch := omega) only [q_inb, q_isZ0, q_isZ1, q_leT, q_leF, q_ltT, q_ltF, q_eqT, q_eqF, nI_leI, nI_ltI, nI_eq, nI_add, pk_mul, q_sub, pk_sub, q_mod, pk_div, nI_clamp, q_not, q_m1, q_z1, q_n1lt, Nat.add_zero, Nat.zero_add, q_nT, q_nF, ↓reduceIte, bd0_s, bd1_s, bd2_s, bd3_s, bd4_s, bd5_s, bd6_s, bd7_s, bd8_s, bd9_s, lt_s_, qL0, qL1, qL2, qL3, qL4, qL5, qL6, qL7, qL8, qL9, qL10, qL11, qL12, qL13, qL14, qL15, qL16, qL17, qL21, qL25, qL26, qL31, qL33, qL40, qL43, qL45, qL48, qL49, qL57, qL58, qL59, qL60, qL61, qL65, qL90, qL97, qL98, qL99, qL118, qL119, qL126, qL240, qL261, qL501, qL999, qL1000, qL1002, qL2505, qL3006, qL999999, qL1000000, show g 0 = nI h from H.1]
/-- a new book can come, or not: told alike -/
theorem can_case {h : Nat} {F Z : NF} {bh : Int32} {bF bZ g : Nat → Int32} (Hw : wB_ h F Z) (H : cB_ h F Z bh bF bZ) (G : mB_ h F Z g) {s n : Nat} (hs : s < 1000000) (hn : n ≤ 40) :
    (f0_canTake bh bF bZ (nI s) (nI n) = some (nI 0) ∧ f6_canBook g (nI s) (nI n) = some (nI 0)) ∨ (h < 6 ∧ (∀ b, b < h → ¬ tkB F Z s n b) ∧ f0_canTake bh bF bZ (nI s) (nI n) = some (nI 1) ∧ f6_canBook g (nI s) (nI n) = some (nI 1)) := by
  have hh := Hw.1
  by_cases h6 : h = 6
  · refine Or.inl ⟨s0_canTake_f Hw H hs hn (Or.inl h6), ?_⟩
    simp (disch := omega) only [q_inb, q_isZ0, q_isZ1, q_leT, q_leF, q_ltT, q_ltF, q_eqT, q_eqF, nI_leI, nI_ltI, nI_eq, nI_add, pk_mul, q_sub, pk_sub, q_mod, pk_div, nI_clamp, q_not, q_m1, q_z1, q_n1lt, Nat.add_zero, Nat.zero_add, q_nT, q_nF, ↓reduceIte, bd0_s, bd1_s, bd2_s, bd3_s, bd4_s, bd5_s, bd6_s, bd7_s, bd8_s, bd9_s, lt_s_, qL0, qL1, qL2, qL3, qL4, qL5, qL6, qL7, qL8, qL9, qL10, qL11, qL12, qL13, qL14, qL15, qL16, qL17, qL21, qL25, qL26, qL31, qL33, qL40, qL43, qL45, qL48, qL49, qL57, qL58, qL59, qL60, qL61, qL65, qL90, qL97, qL98, qL99, qL118, qL119, qL126, qL240, qL261, qL501, qL999, qL1000, qL1002, qL2505, qL3006, qL999999, qL1000000, f6_canBook, show g 0 = nI h from G.1]
  · by_cases h7 : ∃ b, b < h ∧ tkB F Z s n b
    · refine Or.inl ⟨s0_canTake_f Hw H hs hn (Or.inr h7), ?_⟩
      have h8 := s6_isTaken_t Hw G hs hn h7
      simp (disch := omega) only [q_inb, q_isZ0, q_isZ1, q_leT, q_leF, q_ltT, q_ltF, q_eqT, q_eqF, nI_leI, nI_ltI, nI_eq, nI_add, pk_mul, q_sub, pk_sub, q_mod, pk_div, nI_clamp, q_not, q_m1, q_z1, q_n1lt, Nat.add_zero, Nat.zero_add, q_nT, q_nF, ↓reduceIte, bd0_s, bd1_s, bd2_s, bd3_s, bd4_s, bd5_s, bd6_s, bd7_s, bd8_s, bd9_s, lt_s_, qL0, qL1, qL2, qL3, qL4, qL5, qL6, qL7, qL8, qL9, qL10, qL11, qL12, qL13, qL14, qL15, qL16, qL17, qL21, qL25, qL26, qL31, qL33, qL40, qL43, qL45, qL48, qL49, qL57, qL58, qL59, qL60, qL61, qL65, qL90, qL97, qL98, qL99, qL118, qL119, qL126, qL240, qL261, qL501, qL999, qL1000, qL1002, qL2505, qL3006, qL999999, qL1000000, f6_canBook, show g 0 = nI h from G.1, h8]
    · have h9 : ∀ b, b < h → ¬ tkB F Z s n b := fun b hb q => h7 ⟨b, hb, q⟩
      refine Or.inr ⟨by omega, h9, s0_canTake_t Hw H hs hn (by omega) h9, ?_⟩
      have h8 := s6_isTaken_f Hw G hs hn h9
      simp (disch := omega) only [q_inb, q_isZ0, q_isZ1, q_leT, q_leF, q_ltT, q_ltF, q_eqT, q_eqF, nI_leI, nI_ltI, nI_eq, nI_add, pk_mul, q_sub, pk_sub, q_mod, pk_div, nI_clamp, q_not, q_m1, q_z1, q_n1lt, Nat.add_zero, Nat.zero_add, q_nT, q_nF, ↓reduceIte, bd0_s, bd1_s, bd2_s, bd3_s, bd4_s, bd5_s, bd6_s, bd7_s, bd8_s, bd9_s, lt_s_, qL0, qL1, qL2, qL3, qL4, qL5, qL6, qL7, qL8, qL9, qL10, qL11, qL12, qL13, qL14, qL15, qL16, qL17, qL21, qL25, qL26, qL31, qL33, qL40, qL43, qL45, qL48, qL49, qL57, qL58, qL59, qL60, qL61, qL65, qL90, qL97, qL98, qL99, qL118, qL119, qL126, qL240, qL261, qL501, qL999, qL1000, qL1002, qL2505, qL3006, qL999999, qL1000000, f6_canBook, show g 0 = nI h from G.1, h8]
