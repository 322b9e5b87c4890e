
/-! ===== pure rows: what is looked at first, twice ===== -/
def inR (lo hi : Nat) (x : Int32) : Prop := ∃ n, lo ≤ n ∧ n ≤ hi ∧ x = nI n
def outR (lo hi : Nat) (x : Int32) : Prop := x < 0 ∨ ∃ n, (n < lo ∨ hi < n) ∧ n < 2 ^ 31 ∧ x = nI n
theorem rng_case (lo hi : Nat) (x : Int32) : inR lo hi x ∨ outR lo hi x := by
  rcases q_nn x with h | ⟨n, h1, rfl⟩
  · exact Or.inr (Or.inl h)
  · by_cases q : lo ≤ n ∧ n ≤ hi
    · exact Or.inl ⟨n, q.1, q.2, rfl⟩
    · exact Or.inr (Or.inr ⟨n, by omega, h1, rfl⟩)
theorem q_negle {x : Int32} (h : x < 0) {n : Nat} (hn : n < 2 ^ 31) : x ≤ nI n := by
  have h1 := q_neg h hn
  rw [Int32.lt_iff_toInt_lt] at h1
  rw [Int32.le_iff_toInt_le]
  omega
theorem q_negn {x : Int32} (h : x < 0) {n : Nat} (hn : n < 2 ^ 31) : ¬ nI n ≤ x := by
  have h1 := q_neg h hn
  rw [Int32.lt_iff_toInt_lt] at h1
  rw [Int32.le_iff_toInt_le]
  omega
theorem q_negl {x : Int32} (h : x < 0) {n : Nat} (hn : n < 2 ^ 31) : ¬ nI n < x := by
  have h1 := q_neg h hn
  rw [Int32.lt_iff_toInt_lt] at h1 ⊢
  omega
theorem q_nege {x : Int32} (h : x < 0) {n : Nat} (hn : n < 2 ^ 31) : ¬ x = nI n := by
  have h1 := q_neg h hn
  rintro rfl
  rw [Int32.lt_iff_toInt_lt] at h1
  omega
theorem s6_in_out {lo hi : Nat} {x : Int32} (hlo : lo < 2 ^ 31) (hhi : hi < 2 ^ 31) (h : outR lo hi x) : f6_in x (nI lo) (nI hi) = some (nI 0) := by
  rcases h with h | ⟨n, h1, h2, rfl⟩
  · exact s6_in_neg h hlo _
  · exact s6_in_f h2 hlo hhi (by omega)
theorem s6_in_in {lo hi : Nat} {n : Nat} (hhi : hi < 2 ^ 31) (h1 : lo ≤ n) (h2 : n ≤ hi) : f6_in (nI n) (nI lo) (nI hi) = some (nI 1) := s6_in_t (by omega) hhi ⟨h1, h2⟩
theorem tp_in {n : Nat} (h : n ≤ 5) : f5_throwIfNoPosition (nI n) = some 0 := by simp (disch := omega) only [q_inb, q_isZ0, q_isZ1, q_leT, q_leF, q_ltT, q_ltF, q_eqT, q_eqF, nI_leI, nI_ltI, nI_eq, nI_add, pk_mul, q_sub, pk_sub, q_mod, pk_div, nI_clamp, q_not, q_m1, q_z1, q_n1lt, Nat.add_zero, Nat.zero_add, q_nT, q_nF, ↓reduceIte, bd0_s, bd1_s, bd2_s, bd3_s, bd4_s, bd5_s, bd6_s, bd7_s, bd8_s, bd9_s, lt_s_, qL0, qL1, qL2, qL3, qL4, qL5, qL6, qL7, qL8, qL9, qL10, qL11, qL12, qL13, qL14, qL15, qL16, qL17, qL21, qL25, qL26, qL31, qL33, qL40, qL43, qL45, qL48, qL49, qL57, qL58, qL59, qL60, qL61, qL65, qL90, qL97, qL98, qL99, qL118, qL119, qL126, qL240, qL261, qL501, qL999, qL1000, qL1002, qL2505, qL3006, qL999999, qL1000000, f5_throwIfNoPosition]
theorem tp_out {x : Int32} (h : outR 0 5 x) : f5_throwIfNoPosition x = some 1 := by
  rcases h with h | ⟨n, h1, h2, rfl⟩
  · unfold f5_throwIfNoPosition
    rw [if_pos h]
  · simp (disch := omega) only [q_inb, q_isZ0, q_isZ1, q_leT, q_leF, q_ltT, q_ltF, q_eqT, q_eqF, nI_leI, nI_ltI, nI_eq, nI_add, pk_mul, q_sub, pk_sub, q_mod, pk_div, nI_clamp, q_not, q_m1, q_z1, q_n1lt, Nat.add_zero, Nat.zero_add, q_nT, q_nF, ↓reduceIte, bd0_s, bd1_s, bd2_s, bd3_s, bd4_s, bd5_s, bd6_s, bd7_s, bd8_s, bd9_s, lt_s_, qL0, qL1, qL2, qL3, qL4, qL5, qL6, qL7, qL8, qL9, qL10, qL11, qL12, qL13, qL14, qL15, qL16, qL17, qL21, qL25, qL26, qL31, qL33, qL40, qL43, qL45, qL48, qL49, qL57, qL58, qL59, qL60, qL61, qL65, qL90, qL97, qL98, qL99, qL118, qL119, qL126, qL240, qL261, qL501, qL999, qL1000, qL1002, qL2505, qL3006, qL999999, qL1000000, f5_throwIfNoPosition]
theorem ts_in {n : Nat} (h : n ≤ 999999) : f5_throwIfNoSerial (nI n) = some 0 := by
  have h1 := s5_isSerial_t (show n < 1000000 by omega)
  simp (disch := omega) only [q_inb, q_isZ0, q_isZ1, q_leT, q_leF, q_ltT, q_ltF, q_eqT, q_eqF, nI_leI, nI_ltI, nI_eq, nI_add, pk_mul, q_sub, pk_sub, q_mod, pk_div, nI_clamp, q_not, q_m1, q_z1, q_n1lt, Nat.add_zero, Nat.zero_add, q_nT, q_nF, ↓reduceIte, bd0_s, bd1_s, bd2_s, bd3_s, bd4_s, bd5_s, bd6_s, bd7_s, bd8_s, bd9_s, lt_s_, qL0, qL1, qL2, qL3, qL4, qL5, qL6, qL7, qL8, qL9, qL10, qL11, qL12, qL13, qL14, qL15, qL16, qL17, qL21, qL25, qL26, qL31, qL33, qL40, qL43, qL45, qL48, qL49, qL57, qL58, qL59, qL60, qL61, qL65, qL90, qL97, qL98, qL99, qL118, qL119, qL126, qL240, qL261, qL501, qL999, qL1000, qL1002, qL2505, qL3006, qL999999, qL1000000, f5_throwIfNoSerial, h1]
theorem out_ser {x : Int32} (h : outR 0 999999 x) : x < 0 ∨ ∃ s, 1000000 ≤ s ∧ s < 2 ^ 31 ∧ x = nI s := by
  rcases h with h | ⟨n, h1, h2, h3⟩
  · exact Or.inl h
  · exact Or.inr ⟨n, by omega, h2, h3⟩
theorem ts_out {x : Int32} (h : outR 0 999999 x) : f5_throwIfNoSerial x = some 1 := by
  have h1 := s5_isSerial_f (out_ser h)
  simp (disch := omega) only [q_inb, q_isZ0, q_isZ1, q_leT, q_leF, q_ltT, q_ltF, q_eqT, q_eqF, nI_leI, nI_ltI, nI_eq, nI_add, pk_mul, q_sub, pk_sub, q_mod, pk_div, nI_clamp, q_not, q_m1, q_z1, q_n1lt, Nat.add_zero, Nat.zero_add, q_nT, q_nF, ↓reduceIte, bd0_s, bd1_s, bd2_s, bd3_s, bd4_s, bd5_s, bd6_s, bd7_s, bd8_s, bd9_s, lt_s_, qL0, qL1, qL2, qL3, qL4, qL5, qL6, qL7, qL8, qL9, qL10, qL11, qL12, qL13, qL14, qL15, qL16, qL17, qL21, qL25, qL26, qL31, qL33, qL40, qL43, qL45, qL48, qL49, qL57, qL58, qL59, qL60, qL61, qL65, qL90, qL97, qL98, qL99, qL118, qL119, qL126, qL240, qL261, qL501, qL999, qL1000, qL1002, qL2505, qL3006, qL999999, qL1000000, f5_throwIfNoSerial, h1]
theorem tl_in {n : Nat} (h : n ≤ 25) : f5_throwIfNoLetter (nI n) = some 0 := by simp (disch := omega) only [q_inb, q_isZ0, q_isZ1, q_leT, q_leF, q_ltT, q_ltF, q_eqT, q_eqF, nI_leI, nI_ltI, nI_eq, nI_add, pk_mul, q_sub, pk_sub, q_mod, pk_div, nI_clamp, q_not, q_m1, q_z1, q_n1lt, Nat.add_zero, Nat.zero_add, q_nT, q_nF, ↓reduceIte, bd0_s, bd1_s, bd2_s, bd3_s, bd4_s, bd5_s, bd6_s, bd7_s, bd8_s, bd9_s, lt_s_, qL0, qL1, qL2, qL3, qL4, qL5, qL6, qL7, qL8, qL9, qL10, qL11, qL12, qL13, qL14, qL15, qL16, qL17, qL21, qL25, qL26, qL31, qL33, qL40, qL43, qL45, qL48, qL49, qL57, qL58, qL59, qL60, qL61, qL65, qL90, qL97, qL98, qL99, qL118, qL119, qL126, qL240, qL261, qL501, qL999, qL1000, qL1002, qL2505, qL3006, qL999999, qL1000000, f5_throwIfNoLetter]
theorem tl_out {x : Int32} (h : outR 0 25 x) : f5_throwIfNoLetter x = some 2 := by
  rcases h with h | ⟨n, h1, h2, rfl⟩
  · unfold f5_throwIfNoLetter
    rw [if_pos h]
  · simp (disch := omega) only [q_inb, q_isZ0, q_isZ1, q_leT, q_leF, q_ltT, q_ltF, q_eqT, q_eqF, nI_leI, nI_ltI, nI_eq, nI_add, pk_mul, q_sub, pk_sub, q_mod, pk_div, nI_clamp, q_not, q_m1, q_z1, q_n1lt, Nat.add_zero, Nat.zero_add, q_nT, q_nF, ↓reduceIte, bd0_s, bd1_s, bd2_s, bd3_s, bd4_s, bd5_s, bd6_s, bd7_s, bd8_s, bd9_s, lt_s_, qL0, qL1, qL2, qL3, qL4, qL5, qL6, qL7, qL8, qL9, qL10, qL11, qL12, qL13, qL14, qL15, qL16, qL17, qL21, qL25, qL26, qL31, qL33, qL40, qL43, qL45, qL48, qL49, qL57, qL58, qL59, qL60, qL61, qL65, qL90, qL97, qL98, qL99, qL118, qL119, qL126, qL240, qL261, qL501, qL999, qL1000, qL1002, qL2505, qL3006, qL999999, qL1000000, f5_throwIfNoLetter]
theorem s6_letter_in {n : Nat} (h : n ≤ 25) : f6_isLetter (nI n) = some (nI 1) := by
  have h1 := s6_in_in (lo := 0) (hi := 25) (by decide) (Nat.zero_le n) h
  simp (disch := omega) only [q_inb, q_isZ0, q_isZ1, q_leT, q_leF, q_ltT, q_ltF, q_eqT, q_eqF, nI_leI, nI_ltI, nI_eq, nI_add, pk_mul, q_sub, pk_sub, q_mod, pk_div, nI_clamp, q_not, q_m1, q_z1, q_n1lt, Nat.add_zero, Nat.zero_add, q_nT, q_nF, ↓reduceIte, bd0_s, bd1_s, bd2_s, bd3_s, bd4_s, bd5_s, bd6_s, bd7_s, bd8_s, bd9_s, lt_s_, qL0, qL1, qL2, qL3, qL4, qL5, qL6, qL7, qL8, qL9, qL10, qL11, qL12, qL13, qL14, qL15, qL16, qL17, qL21, qL25, qL26, qL31, qL33, qL40, qL43, qL45, qL48, qL49, qL57, qL58, qL59, qL60, qL61, qL65, qL90, qL97, qL98, qL99, qL118, qL119, qL126, qL240, qL261, qL501, qL999, qL1000, qL1002, qL2505, qL3006, qL999999, qL1000000, f6_isLetter, h1]
theorem s6_letter_out {x : Int32} (h : outR 0 25 x) : f6_isLetter x = some (nI 0) := by
  have h1 := s6_in_out (by decide) (by decide) h
  simp (disch := omega) only [q_inb, q_isZ0, q_isZ1, q_leT, q_leF, q_ltT, q_ltF, q_eqT, q_eqF, nI_leI, nI_ltI, nI_eq, nI_add, pk_mul, q_sub, pk_sub, q_mod, pk_div, nI_clamp, q_not, q_m1, q_z1, q_n1lt, Nat.add_zero, Nat.zero_add, q_nT, q_nF, ↓reduceIte, bd0_s, bd1_s, bd2_s, bd3_s, bd4_s, bd5_s, bd6_s, bd7_s, bd8_s, bd9_s, lt_s_, qL0, qL1, qL2, qL3, qL4, qL5, qL6, qL7, qL8, qL9, qL10, qL11, qL12, qL13, qL14, qL15, qL16, qL17, qL21, qL25, qL26, qL31, qL33, qL40, qL43, qL45, qL48, qL49, qL57, qL58, qL59, qL60, qL61, qL65, qL90, qL97, qL98, qL99, qL118, qL119, qL126, qL240, qL261, qL501, qL999, qL1000, qL1002, qL2505, qL3006, qL999999, qL1000000, f6_isLetter, h1]
theorem tk_in {n : Nat} (h : n ≤ 2) : f5_throwIfNoSlipKind (nI n) = some 0 := by simp (disch := omega) only [q_inb, q_isZ0, q_isZ1, q_leT, q_leF, q_ltT, q_ltF, q_eqT, q_eqF, nI_leI, nI_ltI, nI_eq, nI_add, pk_mul, q_sub, pk_sub, q_mod, pk_div, nI_clamp, q_not, q_m1, q_z1, q_n1lt, Nat.add_zero, Nat.zero_add, q_nT, q_nF, ↓reduceIte, bd0_s, bd1_s, bd2_s, bd3_s, bd4_s, bd5_s, bd6_s, bd7_s, bd8_s, bd9_s, lt_s_, qL0, qL1, qL2, qL3, qL4, qL5, qL6, qL7, qL8, qL9, qL10, qL11, qL12, qL13, qL14, qL15, qL16, qL17, qL21, qL25, qL26, qL31, qL33, qL40, qL43, qL45, qL48, qL49, qL57, qL58, qL59, qL60, qL61, qL65, qL90, qL97, qL98, qL99, qL118, qL119, qL126, qL240, qL261, qL501, qL999, qL1000, qL1002, qL2505, qL3006, qL999999, qL1000000, f5_throwIfNoSlipKind]
theorem tk_out {x : Int32} (h : outR 0 2 x) : f5_throwIfNoSlipKind x = some 2 := by
  rcases h with h | ⟨n, h1, h2, rfl⟩
  · unfold f5_throwIfNoSlipKind
    rw [if_pos h]
  · simp (disch := omega) only [q_inb, q_isZ0, q_isZ1, q_leT, q_leF, q_ltT, q_ltF, q_eqT, q_eqF, nI_leI, nI_ltI, nI_eq, nI_add, pk_mul, q_sub, pk_sub, q_mod, pk_div, nI_clamp, q_not, q_m1, q_z1, q_n1lt, Nat.add_zero, Nat.zero_add, q_nT, q_nF, ↓reduceIte, bd0_s, bd1_s, bd2_s, bd3_s, bd4_s, bd5_s, bd6_s, bd7_s, bd8_s, bd9_s, lt_s_, qL0, qL1, qL2, qL3, qL4, qL5, qL6, qL7, qL8, qL9, qL10, qL11, qL12, qL13, qL14, qL15, qL16, qL17, qL21, qL25, qL26, qL31, qL33, qL40, qL43, qL45, qL48, qL49, qL57, qL58, qL59, qL60, qL61, qL65, qL90, qL97, qL98, qL99, qL118, qL119, qL126, qL240, qL261, qL501, qL999, qL1000, qL1002, qL2505, qL3006, qL999999, qL1000000, f5_throwIfNoSlipKind]
theorem tt_in {n : Nat} (h : n ≤ 1) : f5_throwIfNoSlot (nI n) = some 0 := by simp (disch := omega) only [q_inb, q_isZ0, q_isZ1, q_leT, q_leF, q_ltT, q_ltF, q_eqT, q_eqF, nI_leI, nI_ltI, nI_eq, nI_add, pk_mul, q_sub, pk_sub, q_mod, pk_div, nI_clamp, q_not, q_m1, q_z1, q_n1lt, Nat.add_zero, Nat.zero_add, q_nT, q_nF, ↓reduceIte, bd0_s, bd1_s, bd2_s, bd3_s, bd4_s, bd5_s, bd6_s, bd7_s, bd8_s, bd9_s, lt_s_, qL0, qL1, qL2, qL3, qL4, qL5, qL6, qL7, qL8, qL9, qL10, qL11, qL12, qL13, qL14, qL15, qL16, qL17, qL21, qL25, qL26, qL31, qL33, qL40, qL43, qL45, qL48, qL49, qL57, qL58, qL59, qL60, qL61, qL65, qL90, qL97, qL98, qL99, qL118, qL119, qL126, qL240, qL261, qL501, qL999, qL1000, qL1002, qL2505, qL3006, qL999999, qL1000000, f5_throwIfNoSlot]
theorem tt_out {x : Int32} (h : outR 0 1 x) : f5_throwIfNoSlot x = some 2 := by
  rcases h with h | ⟨n, h1, h2, rfl⟩
  · unfold f5_throwIfNoSlot
    rw [if_pos h]
  · simp (disch := omega) only [q_inb, q_isZ0, q_isZ1, q_leT, q_leF, q_ltT, q_ltF, q_eqT, q_eqF, nI_leI, nI_ltI, nI_eq, nI_add, pk_mul, q_sub, pk_sub, q_mod, pk_div, nI_clamp, q_not, q_m1, q_z1, q_n1lt, Nat.add_zero, Nat.zero_add, q_nT, q_nF, ↓reduceIte, bd0_s, bd1_s, bd2_s, bd3_s, bd4_s, bd5_s, bd6_s, bd7_s, bd8_s, bd9_s, lt_s_, qL0, qL1, qL2, qL3, qL4, qL5, qL6, qL7, qL8, qL9, qL10, qL11, qL12, qL13, qL14, qL15, qL16, qL17, qL21, qL25, qL26, qL31, qL33, qL40, qL43, qL45, qL48, qL49, qL57, qL58, qL59, qL60, qL61, qL65, qL90, qL97, qL98, qL99, qL118, qL119, qL126, qL240, qL261, qL501, qL999, qL1000, qL1002, qL2505, qL3006, qL999999, qL1000000, f5_throwIfNoSlot]
theorem tf_0 : f5_throwIfFaulty (nI 0) = some 0 := by decide
theorem tf_1 : f5_throwIfFaulty (nI 1) = some 1 := by decide
theorem tf_2 : f5_throwIfFaulty (nI 2) = some 2 := by decide
theorem tf_3 : f5_throwIfFaulty (nI 3) = some 3 := by decide
/-- the object and the reference tell the same -/
def Inv (sr wm : Int32) (wW : Nat → Int32) (bh : Int32) (bF bZ bK bM : Nat → Int32) (ol : Int32) (oS : Nat → Int32) (kd : Int32) (kf : Nat → Int32) (kV kP : Nat → SV) (mN mP : Nat → Int32) (ms : Int32) (mK mI mT : Nat → Int32) (ml : Int32) : Prop :=
  Bk sr wm wW bh bF bZ bK bM mN ∧ (∃ d, d ≤ 6 ∧ kd = nI d ∧ ms = nI d ∧ HsI d kV mP) ∧ SlI kf kP mI mK ∧ ∃ n T, cT_ n T oS ∧ cT_ n T mT ∧ ol = nI n ∧ ml = nI n
/-- which exception is which code -/
abbrev oc1 (a k : Nat) (mt : Int32) : Prop := (k = 0 ∧ mt = 0) ∨ (k = a ∧ mt = 1)
abbrev oc2 (a b k : Nat) (mt : Int32) : Prop := (k = 0 ∧ mt = 0) ∨ (k = a ∧ mt = 1) ∨ (k = b ∧ mt = 2)
abbrev oc3 (a b c k : Nat) (mt : Int32) : Prop := (k = 0 ∧ mt = 0) ∨ (k = a ∧ mt = 1) ∨ (k = b ∧ mt = 2) ∨ (k = c ∧ mt = 3)
theorem ite_out {α : Type} {lo hi : Nat} {x a b : Int32} (ha : a = nI lo) (hb : b = nI hi) (hlo : lo < 2 ^ 31) (hhi : hi < 2 ^ 31) (h : outR lo hi x) (A B : α) : (if x < a then A else if x ≤ b then B else A) = A := by
  subst ha hb
  rcases h with h | ⟨n, h1, h2, rfl⟩
  · rw [if_pos (q_neg h hlo)]
  · by_cases q : n < lo
    · rw [if_pos (nI_lt q hlo)]
    · rw [if_neg (nI_nlt (by omega) h2), if_neg (nI_ge (by omega) h2)]
theorem Bk_weight {sr wm : Int32} {wW : Nat → Int32} {h m : Nat} {W F Z K M : NF} {bh : Int32} {bF bZ bK bM g : Nat → Int32} (hW : wW_ m W) (hB : wB_ h F Z) (hK : wK_ h Z K M) (cW : cW_ m W wm wW) (cB : cB_ h F Z bh bF bZ) (cK : cK_ h Z K M bK bM) (mW : mW_ m W g) (mB : mB_ h F Z g) (mK : mK_ h Z K M g) (hr : g 2 = sr)
    {p w : Nat} (hp : p ≤ 5) (h1 : 1 ≤ w) (h2 : w ≤ 9) : Bk sr wm (upd wW p (nI w)) bh bF bZ bK bM (upd g (3 + p) (nI w)) := by
  have hh := hB.1
  refine ⟨h, m, cw W p w, F, Z, K, M, cw_w hW h1 h2, hB, hK, ⟨cW.1, fun j hj => ?_⟩, cB, cK, mW_upd mW (by omega), ⟨?_, fun b hb => ?_⟩, fun b j hb hj => ?_, ?_⟩
  · rw [upd_eq]
    unfold cw
    by_cases e : j = p
    · rw [if_pos e, if_pos e]
    · rw [if_neg e, if_neg e]; exact cW.2 j hj
  · rw [upd_eq, if_neg (by omega)]; exact mB.1
  · rw [upd_eq, if_neg (by omega), upd_eq, if_neg (by omega)]; exact mB.2 b hb
  · rw [upd_eq, if_neg (by omega), upd_eq, if_neg (by omega)]; exact mK b j hb hj
  · rw [upd_eq, if_neg (by omega)]; exact hr
theorem Bk_modulus {sr wm : Int32} {wW : Nat → Int32} {h m : Nat} {W F Z K M : NF} {bh : Int32} {bF bZ bK bM g : Nat → Int32} (hW : wW_ m W) (hB : wB_ h F Z) (hK : wK_ h Z K M) (cW : cW_ m W wm wW) (cB : cB_ h F Z bh bF bZ) (cK : cK_ h Z K M bK bM) (mW : mW_ m W g) (mB : mB_ h F Z g) (mK : mK_ h Z K M g) (hr : g 2 = sr)
    {v : Nat} (h1 : 7 ≤ v) (h2 : v ≤ 26) : Bk sr (nI v) wW bh bF bZ bK bM (upd g 1 (nI v)) := by
  refine ⟨h, v, W, F, Z, K, M, ⟨h1, h2, hW.2.2⟩, hB, hK, ⟨rfl, cW.2⟩, cB, cK, ⟨pk_us, fun j hj => ?_⟩, ⟨?_, fun b hb => ?_⟩, fun b j hb hj => ?_, ?_⟩
  · rw [upd_eq, if_neg (by omega)]; exact mW.2 j hj
  · rw [upd_eq, if_neg (by omega)]; exact mB.1
  · rw [upd_eq, if_neg (by omega), upd_eq, if_neg (by omega)]; exact mB.2 b hb
  · rw [upd_eq, if_neg (by omega), upd_eq, if_neg (by omega)]; exact mK b j hb hj
  · rw [upd_eq, if_neg (by omega)]; exact hr
