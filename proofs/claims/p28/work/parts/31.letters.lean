
/-! ===== pure rows: letters, differences, pairs ===== -/
theorem q_ndiv {t m : Nat} (ht : t < 2 ^ 31) (h0 : 0 < m) (hm : m < 2 ^ 31) : (-nI t) / nI m = -nI (t / m) := by
  have h1 : t / m ≤ t := Nat.div_le_self t m
  apply Int32.toInt_inj.mp
  rw [Int32.toInt_div, sb_negT ht, nI_toInt hm, sb_negT (by omega), Int.neg_tdiv, Int.tdiv_eq_ediv_of_nonneg (by omega), ← Int.natCast_ediv]
  generalize t / m = q at h1 ⊢
  rw [Int.bmod_eq_of_le (by omega) (by omega)]
theorem q_nrem {t m : Nat} (ht : t < 2 ^ 31) (h0 : 0 < m) (hm : m < 2 ^ 31) : (-nI t) - (-nI t) / nI m * nI m = -nI (t % m) := by
  rw [q_ndiv ht h0 hm, Int32.neg_mul, Int32.sub_neg, pk_mul, ← q_sub t m, Int32.neg_sub, Int32.add_comm, ← Int32.sub_eq_add_neg]
theorem s2_weightAt {m : Nat} {W : NF} {wm : Int32} {wW : Nat → Int32} (H : cW_ m W wm wW) {p : Nat} (hp : p < 6) : f2_weightAt wW (nI p) = some (nI (W p)) := by
  have e := H.2 p hp
  simp (disch := omega) only [q_inb, q_isZ0, q_isZ1, q_leT, q_leF, q_ltT, q_ltF, q_eqT, q_eqF, nI_leI, nI_ltI, nI_eq, nI_add, pk_mul, q_sub, pk_sub, q_mod, pk_div, nI_clamp, q_not, q_m1, q_z1, q_n1lt, Nat.add_zero, Nat.zero_add, q_nT, q_nF, ↓reduceIte, bd0_s, bd1_s, bd2_s, bd3_s, bd4_s, bd5_s, bd6_s, bd7_s, bd8_s, bd9_s, lt_s_, qL0, qL1, qL2, qL3, qL4, qL5, qL6, qL7, qL8, qL9, qL10, qL11, qL12, qL13, qL14, qL15, qL16, qL17, qL21, qL25, qL26, qL31, qL33, qL40, qL43, qL45, qL48, qL49, qL57, qL58, qL59, qL60, qL61, qL65, qL90, qL97, qL98, qL99, qL118, qL119, qL126, qL240, qL261, qL501, qL999, qL1000, qL1002, qL2505, qL3006, qL999999, qL1000000, f2_weightAt, e]
theorem s2_restOf {m t : Nat} (h1 : 7 ≤ m) (h2 : m ≤ 26) (ht : t < 2 ^ 31) : f2_restOf (nI m) (nI t) = some (nI (t % m)) := by
  have h3 := Nat.mod_lt t (show 0 < m by omega)
  simp (disch := omega) only [q_inb, q_isZ0, q_isZ1, q_leT, q_leF, q_ltT, q_ltF, q_eqT, q_eqF, nI_leI, nI_ltI, nI_eq, nI_add, pk_mul, q_sub, pk_sub, q_mod, pk_div, nI_clamp, q_not, q_m1, q_z1, q_n1lt, Nat.add_zero, Nat.zero_add, q_nT, q_nF, ↓reduceIte, bd0_s, bd1_s, bd2_s, bd3_s, bd4_s, bd5_s, bd6_s, bd7_s, bd8_s, bd9_s, lt_s_, qL0, qL1, qL2, qL3, qL4, qL5, qL6, qL7, qL8, qL9, qL10, qL11, qL12, qL13, qL14, qL15, qL16, qL17, qL21, qL25, qL26, qL31, qL33, qL40, qL43, qL45, qL48, qL49, qL57, qL58, qL59, qL60, qL61, qL65, qL90, qL97, qL98, qL99, qL118, qL119, qL126, qL240, qL261, qL501, qL999, qL1000, qL1002, qL2505, qL3006, qL999999, qL1000000, f2_restOf]
theorem s2_restOfn {m t : Nat} (h1 : 7 ≤ m) (h2 : m ≤ 26) (ht : t < 2 ^ 31) : f2_restOf (nI m) (-nI t) = some (nI ((m - t % m) % m)) := by
  have h3 := Nat.mod_lt t (show 0 < m by omega)
  unfold f2_restOf
  rw [q_nrem ht (by omega) (by omega)]
  by_cases h : t % m = 0
  · have h4 : (m - 0) % m = 0 := by rw [Nat.sub_zero, Nat.mod_self]
    rw [h, h4]
    simp (disch := omega) only [q_inb, q_isZ0, q_isZ1, q_leT, q_leF, q_ltT, q_ltF, q_eqT, q_eqF, nI_leI, nI_ltI, nI_eq, nI_add, pk_mul, q_sub, pk_sub, q_mod, pk_div, nI_clamp, q_not, q_m1, q_z1, q_n1lt, Nat.add_zero, Nat.zero_add, q_nT, q_nF, ↓reduceIte, bd0_s, bd1_s, bd2_s, bd3_s, bd4_s, bd5_s, bd6_s, bd7_s, bd8_s, bd9_s, lt_s_, qL0, qL1, qL2, qL3, qL4, qL5, qL6, qL7, qL8, qL9, qL10, qL11, qL12, qL13, qL14, qL15, qL16, qL17, qL21, qL25, qL26, qL31, qL33, qL40, qL43, qL45, qL48, qL49, qL57, qL58, qL59, qL60, qL61, qL65, qL90, qL97, qL98, qL99, qL118, qL119, qL126, qL240, qL261, qL501, qL999, qL1000, qL1002, qL2505, qL3006, qL999999, qL1000000, show (-nI 0 : Int32) = nI 0 from rfl]
  · have h4 : (m - t % m) % m = m - t % m := Nat.mod_eq_of_lt (by omega)
    have h5 : ¬ (0 : Int32) ≤ -nI (t % m) := by
      rw [Int32.le_iff_toInt_le, sb_negT (by omega), show (0 : Int32).toInt = 0 from rfl]
      omega
    have h6 : -nI (t % m) + nI m = nI (m - t % m) := by rw [Int32.add_comm, ← Int32.sub_eq_add_neg, pk_sub (by omega)]
    rw [if_neg h5, h6, h4]
    simp (disch := omega) only [q_inb, q_isZ0, q_isZ1, q_leT, q_leF, q_ltT, q_ltF, q_eqT, q_eqF, nI_leI, nI_ltI, nI_eq, nI_add, pk_mul, q_sub, pk_sub, q_mod, pk_div, nI_clamp, q_not, q_m1, q_z1, q_n1lt, Nat.add_zero, Nat.zero_add, q_nT, q_nF, ↓reduceIte, bd0_s, bd1_s, bd2_s, bd3_s, bd4_s, bd5_s, bd6_s, bd7_s, bd8_s, bd9_s, lt_s_, qL0, qL1, qL2, qL3, qL4, qL5, qL6, qL7, qL8, qL9, qL10, qL11, qL12, qL13, qL14, qL15, qL16, qL17, qL21, qL25, qL26, qL31, qL33, qL40, qL43, qL45, qL48, qL49, qL57, qL58, qL59, qL60, qL61, qL65, qL90, qL97, qL98, qL99, qL118, qL119, qL126, qL240, qL261, qL501, qL999, qL1000, qL1002, qL2505, qL3006, qL999999, qL1000000]
/-- x is a or minus a -/
def sg (x : Int32) (a : Nat) : Prop := x = nI a ∨ x = -nI a
theorem sg_p (a : Nat) : sg (nI a) a := Or.inl rfl
theorem sg_mul {x y : Int32} {a b : Nat} (hx : sg x a) (hy : sg y b) : sg (x * y) (a * b) := by
  rcases hx with rfl | rfl <;> rcases hy with rfl | rfl
  · exact Or.inl (pk_mul a b)
  · exact Or.inr (by rw [Int32.mul_neg, pk_mul])
  · exact Or.inr (by rw [Int32.neg_mul, pk_mul])
  · exact Or.inl (by rw [Int32.neg_mul, Int32.mul_neg, Int32.neg_neg, pk_mul])
def df (a b : Nat) : Nat := if a < b then b - a else a - b
theorem df_c (a b : Nat) : df a b = df b a := by unfold df; split <;> split <;> omega
theorem df_le {a b c : Nat} (ha : a ≤ c) (hb : b ≤ c) : df a b ≤ c := by unfold df; split <;> omega
theorem df_0 {a b : Nat} : df a b = 0 ↔ a = b := by unfold df; split <;> omega
theorem sg_sub (a b : Nat) : sg (nI a - nI b) (df a b) := by
  unfold df
  by_cases h : a < b
  · rw [if_pos h]
    exact Or.inr (by rw [← pk_sub (show a ≤ b by omega), Int32.neg_sub])
  · rw [if_neg h]
    exact Or.inl (pk_sub (by omega))
theorem sg_0 {x : Int32} {a : Nat} (hx : sg x a) (ha : a < 2 ^ 31) : x = 0 ↔ a = 0 := by
  rcases hx with rfl | rfl
  · exact nI_eq ha (by decide)
  · constructor
    · intro h
      have h1 := congrArg Int32.toInt h
      rw [sb_negT ha, show (0 : Int32).toInt = 0 from rfl] at h1
      omega
    · rintro rfl
      rfl
theorem s2_isHidden {m a b : Nat} {x y : Int32} (h1 : 7 ≤ m) (h2 : m ≤ 26) (hx : sg x a) (hy : sg y b) (hab : a * b < 2 ^ 31) : f2_isHidden (nI m) x y = some (nI (bI (a * b % m = 0))) := by
  have h3 := Nat.mod_lt (a * b) (show 0 < m by omega)
  unfold f2_isHidden
  rcases sg_mul hx hy with e | e
  · rw [e, s2_restOf h1 h2 hab]
    by_cases h : a * b % m = 0
    · rw [bI_t h]
      simp (disch := omega) only [q_inb, q_isZ0, q_isZ1, q_leT, q_leF, q_ltT, q_ltF, q_eqT, q_eqF, nI_leI, nI_ltI, nI_eq, nI_add, pk_mul, q_sub, pk_sub, q_mod, pk_div, nI_clamp, q_not, q_m1, q_z1, q_n1lt, Nat.add_zero, Nat.zero_add, q_nT, q_nF, ↓reduceIte, bd0_s, bd1_s, bd2_s, bd3_s, bd4_s, bd5_s, bd6_s, bd7_s, bd8_s, bd9_s, lt_s_, qL0, qL1, qL2, qL3, qL4, qL5, qL6, qL7, qL8, qL9, qL10, qL11, qL12, qL13, qL14, qL15, qL16, qL17, qL21, qL25, qL26, qL31, qL33, qL40, qL43, qL45, qL48, qL49, qL57, qL58, qL59, qL60, qL61, qL65, qL90, qL97, qL98, qL99, qL118, qL119, qL126, qL240, qL261, qL501, qL999, qL1000, qL1002, qL2505, qL3006, qL999999, qL1000000, h]
    · rw [bI_f h]
      simp (disch := omega) only [q_inb, q_isZ0, q_isZ1, q_leT, q_leF, q_ltT, q_ltF, q_eqT, q_eqF, nI_leI, nI_ltI, nI_eq, nI_add, pk_mul, q_sub, pk_sub, q_mod, pk_div, nI_clamp, q_not, q_m1, q_z1, q_n1lt, Nat.add_zero, Nat.zero_add, q_nT, q_nF, ↓reduceIte, bd0_s, bd1_s, bd2_s, bd3_s, bd4_s, bd5_s, bd6_s, bd7_s, bd8_s, bd9_s, lt_s_, qL0, qL1, qL2, qL3, qL4, qL5, qL6, qL7, qL8, qL9, qL10, qL11, qL12, qL13, qL14, qL15, qL16, qL17, qL21, qL25, qL26, qL31, qL33, qL40, qL43, qL45, qL48, qL49, qL57, qL58, qL59, qL60, qL61, qL65, qL90, qL97, qL98, qL99, qL118, qL119, qL126, qL240, qL261, qL501, qL999, qL1000, qL1002, qL2505, qL3006, qL999999, qL1000000]
  · rw [e, s2_restOfn h1 h2 hab]
    by_cases h : a * b % m = 0
    · rw [bI_t h, h, Nat.sub_zero, Nat.mod_self]
      simp (disch := omega) only [q_inb, q_isZ0, q_isZ1, q_leT, q_leF, q_ltT, q_ltF, q_eqT, q_eqF, nI_leI, nI_ltI, nI_eq, nI_add, pk_mul, q_sub, pk_sub, q_mod, pk_div, nI_clamp, q_not, q_m1, q_z1, q_n1lt, Nat.add_zero, Nat.zero_add, q_nT, q_nF, ↓reduceIte, bd0_s, bd1_s, bd2_s, bd3_s, bd4_s, bd5_s, bd6_s, bd7_s, bd8_s, bd9_s, lt_s_, qL0, qL1, qL2, qL3, qL4, qL5, qL6, qL7, qL8, qL9, qL10, qL11, qL12, qL13, qL14, qL15, qL16, qL17, qL21, qL25, qL26, qL31, qL33, qL40, qL43, qL45, qL48, qL49, qL57, qL58, qL59, qL60, qL61, qL65, qL90, qL97, qL98, qL99, qL118, qL119, qL126, qL240, qL261, qL501, qL999, qL1000, qL1002, qL2505, qL3006, qL999999, qL1000000]
    · have h4 : (m - a * b % m) % m = m - a * b % m := Nat.mod_eq_of_lt (by omega)
      rw [bI_f h, h4]
      simp (disch := omega) only [q_inb, q_isZ0, q_isZ1, q_leT, q_leF, q_ltT, q_ltF, q_eqT, q_eqF, nI_leI, nI_ltI, nI_eq, nI_add, pk_mul, q_sub, pk_sub, q_mod, pk_div, nI_clamp, q_not, q_m1, q_z1, q_n1lt, Nat.add_zero, Nat.zero_add, q_nT, q_nF, ↓reduceIte, bd0_s, bd1_s, bd2_s, bd3_s, bd4_s, bd5_s, bd6_s, bd7_s, bd8_s, bd9_s, lt_s_, qL0, qL1, qL2, qL3, qL4, qL5, qL6, qL7, qL8, qL9, qL10, qL11, qL12, qL13, qL14, qL15, qL16, qL17, qL21, qL25, qL26, qL31, qL33, qL40, qL43, qL45, qL48, qL49, qL57, qL58, qL59, qL60, qL61, qL65, qL90, qL97, qL98, qL99, qL118, qL119, qL126, qL240, qL261, qL501, qL999, qL1000, qL1002, qL2505, qL3006, qL999999, qL1000000]
theorem s6_isLeft {m a b : Nat} {W : NF} {g : Nat → Int32} {x y : Int32} (H : mW_ m W g) (h1 : 7 ≤ m) (h2 : m ≤ 26) (hx : sg x a) (hy : sg y b) (hab : a * b < 2 ^ 31) : f6_isLeft g x y = some (nI (bI (a * b % m = 0))) := by
  have h3 := Nat.mod_lt (a * b) (show 0 < m by omega)
  have h0 : g (1 : Int32).toNatClampNeg = nI m := H.1
  unfold f6_isLeft
  rw [h0]
  rcases sg_mul hx hy with e | e
  · rw [e]
    by_cases h : a * b % m = 0
    · rw [bI_t h]
      simp (disch := omega) only [q_inb, q_isZ0, q_isZ1, q_leT, q_leF, q_ltT, q_ltF, q_eqT, q_eqF, nI_leI, nI_ltI, nI_eq, nI_add, pk_mul, q_sub, pk_sub, q_mod, pk_div, nI_clamp, q_not, q_m1, q_z1, q_n1lt, Nat.add_zero, Nat.zero_add, q_nT, q_nF, ↓reduceIte, bd0_s, bd1_s, bd2_s, bd3_s, bd4_s, bd5_s, bd6_s, bd7_s, bd8_s, bd9_s, lt_s_, qL0, qL1, qL2, qL3, qL4, qL5, qL6, qL7, qL8, qL9, qL10, qL11, qL12, qL13, qL14, qL15, qL16, qL17, qL21, qL25, qL26, qL31, qL33, qL40, qL43, qL45, qL48, qL49, qL57, qL58, qL59, qL60, qL61, qL65, qL90, qL97, qL98, qL99, qL118, qL119, qL126, qL240, qL261, qL501, qL999, qL1000, qL1002, qL2505, qL3006, qL999999, qL1000000, h]
    · rw [bI_f h]
      simp (disch := omega) only [q_inb, q_isZ0, q_isZ1, q_leT, q_leF, q_ltT, q_ltF, q_eqT, q_eqF, nI_leI, nI_ltI, nI_eq, nI_add, pk_mul, q_sub, pk_sub, q_mod, pk_div, nI_clamp, q_not, q_m1, q_z1, q_n1lt, Nat.add_zero, Nat.zero_add, q_nT, q_nF, ↓reduceIte, bd0_s, bd1_s, bd2_s, bd3_s, bd4_s, bd5_s, bd6_s, bd7_s, bd8_s, bd9_s, lt_s_, qL0, qL1, qL2, qL3, qL4, qL5, qL6, qL7, qL8, qL9, qL10, qL11, qL12, qL13, qL14, qL15, qL16, qL17, qL21, qL25, qL26, qL31, qL33, qL40, qL43, qL45, qL48, qL49, qL57, qL58, qL59, qL60, qL61, qL65, qL90, qL97, qL98, qL99, qL118, qL119, qL126, qL240, qL261, qL501, qL999, qL1000, qL1002, qL2505, qL3006, qL999999, qL1000000]
  · rw [e, q_nrem hab (by omega) (by omega)]
    have h5 := sg_0 (x := -nI (a * b % m)) (Or.inr rfl) (show a * b % m < 2 ^ 31 by omega)
    by_cases h : a * b % m = 0
    · rw [bI_t h, if_pos (h5.mpr h)]
      simp (disch := omega) only [q_inb, q_isZ0, q_isZ1, q_leT, q_leF, q_ltT, q_ltF, q_eqT, q_eqF, nI_leI, nI_ltI, nI_eq, nI_add, pk_mul, q_sub, pk_sub, q_mod, pk_div, nI_clamp, q_not, q_m1, q_z1, q_n1lt, Nat.add_zero, Nat.zero_add, q_nT, q_nF, ↓reduceIte, bd0_s, bd1_s, bd2_s, bd3_s, bd4_s, bd5_s, bd6_s, bd7_s, bd8_s, bd9_s, lt_s_, qL0, qL1, qL2, qL3, qL4, qL5, qL6, qL7, qL8, qL9, qL10, qL11, qL12, qL13, qL14, qL15, qL16, qL17, qL21, qL25, qL26, qL31, qL33, qL40, qL43, qL45, qL48, qL49, qL57, qL58, qL59, qL60, qL61, qL65, qL90, qL97, qL98, qL99, qL118, qL119, qL126, qL240, qL261, qL501, qL999, qL1000, qL1002, qL2505, qL3006, qL999999, qL1000000]
    · rw [bI_f h, if_neg (mt h5.mp h)]
      simp (disch := omega) only [q_inb, q_isZ0, q_isZ1, q_leT, q_leF, q_ltT, q_ltF, q_eqT, q_eqF, nI_leI, nI_ltI, nI_eq, nI_add, pk_mul, q_sub, pk_sub, q_mod, pk_div, nI_clamp, q_not, q_m1, q_z1, q_n1lt, Nat.add_zero, Nat.zero_add, q_nT, q_nF, ↓reduceIte, bd0_s, bd1_s, bd2_s, bd3_s, bd4_s, bd5_s, bd6_s, bd7_s, bd8_s, bd9_s, lt_s_, qL0, qL1, qL2, qL3, qL4, qL5, qL6, qL7, qL8, qL9, qL10, qL11, qL12, qL13, qL14, qL15, qL16, qL17, qL21, qL25, qL26, qL31, qL33, qL40, qL43, qL45, qL48, qL49, qL57, qL58, qL59, qL60, qL61, qL65, qL90, qL97, qL98, qL99, qL118, qL119, qL126, qL240, qL261, qL501, qL999, qL1000, qL1002, qL2505, qL3006, qL999999, qL1000000]
/-- the pairs of digits that a factor of the size a hides -/
def prs (m a k : Nat) : Nat := if a * (k + 1) % m = 0 then 9 - k else 0
def pr (m a : Nat) : Nat := fb_sm (prs m a) 9
theorem prs_le (m a k : Nat) : prs m a k ≤ 9 := by unfold prs; split <;> omega
theorem pr_part (m a : Nat) {i : Nat} (hi : i ≤ 9) : fb_sm (prs m a) i ≤ 81 := by
  have := fb_sm_bound (f := prs m a) (c := 9) (n := i) (fun k _ => prs_le m a k)
  omega
theorem pr_le (m a : Nat) : pr m a ≤ 81 := pr_part m a (Nat.le_refl 9)
theorem s2_hiddenPairs {m a : Nat} {x : Int32} (h1 : 7 ≤ m) (h2 : m ≤ 26) (hx : sg x a) (ha : a ≤ 1000) : f2_hiddenPairs (nI m) x = some (nI (pr m a)) := by
  obtain ⟨t, ht⟩ := traj0 (fun i t => f2_hiddenPairs_l4 (nI m) x t (nI (fb_sm (prs m a) i)) (nI (i + 1))) 9 (by decide) (fun i t hi => by
    have h3 : a * (i + 1) < 2 ^ 31 := Nat.lt_of_le_of_lt (Nat.mul_le_mul ha (show i + 1 ≤ 10 by omega)) (by decide)
    have h4 := pr_part m a (show i ≤ 9 by omega)
    have h5 := s2_isHidden h1 h2 hx (sg_p (i + 1)) h3
    rw [f2_hiddenPairs_l4, fb_sm_succ]
    by_cases h : a * (i + 1) % m = 0
    · have h6 : prs m a i = 9 - i := if_pos h
      rw [bI_t h] at h5
      rw [h6]
      simp (disch := omega) only [q_inb, q_isZ0, q_isZ1, q_leT, q_leF, q_ltT, q_ltF, q_eqT, q_eqF, nI_leI, nI_ltI, nI_eq, nI_add, pk_mul, q_sub, pk_sub, q_mod, pk_div, nI_clamp, q_not, q_m1, q_z1, q_n1lt, Nat.add_zero, Nat.zero_add, q_nT, q_nF, ↓reduceIte, bd0_s, bd1_s, bd2_s, bd3_s, bd4_s, bd5_s, bd6_s, bd7_s, bd8_s, bd9_s, lt_s_, qL0, qL1, qL2, qL3, qL4, qL5, qL6, qL7, qL8, qL9, qL10, qL11, qL12, qL13, qL14, qL15, qL16, qL17, qL21, qL25, qL26, qL31, qL33, qL40, qL43, qL45, qL48, qL49, qL57, qL58, qL59, qL60, qL61, qL65, qL90, qL97, qL98, qL99, qL118, qL119, qL126, qL240, qL261, qL501, qL999, qL1000, qL1002, qL2505, qL3006, qL999999, qL1000000, h5]
      rw [show fb_sm (prs m a) i + (10 - (i + 1)) = fb_sm (prs m a) i + (9 - i) by omega]
    · have h6 : prs m a i = 0 := if_neg h
      rw [bI_f h] at h5
      rw [h6]
      simp (disch := omega) only [q_inb, q_isZ0, q_isZ1, q_leT, q_leF, q_ltT, q_ltF, q_eqT, q_eqF, nI_leI, nI_ltI, nI_eq, nI_add, pk_mul, q_sub, pk_sub, q_mod, pk_div, nI_clamp, q_not, q_m1, q_z1, q_n1lt, Nat.add_zero, Nat.zero_add, q_nT, q_nF, ↓reduceIte, bd0_s, bd1_s, bd2_s, bd3_s, bd4_s, bd5_s, bd6_s, bd7_s, bd8_s, bd9_s, lt_s_, qL0, qL1, qL2, qL3, qL4, qL5, qL6, qL7, qL8, qL9, qL10, qL11, qL12, qL13, qL14, qL15, qL16, qL17, qL21, qL25, qL26, qL31, qL33, qL40, qL43, qL45, qL48, qL49, qL57, qL58, qL59, qL60, qL61, qL65, qL90, qL97, qL98, qL99, qL118, qL119, qL126, qL240, qL261, qL501, qL999, qL1000, qL1002, qL2505, qL3006, qL999999, qL1000000, h5])
  unfold f2_hiddenPairs
  refine Eq.trans ht ?_
  rw [f2_hiddenPairs_l4]
  simp (disch := omega) only [q_inb, q_isZ0, q_isZ1, q_leT, q_leF, q_ltT, q_ltF, q_eqT, q_eqF, nI_leI, nI_ltI, nI_eq, nI_add, pk_mul, q_sub, pk_sub, q_mod, pk_div, nI_clamp, q_not, q_m1, q_z1, q_n1lt, Nat.add_zero, Nat.zero_add, q_nT, q_nF, ↓reduceIte, bd0_s, bd1_s, bd2_s, bd3_s, bd4_s, bd5_s, bd6_s, bd7_s, bd8_s, bd9_s, lt_s_, qL0, qL1, qL2, qL3, qL4, qL5, qL6, qL7, qL8, qL9, qL10, qL11, qL12, qL13, qL14, qL15, qL16, qL17, qL21, qL25, qL26, qL31, qL33, qL40, qL43, qL45, qL48, qL49, qL57, qL58, qL59, qL60, qL61, qL65, qL90, qL97, qL98, qL99, qL118, qL119, qL126, qL240, qL261, qL501, qL999, qL1000, qL1002, qL2505, qL3006, qL999999, qL1000000]
  rfl
theorem s6_pairs {m a : Nat} {W : NF} {g : Nat → Int32} {x : Int32} (H : mW_ m W g) (h1 : 7 ≤ m) (h2 : m ≤ 26) (hx : sg x a) (ha : a ≤ 1000) : f6_pairs g x = some (nI (pr m a)) := by
  obtain ⟨t, ht⟩ := traj0 (fun i t => f6_pairs_l4 g x t (nI (fb_sm (prs m a) i)) (nI (i + 1))) 9 (by decide) (fun i t hi => by
    have h3 : a * (i + 1) < 2 ^ 31 := Nat.lt_of_le_of_lt (Nat.mul_le_mul ha (show i + 1 ≤ 10 by omega)) (by decide)
    have h4 := pr_part m a (show i ≤ 9 by omega)
    have h5 := s6_isLeft H h1 h2 hx (sg_p (i + 1)) h3
    rw [f6_pairs_l4, fb_sm_succ]
    by_cases h : a * (i + 1) % m = 0
    · have h6 : prs m a i = 9 - i := if_pos h
      rw [bI_t h] at h5
      rw [h6]
      simp (disch := omega) only [q_inb, q_isZ0, q_isZ1, q_leT, q_leF, q_ltT, q_ltF, q_eqT, q_eqF, nI_leI, nI_ltI, nI_eq, nI_add, pk_mul, q_sub, pk_sub, q_mod, pk_div, nI_clamp, q_not, q_m1, q_z1, q_n1lt, Nat.add_zero, Nat.zero_add, q_nT, q_nF, ↓reduceIte, bd0_s, bd1_s, bd2_s, bd3_s, bd4_s, bd5_s, bd6_s, bd7_s, bd8_s, bd9_s, lt_s_, qL0, qL1, qL2, qL3, qL4, qL5, qL6, qL7, qL8, qL9, qL10, qL11, qL12, qL13, qL14, qL15, qL16, qL17, qL21, qL25, qL26, qL31, qL33, qL40, qL43, qL45, qL48, qL49, qL57, qL58, qL59, qL60, qL61, qL65, qL90, qL97, qL98, qL99, qL118, qL119, qL126, qL240, qL261, qL501, qL999, qL1000, qL1002, qL2505, qL3006, qL999999, qL1000000, h5, f6_pairs_j28]
      rw [show fb_sm (prs m a) i + (10 - (i + 1)) = fb_sm (prs m a) i + (9 - i) by omega]
    · have h6 : prs m a i = 0 := if_neg h
      rw [bI_f h] at h5
      rw [h6]
      simp (disch := omega) only [q_inb, q_isZ0, q_isZ1, q_leT, q_leF, q_ltT, q_ltF, q_eqT, q_eqF, nI_leI, nI_ltI, nI_eq, nI_add, pk_mul, q_sub, pk_sub, q_mod, pk_div, nI_clamp, q_not, q_m1, q_z1, q_n1lt, Nat.add_zero, Nat.zero_add, q_nT, q_nF, ↓reduceIte, bd0_s, bd1_s, bd2_s, bd3_s, bd4_s, bd5_s, bd6_s, bd7_s, bd8_s, bd9_s, lt_s_, qL0, qL1, qL2, qL3, qL4, qL5, qL6, qL7, qL8, qL9, qL10, qL11, qL12, qL13, qL14, qL15, qL16, qL17, qL21, qL25, qL26, qL31, qL33, qL40, qL43, qL45, qL48, qL49, qL57, qL58, qL59, qL60, qL61, qL65, qL90, qL97, qL98, qL99, qL118, qL119, qL126, qL240, qL261, qL501, qL999, qL1000, qL1002, qL2505, qL3006, qL999999, qL1000000, h5, f6_pairs_j28])
  unfold f6_pairs
  refine Eq.trans ht ?_
  rw [f6_pairs_l4]
  simp (disch := omega) only [q_inb, q_isZ0, q_isZ1, q_leT, q_leF, q_ltT, q_ltF, q_eqT, q_eqF, nI_leI, nI_ltI, nI_eq, nI_add, pk_mul, q_sub, pk_sub, q_mod, pk_div, nI_clamp, q_not, q_m1, q_z1, q_n1lt, Nat.add_zero, Nat.zero_add, q_nT, q_nF, ↓reduceIte, bd0_s, bd1_s, bd2_s, bd3_s, bd4_s, bd5_s, bd6_s, bd7_s, bd8_s, bd9_s, lt_s_, qL0, qL1, qL2, qL3, qL4, qL5, qL6, qL7, qL8, qL9, qL10, qL11, qL12, qL13, qL14, qL15, qL16, qL17, qL21, qL25, qL26, qL31, qL33, qL40, qL43, qL45, qL48, qL49, qL57, qL58, qL59, qL60, qL61, qL65, qL90, qL97, qL98, qL99, qL118, qL119, qL126, qL240, qL261, qL501, qL999, qL1000, qL1002, qL2505, qL3006, qL999999, qL1000000]
  rfl
