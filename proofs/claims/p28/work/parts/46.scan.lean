
/-! ===== pure rows: the text as the reference reads it ===== -/
theorem s6_sees_t {n : Nat} {T : NF} {mT : Nat → Int32} (G : cT_ n T mT) {q lo hi : Nat} (hq : q < n) (hhi : hi < 1000) (h : lo ≤ T q ∧ T q ≤ hi) : f6_sees (nI n) (nI q) mT (nI lo) (nI hi) = some (nI 1) := by
  have h1 := G.1
  have h2 := G.2 q hq
  have h3 := s6_in_t (a := T q) (b := lo) (c := hi) (by omega) (by omega) h
  simp (disch := omega) only [q_inb, q_isZ0, q_isZ1, q_leT, q_leF, q_ltT, q_ltF, q_eqT, q_eqF, nI_leI, nI_ltI, nI_eq, nI_add, pk_mul, q_sub, pk_sub, q_mod, pk_div, nI_clamp, q_not, q_m1, q_z1, q_n1lt, Nat.add_zero, Nat.zero_add, q_nT, q_nF, ↓reduceIte, bd0_s, bd1_s, bd2_s, bd3_s, bd4_s, bd5_s, bd6_s, bd7_s, bd8_s, bd9_s, lt_s_, qL0, qL1, qL2, qL3, qL4, qL5, qL6, qL7, qL8, qL9, qL10, qL11, qL12, qL13, qL14, qL15, qL16, qL17, qL21, qL25, qL26, qL31, qL33, qL40, qL43, qL45, qL48, qL49, qL57, qL58, qL59, qL60, qL61, qL65, qL90, qL97, qL98, qL99, qL118, qL119, qL126, qL240, qL261, qL501, qL999, qL1000, qL1002, qL2505, qL3006, qL999999, qL1000000, f6_sees, h2.1, h3]
theorem s6_sees_f {n : Nat} {T : NF} {mT : Nat → Int32} (G : cT_ n T mT) {q lo hi : Nat} (hqn : q ≤ n) (hlo : lo < 1000) (hhi : hi < 1000) (h : q = n ∨ ¬ (lo ≤ T q ∧ T q ≤ hi)) : f6_sees (nI n) (nI q) mT (nI lo) (nI hi) = some (nI 0) := by
  have h1 := G.1
  by_cases hq : q < n
  · have h2 := G.2 q hq
    have h3 := s6_in_f (a := T q) (b := lo) (c := hi) (by omega) (by omega) (by omega) (h.resolve_left (by omega))
    simp (disch := omega) only [q_inb, q_isZ0, q_isZ1, q_leT, q_leF, q_ltT, q_ltF, q_eqT, q_eqF, nI_leI, nI_ltI, nI_eq, nI_add, pk_mul, q_sub, pk_sub, q_mod, pk_div, nI_clamp, q_not, q_m1, q_z1, q_n1lt, Nat.add_zero, Nat.zero_add, q_nT, q_nF, ↓reduceIte, bd0_s, bd1_s, bd2_s, bd3_s, bd4_s, bd5_s, bd6_s, bd7_s, bd8_s, bd9_s, lt_s_, qL0, qL1, qL2, qL3, qL4, qL5, qL6, qL7, qL8, qL9, qL10, qL11, qL12, qL13, qL14, qL15, qL16, qL17, qL21, qL25, qL26, qL31, qL33, qL40, qL43, qL45, qL48, qL49, qL57, qL58, qL59, qL60, qL61, qL65, qL90, qL97, qL98, qL99, qL118, qL119, qL126, qL240, qL261, qL501, qL999, qL1000, qL1002, qL2505, qL3006, qL999999, qL1000000, f6_sees, h2.1, h3]
  · simp (disch := omega) only [q_inb, q_isZ0, q_isZ1, q_leT, q_leF, q_ltT, q_ltF, q_eqT, q_eqF, nI_leI, nI_ltI, nI_eq, nI_add, pk_mul, q_sub, pk_sub, q_mod, pk_div, nI_clamp, q_not, q_m1, q_z1, q_n1lt, Nat.add_zero, Nat.zero_add, q_nT, q_nF, ↓reduceIte, bd0_s, bd1_s, bd2_s, bd3_s, bd4_s, bd5_s, bd6_s, bd7_s, bd8_s, bd9_s, lt_s_, qL0, qL1, qL2, qL3, qL4, qL5, qL6, qL7, qL8, qL9, qL10, qL11, qL12, qL13, qL14, qL15, qL16, qL17, qL21, qL25, qL26, qL31, qL33, qL40, qL43, qL45, qL48, qL49, qL57, qL58, qL59, qL60, qL61, qL65, qL90, qL97, qL98, qL99, qL118, qL119, qL126, qL240, qL261, qL501, qL999, qL1000, qL1002, qL2505, qL3006, qL999999, qL1000000, f6_sees]
theorem s6_takes_t {n : Nat} {T : NF} {mT : Nat → Int32} (G : cT_ n T mT) {q c : Nat} (hq : q < n) (h : T q = c) : f6_takes (nI n) (nI q) mT (nI c) = some (nI 1, nI (q + 1)) := by
  have h1 := (G.2 q hq)
  have h2 := s6_sees_t G hq (lo := c) (hi := c) (by omega) (by omega)
  simp (disch := omega) only [q_inb, q_isZ0, q_isZ1, q_leT, q_leF, q_ltT, q_ltF, q_eqT, q_eqF, nI_leI, nI_ltI, nI_eq, nI_add, pk_mul, q_sub, pk_sub, q_mod, pk_div, nI_clamp, q_not, q_m1, q_z1, q_n1lt, Nat.add_zero, Nat.zero_add, q_nT, q_nF, ↓reduceIte, bd0_s, bd1_s, bd2_s, bd3_s, bd4_s, bd5_s, bd6_s, bd7_s, bd8_s, bd9_s, lt_s_, qL0, qL1, qL2, qL3, qL4, qL5, qL6, qL7, qL8, qL9, qL10, qL11, qL12, qL13, qL14, qL15, qL16, qL17, qL21, qL25, qL26, qL31, qL33, qL40, qL43, qL45, qL48, qL49, qL57, qL58, qL59, qL60, qL61, qL65, qL90, qL97, qL98, qL99, qL118, qL119, qL126, qL240, qL261, qL501, qL999, qL1000, qL1002, qL2505, qL3006, qL999999, qL1000000, f6_takes, f6_takes_j21, h2]
theorem s6_takes_f {n : Nat} {T : NF} {mT : Nat → Int32} (G : cT_ n T mT) {q c : Nat} (hqn : q ≤ n) (hc : c < 1000) (h : q = n ∨ T q ≠ c) : f6_takes (nI n) (nI q) mT (nI c) = some (nI 0, nI q) := by
  have h2 := s6_sees_f G hqn hc hc (by omega)
  simp (disch := omega) only [q_inb, q_isZ0, q_isZ1, q_leT, q_leF, q_ltT, q_ltF, q_eqT, q_eqF, nI_leI, nI_ltI, nI_eq, nI_add, pk_mul, q_sub, pk_sub, q_mod, pk_div, nI_clamp, q_not, q_m1, q_z1, q_n1lt, Nat.add_zero, Nat.zero_add, q_nT, q_nF, ↓reduceIte, bd0_s, bd1_s, bd2_s, bd3_s, bd4_s, bd5_s, bd6_s, bd7_s, bd8_s, bd9_s, lt_s_, qL0, qL1, qL2, qL3, qL4, qL5, qL6, qL7, qL8, qL9, qL10, qL11, qL12, qL13, qL14, qL15, qL16, qL17, qL21, qL25, qL26, qL31, qL33, qL40, qL43, qL45, qL48, qL49, qL57, qL58, qL59, qL60, qL61, qL65, qL90, qL97, qL98, qL99, qL118, qL119, qL126, qL240, qL261, qL501, qL999, qL1000, qL1002, qL2505, qL3006, qL999999, qL1000000, f6_takes, f6_takes_j21, h2]
theorem six_case {n : Nat} {T : NF} {mT : Nat → Int32} (G : cT_ n T mT) {p u pl : Nat} (hp : p ≤ n) (hu : 3 * u + pl < 24) (D : Nat → Int32) :
    (p + 6 ≤ n ∧ (∀ i, i < 6 → dgt (T (p + i))) ∧ f6_isSix (nI n) (nI p) (nI u) mT D (nI pl) = some (nI 1, nI (p + 6), upd D (3 * u + pl) (nI (vl T p 6)))) ∨
    ∃ d, d < 6 ∧ p + d ≤ n ∧ (∀ i, i < d → dgt (T (p + i))) ∧ (p + d = n ∨ ¬ dgt (T (p + d))) ∧ f6_isSix (nI n) (nI p) (nI u) mT D (nI pl) = some (nI 0, nI (p + d), D) := by
  have h1 := G.1
  have step : ∀ i t, i < 6 → p + i < n → (∀ j, j < i + 1 → dgt (T (p + j))) → f6_isSix_l4 (nI n) (nI u) mT (nI pl) (t + 1) (nI (vl T p i)) (nI i) (nI (p + i)) D = f6_isSix_l4 (nI n) (nI u) mT (nI pl) t (nI (vl T p (i + 1))) (nI (i + 1)) (nI (p + (i + 1))) D := fun i t hi hn hd => by
    have h2 := hd i (by omega)
    have h3 := s6_sees_t G hn (lo := 48) (hi := 57) (by decide) h2
    have h4 := (G.2 _ hn).1
    have h5 : vl T p i < 1000000 := Nat.lt_of_lt_of_le (vl_lt fun j hj => hd j (by omega)) (Nat.pow_le_pow_right (by decide) (show i ≤ 6 by omega))
    unfold dgt at h2
    rw [f6_isSix_l4, vl]
    simp (disch := omega) only [q_inb, q_isZ0, q_isZ1, q_leT, q_leF, q_ltT, q_ltF, q_eqT, q_eqF, nI_leI, nI_ltI, nI_eq, nI_add, pk_mul, q_sub, pk_sub, q_mod, pk_div, nI_clamp, q_not, q_m1, q_z1, q_n1lt, Nat.add_zero, Nat.zero_add, q_nT, q_nF, ↓reduceIte, bd0_s, bd1_s, bd2_s, bd3_s, bd4_s, bd5_s, bd6_s, bd7_s, bd8_s, bd9_s, lt_s_, qL0, qL1, qL2, qL3, qL4, qL5, qL6, qL7, qL8, qL9, qL10, qL11, qL12, qL13, qL14, qL15, qL16, qL17, qL21, qL25, qL26, qL31, qL33, qL40, qL43, qL45, qL48, qL49, qL57, qL58, qL59, qL60, qL61, qL65, qL90, qL97, qL98, qL99, qL118, qL119, qL126, qL240, qL261, qL501, qL999, qL1000, qL1002, qL2505, qL3006, qL999999, qL1000000, h3, h4]
    rw [show 10 * vl T p i + T (p + i) - 48 = vl T p i * 10 + (T (p + i) - 48) by omega]
    rfl
  have dec : ∀ i, Decidable (n ≤ p + i ∨ ¬ dgt (T (p + i))) := fun i => inferInstance
  by_cases hx : ∃ i, i < 6 ∧ (n ≤ p + i ∨ ¬ dgt (T (p + i)))
  · obtain ⟨d, d1, d2, d3⟩ := fb_first hx
    have d4 : ∀ i, i < d → p + i < n ∧ dgt (T (p + i)) := fun i hi => by
      have := d3 i hi
      exact ⟨Nat.lt_of_not_le fun q => this (Or.inl q), Classical.not_not.mp fun q => this (Or.inr q)⟩
    have d5 : p + d ≤ n := by
      by_cases z : d = 0
      · omega
      · have := (d4 (d - 1) (by omega)).1; omega
    refine Or.inr ⟨d, d1, d5, fun i hi => (d4 i hi).2, by rcases d2 with q | q; exact Or.inl (by omega); exact Or.inr q, ?_⟩
    obtain ⟨t, ht⟩ := traj0 (fun i t => f6_isSix_l4 (nI n) (nI u) mT (nI pl) t (nI (vl T p i)) (nI i) (nI (p + i)) D) d (by omega) (fun i t hi => step i t (by omega) (d4 i hi).1 fun j hj => (d4 j (by omega)).2)
    have h3 := s6_sees_f G d5 (lo := 48) (hi := 57) (by decide) (by decide) (by rcases d2 with q | q; exact Or.inl (by omega); exact Or.inr q)
    unfold f6_isSix
    refine Eq.trans ht ?_
    rw [f6_isSix_l4]
    simp (disch := omega) only [q_inb, q_isZ0, q_isZ1, q_leT, q_leF, q_ltT, q_ltF, q_eqT, q_eqF, nI_leI, nI_ltI, nI_eq, nI_add, pk_mul, q_sub, pk_sub, q_mod, pk_div, nI_clamp, q_not, q_m1, q_z1, q_n1lt, Nat.add_zero, Nat.zero_add, q_nT, q_nF, ↓reduceIte, bd0_s, bd1_s, bd2_s, bd3_s, bd4_s, bd5_s, bd6_s, bd7_s, bd8_s, bd9_s, lt_s_, qL0, qL1, qL2, qL3, qL4, qL5, qL6, qL7, qL8, qL9, qL10, qL11, qL12, qL13, qL14, qL15, qL16, qL17, qL21, qL25, qL26, qL31, qL33, qL40, qL43, qL45, qL48, qL49, qL57, qL58, qL59, qL60, qL61, qL65, qL90, qL97, qL98, qL99, qL118, qL119, qL126, qL240, qL261, qL501, qL999, qL1000, qL1002, qL2505, qL3006, qL999999, qL1000000, h3]
  · have d4 : ∀ i, i < 6 → p + i < n ∧ dgt (T (p + i)) := fun i hi => ⟨Nat.lt_of_not_le fun q => hx ⟨i, hi, Or.inl q⟩, Classical.not_not.mp fun q => hx ⟨i, hi, Or.inr q⟩⟩
    refine Or.inl ⟨by have := (d4 5 (by decide)).1; omega, fun i hi => (d4 i hi).2, ?_⟩
    obtain ⟨t, ht⟩ := traj0 (fun i t => f6_isSix_l4 (nI n) (nI u) mT (nI pl) t (nI (vl T p i)) (nI i) (nI (p + i)) D) 6 (by omega) (fun i t hi => step i t hi (d4 i hi).1 fun j hj => (d4 j (by omega)).2)
    unfold f6_isSix
    refine Eq.trans ht ?_
    rw [f6_isSix_l4]
    simp (disch := omega) only [q_inb, q_isZ0, q_isZ1, q_leT, q_leF, q_ltT, q_ltF, q_eqT, q_eqF, nI_leI, nI_ltI, nI_eq, nI_add, pk_mul, q_sub, pk_sub, q_mod, pk_div, nI_clamp, q_not, q_m1, q_z1, q_n1lt, Nat.add_zero, Nat.zero_add, q_nT, q_nF, ↓reduceIte, bd0_s, bd1_s, bd2_s, bd3_s, bd4_s, bd5_s, bd6_s, bd7_s, bd8_s, bd9_s, lt_s_, qL0, qL1, qL2, qL3, qL4, qL5, qL6, qL7, qL8, qL9, qL10, qL11, qL12, qL13, qL14, qL15, qL16, qL17, qL21, qL25, qL26, qL31, qL33, qL40, qL43, qL45, qL48, qL49, qL57, qL58, qL59, qL60, qL61, qL65, qL90, qL97, qL98, qL99, qL118, qL119, qL126, qL240, qL261, qL501, qL999, qL1000, qL1002, qL2505, qL3006, qL999999, qL1000000]
theorem vl_up {T : NF} {p : Nat} (h1 : 1 ≤ vl T p 1) : ∀ k, 10 ^ k ≤ vl T p (k + 1)
  | 0 => h1
  | k + 1 => by
    have := vl_up h1 k
    rw [vl, Nat.pow_succ]
    omega
theorem number_case {n : Nat} {T : NF} {mT : Nat → Int32} (G : cT_ n T mT) {p u most : Nat} (hp : p ≤ n) (hu : 3 * u + 2 < 24) (hm1 : 9 ≤ most) (hm2 : most ≤ 999) (D : Nat → Int32) :
    ((p = n ∨ ¬ (49 ≤ T p ∧ T p ≤ 57)) ∧ f6_isNumber (nI n) (nI p) (nI u) mT D (nI most) = some (nI 0, nI p, D)) ∨
    ∃ k, 1 ≤ k ∧ k ≤ 3 ∧ p + k ≤ n ∧ (∀ i, i < k → dgt (T (p + i)) ∧ 1 ≤ vl T p (i + 1) ∧ vl T p (i + 1) ≤ most) ∧ (p + k = n ∨ ¬ dgt (T (p + k)) ∨ most < vl T p (k + 1)) ∧ f6_isNumber (nI n) (nI p) (nI u) mT D (nI most) = some (nI 1, nI (p + k), upd D (3 * u + 2) (nI (vl T p k))) := by
  have h1 := G.1
  by_cases hf : p < n ∧ 49 ≤ T p ∧ T p ≤ 57
  · obtain ⟨f1, f2, f3⟩ := hf
    have dec : ∀ i, Decidable (n ≤ p + i ∨ ¬ dgt (T (p + i)) ∨ most < vl T p (i + 1)) := fun i => inferInstance
    have hx : ∃ i, i < 61 ∧ (n ≤ p + i ∨ ¬ dgt (T (p + i)) ∨ most < vl T p (i + 1)) := ⟨60, by decide, Or.inl (by omega)⟩
    obtain ⟨k, k1, k2, k3⟩ := fb_first hx
    have k4 : ∀ i, i < k → p + i < n ∧ dgt (T (p + i)) ∧ vl T p (i + 1) ≤ most := fun i hi => by
      have := k3 i hi
      exact ⟨Nat.lt_of_not_le fun q => this (Or.inl q), Classical.not_not.mp fun q => this (Or.inr (Or.inl q)), Nat.le_of_not_lt fun q => this (Or.inr (Or.inr q))⟩
    have v1 : vl T p 1 = T p - 48 := by
      rw [vl, vl]
      show 0 * 10 + (T (p + 0) - 48) = _
      rw [Nat.add_zero]
      omega
    have v2 : 1 ≤ vl T p 1 := by omega
    have k0 : 1 ≤ k := by
      refine Nat.pos_of_ne_zero fun q => ?_
      subst q
      rw [Nat.add_zero, Nat.zero_add, v1] at k2
      unfold dgt at k2
      omega
    have k5 : ∀ i, 1 ≤ vl T p (i + 1) := fun i => Nat.le_trans (Nat.one_le_two_pow (n := 0)) (Nat.le_trans (by show 1 ≤ 10 ^ i; exact Nat.one_le_pow _ _ (by decide)) (vl_up v2 i))
    have k6 : k ≤ 3 := by
      refine Nat.le_of_not_lt fun q => ?_
      have h2 := vl_up v2 3
      have h3 := (k4 3 q).2.2
      have : (10 : Nat) ^ 3 = 1000 := by decide
      omega
    have hle : ∀ i, i ≤ k → vl T p i ≤ 999 := fun i hi => by
      by_cases z : i = 0
      · subst z; rw [vl]; omega
      · have := (k4 (i - 1) (by omega)).2.2
        rw [show i - 1 + 1 = i by omega] at this
        omega
    refine Or.inr ⟨k, k0, k6, by have := (k4 (k - 1) (by omega)).1; omega, fun i hi => ⟨(k4 i hi).2.1, k5 i, (k4 i hi).2.2⟩, ?_, ?_⟩
    · have := (k4 (k - 1) (by omega)).1
      rcases k2 with q | q
      · exact Or.inl (by omega)
      · exact Or.inr q
    · obtain ⟨t, ht⟩ := traj0 (fun i t => f6_isNumber_l15 (nI n) (nI u) mT (nI most) t (nI (vl T p i)) (nI (p + i)) D) k (by omega) (fun i t hi => by
        obtain ⟨q1, q2, q3⟩ := k4 i hi
        have h3 := s6_sees_t G q1 (lo := 48) (hi := 57) (by decide) q2
        have h4 := (G.2 _ q1).1
        have h5 := hle i (by omega)
        unfold dgt at q2
        rw [vl] at q3
        rw [f6_isNumber_l15, vl]
        simp (disch := omega) only [q_inb, q_isZ0, q_isZ1, q_leT, q_leF, q_ltT, q_ltF, q_eqT, q_eqF, nI_leI, nI_ltI, nI_eq, nI_add, pk_mul, q_sub, pk_sub, q_mod, pk_div, nI_clamp, q_not, q_m1, q_z1, q_n1lt, Nat.add_zero, Nat.zero_add, q_nT, q_nF, ↓reduceIte, bd0_s, bd1_s, bd2_s, bd3_s, bd4_s, bd5_s, bd6_s, bd7_s, bd8_s, bd9_s, lt_s_, qL0, qL1, qL2, qL3, qL4, qL5, qL6, qL7, qL8, qL9, qL10, qL11, qL12, qL13, qL14, qL15, qL16, qL17, qL21, qL25, qL26, qL31, qL33, qL40, qL43, qL45, qL48, qL49, qL57, qL58, qL59, qL60, qL61, qL65, qL90, qL97, qL98, qL99, qL118, qL119, qL126, qL240, qL261, qL501, qL999, qL1000, qL1002, qL2505, qL3006, qL999999, qL1000000, h3, h4]
        rw [show 10 * vl T p i + T (p + i) - 48 = vl T p i * 10 + (T (p + i) - 48) by omega]
        rfl)
      have h2 := s6_sees_t G f1 (lo := 49) (hi := 57) (by decide) ⟨f2, f3⟩
      have e : f6_isNumber (nI n) (nI p) (nI u) mT D (nI most) = f6_isNumber_l15 (nI n) (nI u) mT (nI most) fu (nI (vl T p 0)) (nI (p + 0)) D := by
        unfold f6_isNumber
        rw [show (49 : Int32) = nI 49 from rfl, show (57 : Int32) = nI 57 from rfl, h2, bd1_s, if_neg (by decide)]
        rfl
      rw [e]
      refine Eq.trans ht ?_
      rw [f6_isNumber_l15]
      have h5 := hle k (Nat.le_refl k)
      by_cases c1 : n ≤ p + k ∨ ¬ dgt (T (p + k))
      · have h3 := s6_sees_f G (q := p + k) (by have := (k4 (k - 1) (by omega)).1; omega) (lo := 48) (hi := 57) (by decide) (by decide) (by
          rcases c1 with q | q
          · exact Or.inl (by have := (k4 (k - 1) (by omega)).1; omega)
          · exact Or.inr q)
        simp (disch := omega) only [q_inb, q_isZ0, q_isZ1, q_leT, q_leF, q_ltT, q_ltF, q_eqT, q_eqF, nI_leI, nI_ltI, nI_eq, nI_add, pk_mul, q_sub, pk_sub, q_mod, pk_div, nI_clamp, q_not, q_m1, q_z1, q_n1lt, Nat.add_zero, Nat.zero_add, q_nT, q_nF, ↓reduceIte, bd0_s, bd1_s, bd2_s, bd3_s, bd4_s, bd5_s, bd6_s, bd7_s, bd8_s, bd9_s, lt_s_, qL0, qL1, qL2, qL3, qL4, qL5, qL6, qL7, qL8, qL9, qL10, qL11, qL12, qL13, qL14, qL15, qL16, qL17, qL21, qL25, qL26, qL31, qL33, qL40, qL43, qL45, qL48, qL49, qL57, qL58, qL59, qL60, qL61, qL65, qL90, qL97, qL98, qL99, qL118, qL119, qL126, qL240, qL261, qL501, qL999, qL1000, qL1002, qL2505, qL3006, qL999999, qL1000000, h3, f6_isNumber_j78]
      · have c2 : p + k < n := Nat.lt_of_not_le fun q => c1 (Or.inl q)
        have c3 : dgt (T (p + k)) := Classical.not_not.mp fun q => c1 (Or.inr q)
        have c4 : most < vl T p (k + 1) := by
          rcases k2 with q | q | q
          · exact absurd (Or.inl q) c1
          · exact absurd c3 q
          · exact q
        have h3 := s6_sees_t G c2 (lo := 48) (hi := 57) (by decide) c3
        have h4 := (G.2 _ c2).1
        unfold dgt at c3
        rw [vl] at c4
        simp (disch := omega) only [q_inb, q_isZ0, q_isZ1, q_leT, q_leF, q_ltT, q_ltF, q_eqT, q_eqF, nI_leI, nI_ltI, nI_eq, nI_add, pk_mul, q_sub, pk_sub, q_mod, pk_div, nI_clamp, q_not, q_m1, q_z1, q_n1lt, Nat.add_zero, Nat.zero_add, q_nT, q_nF, ↓reduceIte, bd0_s, bd1_s, bd2_s, bd3_s, bd4_s, bd5_s, bd6_s, bd7_s, bd8_s, bd9_s, lt_s_, qL0, qL1, qL2, qL3, qL4, qL5, qL6, qL7, qL8, qL9, qL10, qL11, qL12, qL13, qL14, qL15, qL16, qL17, qL21, qL25, qL26, qL31, qL33, qL40, qL43, qL45, qL48, qL49, qL57, qL58, qL59, qL60, qL61, qL65, qL90, qL97, qL98, qL99, qL118, qL119, qL126, qL240, qL261, qL501, qL999, qL1000, qL1002, qL2505, qL3006, qL999999, qL1000000, h3, h4, f6_isNumber_j78]
  · refine Or.inl ⟨by omega, ?_⟩
    have h3 := s6_sees_f G hp (lo := 49) (hi := 57) (by decide) (by decide) (by omega)
    simp (disch := omega) only [q_inb, q_isZ0, q_isZ1, q_leT, q_leF, q_ltT, q_ltF, q_eqT, q_eqF, nI_leI, nI_ltI, nI_eq, nI_add, pk_mul, q_sub, pk_sub, q_mod, pk_div, nI_clamp, q_not, q_m1, q_z1, q_n1lt, Nat.add_zero, Nat.zero_add, q_nT, q_nF, ↓reduceIte, bd0_s, bd1_s, bd2_s, bd3_s, bd4_s, bd5_s, bd6_s, bd7_s, bd8_s, bd9_s, lt_s_, qL0, qL1, qL2, qL3, qL4, qL5, qL6, qL7, qL8, qL9, qL10, qL11, qL12, qL13, qL14, qL15, qL16, qL17, qL21, qL25, qL26, qL31, qL33, qL40, qL43, qL45, qL48, qL49, qL57, qL58, qL59, qL60, qL61, qL65, qL90, qL97, qL98, qL99, qL118, qL119, qL126, qL240, qL261, qL501, qL999, qL1000, qL1002, qL2505, qL3006, qL999999, qL1000000, f6_isNumber, h3]
