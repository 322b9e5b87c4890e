
/-! ===== pure rows: the letter of a serial; slips ===== -/
theorem s6_digit {s p : Nat} (hs : s < 1000000) (hp : p < 6) : f6_digit (nI s) (nI p) = some (nI (dg s p)) := by
  rcases (show p = 0 ∨ p = 1 ∨ p = 2 ∨ p = 3 ∨ p = 4 ∨ p = 5 by omega) with rfl | rfl | rfl | rfl | rfl | rfl <;>
    (simp (disch := omega) only [q_inb, q_isZ0, q_isZ1, q_leT, q_leF, q_ltT, q_ltF, q_eqT, q_eqF, nI_leI, nI_ltI, nI_eq, nI_add, pk_mul, q_sub, pk_sub, q_mod, pk_div, nI_clamp, q_not, q_m1, q_z1, q_n1lt, Nat.add_zero, Nat.zero_add, q_nT, q_nF, ↓reduceIte, bd0_s, bd1_s, bd2_s, bd3_s, bd4_s, bd5_s, bd6_s, bd7_s, bd8_s, bd9_s, lt_s_, qL0, qL1, qL2, qL3, qL4, qL5, qL6, qL7, qL8, qL9, qL10, qL11, qL12, qL13, qL14, qL15, qL16, qL17, qL21, qL25, qL26, qL31, qL33, qL40, qL43, qL45, qL48, qL49, qL57, qL58, qL59, qL60, qL61, qL65, qL90, qL97, qL98, qL99, qL118, qL119, qL126, qL240, qL261, qL501, qL999, qL1000, qL1002, qL2505, qL3006, qL999999, qL1000000, f6_digit, f6_digit_l4]
     simp only [dg, Nat.reduceSub, Nat.reducePow]
     try (congr 2; omega))
/-- the index of a serial's letter -/
def lts (W : NF) (s : Nat) : Nat := fb_sm (fun p => W p * dg s p) 6
def ltr (m : Nat) (W : NF) (s : Nat) : Nat := lts W s % m
theorem wd_le {m : Nat} {W : NF} (Hw : wW_ m W) {s p : Nat} (hp : p < 6) : W p * dg s p ≤ 81 := Nat.mul_le_mul (Hw.2.2 p hp).2 (dg_le s p)
theorem lts_le {m : Nat} {W : NF} (Hw : wW_ m W) (s : Nat) {i : Nat} (hi : i ≤ 6) : fb_sm (fun p => W p * dg s p) i ≤ 486 := by
  have := fb_sm_bound (f := fun p => W p * dg s p) (c := 81) (n := i) (fun p hp => wd_le Hw (by omega))
  omega
theorem ltr_lt {m : Nat} {W : NF} (Hw : wW_ m W) (s : Nat) : ltr m W s < m := Nat.mod_lt _ (by have := Hw.1; omega)
theorem s2_letterOf {m : Nat} {W : NF} {wm : Int32} {wW : Nat → Int32} (Hw : wW_ m W) (H : cW_ m W wm wW) {s : Nat} (hs : s < 1000000) : f2_letterOf wm wW (nI s) = some (nI (ltr m W s)) := by
  have hm1 := Hw.1
  have hm2 := Hw.2.1
  have hx : ∀ i, i < 6 → nI 5 - nI i + (-1) = nI 5 - nI (i + 1) := by decide
  have hd : ∀ k, k < 6 → dg s (5 - k) = s / 10 ^ k % 10 := fun k hk => by
    unfold dg
    rw [show 5 - (5 - k) = k by omega]
  have hS : ∀ i, i ≤ 6 → fb_sm (fun k => W (5 - k) * dg s (5 - k)) i ≤ 486 := fun i hi => by
    have := fb_sm_bound (f := fun k => W (5 - k) * dg s (5 - k)) (c := 81) (n := i) (fun p hp => wd_le Hw (by omega))
    omega
  obtain ⟨t, ht⟩ := traj0 (fun i t => f2_letterOf_l7 (nI m) wW t (nI (fb_sm (fun k => W (5 - k) * dg s (5 - k)) i)) (nI (s / 10 ^ i)) (nI 5 - nI i)) 6 (by decide) (fun i t hi => by
    have h1 : s / 10 ^ i < 1000000 := Nat.lt_of_le_of_lt (Nat.div_le_self _ _) hs
    have h2 : s / 10 ^ (i + 1) = s / 10 ^ i / 10 := by rw [Nat.pow_succ, Nat.div_div_eq_div_mul]
    have h3 := hd i hi
    have h4 := hS i (by omega)
    have h5 := wd_le Hw (s := s) (show 5 - i < 6 by omega)
    rw [f2_letterOf_l7, hx i hi, fb_sm_succ, h2]
    generalize hq : nI 5 - nI (i + 1) = q
    rw [pk_sub (show i ≤ 5 by omega)]
    generalize fb_sm (fun k => W (5 - k) * dg s (5 - k)) i = c at h4 ⊢
    generalize s / 10 ^ i = f at h1 h3 ⊢
    simp (disch := omega) only [q_inb, q_isZ0, q_isZ1, q_leT, q_leF, q_ltT, q_ltF, q_eqT, q_eqF, nI_leI, nI_ltI, nI_eq, nI_add, pk_mul, q_sub, pk_sub, q_mod, pk_div, nI_clamp, q_not, q_m1, q_z1, q_n1lt, Nat.add_zero, Nat.zero_add, q_nT, q_nF, ↓reduceIte, bd0_s, bd1_s, bd2_s, bd3_s, bd4_s, bd5_s, bd6_s, bd7_s, bd8_s, bd9_s, lt_s_, qL0, qL1, qL2, qL3, qL4, qL5, qL6, qL7, qL8, qL9, qL10, qL11, qL12, qL13, qL14, qL15, qL16, qL17, qL21, qL25, qL26, qL31, qL33, qL40, qL43, qL45, qL48, qL49, qL57, qL58, qL59, qL60, qL61, qL65, qL90, qL97, qL98, qL99, qL118, qL119, qL126, qL240, qL261, qL501, qL999, qL1000, qL1002, qL2505, qL3006, qL999999, qL1000000, s2_weightAt H, ← h3])
  have h7 : f2_letterOf wm wW (nI s) = f2_letterOf_l7 wm wW fu (nI (fb_sm (fun k => W (5 - k) * dg s (5 - k)) 0)) (nI (s / 10 ^ 0)) (nI 5 - nI 0) := by
    rw [Nat.pow_zero, Nat.div_one]
    rfl
  rw [h7, H.1]
  refine Eq.trans ht ?_
  have h8 := hS 6 (Nat.le_refl 6)
  have e : fb_sm (fun k => W (5 - k) * dg s (5 - k)) 6 = lts W s := by
    simp only [lts, fb_sm, Nat.reduceSub]
    omega
  rw [f2_letterOf_l7, if_pos (by decide)]
  rw [e] at h8 ⊢
  rw [s2_restOf hm1 hm2 (by omega)]
  rfl
theorem s6_letterOf {m : Nat} {W : NF} {g : Nat → Int32} (Hw : wW_ m W) (H : mW_ m W g) {s : Nat} (hs : s < 1000000) : f6_letterOf g (nI s) = some (nI (ltr m W s)) := by
  have hm1 := Hw.1
  have hm2 := Hw.2.1
  obtain ⟨t, ht⟩ := traj0 (fun i t => f6_letterOf_l4 g (nI s) t (nI (fb_sm (fun p => W p * dg s p) i)) (nI i)) 6 (by decide) (fun p t hp => by
    rw [f6_letterOf_l4, fb_sm_succ]
    simp (disch := omega) only [q_inb, q_isZ0, q_isZ1, q_leT, q_leF, q_ltT, q_ltF, q_eqT, q_eqF, nI_leI, nI_ltI, nI_eq, nI_add, pk_mul, q_sub, pk_sub, q_mod, pk_div, nI_clamp, q_not, q_m1, q_z1, q_n1lt, Nat.add_zero, Nat.zero_add, q_nT, q_nF, ↓reduceIte, bd0_s, bd1_s, bd2_s, bd3_s, bd4_s, bd5_s, bd6_s, bd7_s, bd8_s, bd9_s, lt_s_, qL0, qL1, qL2, qL3, qL4, qL5, qL6, qL7, qL8, qL9, qL10, qL11, qL12, qL13, qL14, qL15, qL16, qL17, qL21, qL25, qL26, qL31, qL33, qL40, qL43, qL45, qL48, qL49, qL57, qL58, qL59, qL60, qL61, qL65, qL90, qL97, qL98, qL99, qL118, qL119, qL126, qL240, qL261, qL501, qL999, qL1000, qL1002, qL2505, qL3006, qL999999, qL1000000, e_m3 H, s6_digit hs hp])
  have h1 := lts_le Hw s (Nat.le_refl 6)
  unfold f6_letterOf
  refine Eq.trans ht ?_
  rw [f6_letterOf_l4]
  simp (disch := omega) only [q_inb, q_isZ0, q_isZ1, q_leT, q_leF, q_ltT, q_ltF, q_eqT, q_eqF, nI_leI, nI_ltI, nI_eq, nI_add, pk_mul, q_sub, pk_sub, q_mod, pk_div, nI_clamp, q_not, q_m1, q_z1, q_n1lt, Nat.add_zero, Nat.zero_add, q_nT, q_nF, ↓reduceIte, bd0_s, bd1_s, bd2_s, bd3_s, bd4_s, bd5_s, bd6_s, bd7_s, bd8_s, bd9_s, lt_s_, qL0, qL1, qL2, qL3, qL4, qL5, qL6, qL7, qL8, qL9, qL10, qL11, qL12, qL13, qL14, qL15, qL16, qL17, qL21, qL25, qL26, qL31, qL33, qL40, qL43, qL45, qL48, qL49, qL57, qL58, qL59, qL60, qL61, qL65, qL90, qL97, qL98, qL99, qL118, qL119, qL126, qL240, qL261, qL501, qL999, qL1000, qL1002, qL2505, qL3006, qL999999, qL1000000, show g 1 = nI m from H.1]
  rfl
/-- the slips of a digit of s that stay hidden, at a position p, for another digit j -/
def hm (m : Nat) (W : NF) (s p j : Nat) : Nat := if j ≠ dg s p ∧ W p * df j (dg s p) % m = 0 then 1 else 0
def hms (m : Nat) (W : NF) (s : Nat) : Nat := fb_sm (fun p => fb_sm (hm m W s p) 10) 6
theorem hm_le (m : Nat) (W : NF) (s p j : Nat) : hm m W s p j ≤ 1 := by unfold hm; split <;> omega
theorem hm_part (m : Nat) (W : NF) (s p : Nat) {i : Nat} (hi : i ≤ 10) : fb_sm (hm m W s p) i ≤ 10 := by
  have := fb_sm_bound (f := hm m W s p) (c := 1) (n := i) (fun k _ => hm_le m W s p k)
  omega
theorem hms_part (m : Nat) (W : NF) (s : Nat) {i : Nat} (hi : i ≤ 6) : fb_sm (fun p => fb_sm (hm m W s p) 10) i ≤ 60 := by
  have := fb_sm_bound (f := fun p => fb_sm (hm m W s p) 10) (c := 10) (n := i) (fun k _ => hm_part m W s k (Nat.le_refl 10))
  omega
theorem s2_factorAt0 {m : Nat} {W : NF} {wm : Int32} {wW : Nat → Int32} (H : cW_ m W wm wW) {p : Nat} (hp : p < 6) : f2_factorAt wW (nI p) (nI 0) = some (nI (W p)) := by
  simp (disch := omega) only [q_inb, q_isZ0, q_isZ1, q_leT, q_leF, q_ltT, q_ltF, q_eqT, q_eqF, nI_leI, nI_ltI, nI_eq, nI_add, pk_mul, q_sub, pk_sub, q_mod, pk_div, nI_clamp, q_not, q_m1, q_z1, q_n1lt, Nat.add_zero, Nat.zero_add, q_nT, q_nF, ↓reduceIte, bd0_s, bd1_s, bd2_s, bd3_s, bd4_s, bd5_s, bd6_s, bd7_s, bd8_s, bd9_s, lt_s_, qL0, qL1, qL2, qL3, qL4, qL5, qL6, qL7, qL8, qL9, qL10, qL11, qL12, qL13, qL14, qL15, qL16, qL17, qL21, qL25, qL26, qL31, qL33, qL40, qL43, qL45, qL48, qL49, qL57, qL58, qL59, qL60, qL61, qL65, qL90, qL97, qL98, qL99, qL118, qL119, qL126, qL240, qL261, qL501, qL999, qL1000, qL1002, qL2505, qL3006, qL999999, qL1000000, f2_factorAt, s2_weightAt H hp]
theorem s2_factorAt1 {m : Nat} {W : NF} {wm : Int32} {wW : Nat → Int32} (H : cW_ m W wm wW) {p : Nat} (hp : p < 5) : f2_factorAt wW (nI p) (nI 1) = some (nI (W p) - nI (W (p + 1))) := by
  have h1 := s2_weightAt H (show p < 6 by omega)
  have h2 := s2_weightAt H (show p + 1 < 6 by omega)
  unfold f2_factorAt
  rw [h1, bd1_s, if_pos (show nI 1 = (1 : Int32) from rfl), show nI p + (1 : Int32) = nI (p + 1) from nI_1 p, h2, bd1_s]
theorem s2_hiddenMisreadings {m : Nat} {W : NF} {wm : Int32} {wW : Nat → Int32} (Hw : wW_ m W) (H : cW_ m W wm wW) {s : Nat} (hs : s < 1000000) : f2_hiddenMisreadings wm wW (nI s) = some (nI (hms m W s)) := by
  obtain rfl := H.1
  obtain ⟨t, ht⟩ := traj0 (fun i t => f2_hiddenMisreadings_l4 (nI m) wW (nI s) t (nI (fb_sm (fun p => fb_sm (hm m W s p) 10) i)) (nI i)) 6 (by decide) (fun p t hp => by
    have h4 := hms_part m W s (show p ≤ 6 by omega)
    rw [f2_hiddenMisreadings_l4, fb_sm_succ]
    generalize fb_sm (fun p => fb_sm (hm m W s p) 10) p = c at h4 ⊢
    have h5 := s2_digitAt hs hp
    have h6 := s2_factorAt0 H hp
    have h7 := dg_le s p
    have hWp := (Hw.2.2 p hp).2
    simp (disch := omega) only [q_inb, q_isZ0, q_isZ1, q_leT, q_leF, q_ltT, q_ltF, q_eqT, q_eqF, nI_leI, nI_ltI, nI_eq, nI_add, pk_mul, q_sub, pk_sub, q_mod, pk_div, nI_clamp, q_not, q_m1, q_z1, q_n1lt, Nat.add_zero, Nat.zero_add, q_nT, q_nF, ↓reduceIte, bd0_s, bd1_s, bd2_s, bd3_s, bd4_s, bd5_s, bd6_s, bd7_s, bd8_s, bd9_s, lt_s_, qL0, qL1, qL2, qL3, qL4, qL5, qL6, qL7, qL8, qL9, qL10, qL11, qL12, qL13, qL14, qL15, qL16, qL17, qL21, qL25, qL26, qL31, qL33, qL40, qL43, qL45, qL48, qL49, qL57, qL58, qL59, qL60, qL61, qL65, qL90, qL97, qL98, qL99, qL118, qL119, qL126, qL240, qL261, qL501, qL999, qL1000, qL1002, qL2505, qL3006, qL999999, qL1000000, h5, h6]
    generalize f2_hiddenMisreadings_l4 (nI m) wW (nI s) t = k4
    obtain ⟨t2, ht2⟩ := traj0 (fun j t => f2_hiddenMisreadings_l28 k4 (nI m) wW (nI s) (nI p) (nI (dg s p)) (nI (W p)) t (nI (c + fb_sm (hm m W s p) j)) (nI j)) 10 (by decide) (fun j t hj => by
      have h8 := hm_part m W s p (show j ≤ 10 by omega)
      rw [f2_hiddenMisreadings_l28, fb_sm_succ]
      by_cases hd : j = dg s p
      · have h9 : hm m W s p j = 0 := if_neg fun q => q.1 hd
        rw [h9]
        simp (disch := omega) only [q_inb, q_isZ0, q_isZ1, q_leT, q_leF, q_ltT, q_ltF, q_eqT, q_eqF, nI_leI, nI_ltI, nI_eq, nI_add, pk_mul, q_sub, pk_sub, q_mod, pk_div, nI_clamp, q_not, q_m1, q_z1, q_n1lt, Nat.add_zero, Nat.zero_add, q_nT, q_nF, ↓reduceIte, bd0_s, bd1_s, bd2_s, bd3_s, bd4_s, bd5_s, bd6_s, bd7_s, bd8_s, bd9_s, lt_s_, qL0, qL1, qL2, qL3, qL4, qL5, qL6, qL7, qL8, qL9, qL10, qL11, qL12, qL13, qL14, qL15, qL16, qL17, qL21, qL25, qL26, qL31, qL33, qL40, qL43, qL45, qL48, qL49, qL57, qL58, qL59, qL60, qL61, qL65, qL90, qL97, qL98, qL99, qL118, qL119, qL126, qL240, qL261, qL501, qL999, qL1000, qL1002, qL2505, qL3006, qL999999, qL1000000, hd]
      · have h10 : W p * df j (dg s p) < 2 ^ 31 := Nat.lt_of_le_of_lt (Nat.mul_le_mul hWp (df_le (c := 9) (by omega) h7)) (by decide)
        have h11 := s2_isHidden Hw.1 Hw.2.1 (sg_p (W p)) (sg_sub j (dg s p)) h10
        by_cases h : W p * df j (dg s p) % m = 0
        · have h9 : hm m W s p j = 1 := if_pos ⟨hd, h⟩
          rw [bI_t h] at h11
          rw [h9, h11]
          simp (disch := omega) only [q_inb, q_isZ0, q_isZ1, q_leT, q_leF, q_ltT, q_ltF, q_eqT, q_eqF, nI_leI, nI_ltI, nI_eq, nI_add, pk_mul, q_sub, pk_sub, q_mod, pk_div, nI_clamp, q_not, q_m1, q_z1, q_n1lt, Nat.add_zero, Nat.zero_add, q_nT, q_nF, ↓reduceIte, bd0_s, bd1_s, bd2_s, bd3_s, bd4_s, bd5_s, bd6_s, bd7_s, bd8_s, bd9_s, lt_s_, qL0, qL1, qL2, qL3, qL4, qL5, qL6, qL7, qL8, qL9, qL10, qL11, qL12, qL13, qL14, qL15, qL16, qL17, qL21, qL25, qL26, qL31, qL33, qL40, qL43, qL45, qL48, qL49, qL57, qL58, qL59, qL60, qL61, qL65, qL90, qL97, qL98, qL99, qL118, qL119, qL126, qL240, qL261, qL501, qL999, qL1000, qL1002, qL2505, qL3006, qL999999, qL1000000]
          rw [Nat.add_assoc]
        · have h9 : hm m W s p j = 0 := if_neg fun q => h q.2
          rw [bI_f h] at h11
          rw [h9, h11]
          simp (disch := omega) only [q_inb, q_isZ0, q_isZ1, q_leT, q_leF, q_ltT, q_ltF, q_eqT, q_eqF, nI_leI, nI_ltI, nI_eq, nI_add, pk_mul, q_sub, pk_sub, q_mod, pk_div, nI_clamp, q_not, q_m1, q_z1, q_n1lt, Nat.add_zero, Nat.zero_add, q_nT, q_nF, ↓reduceIte, bd0_s, bd1_s, bd2_s, bd3_s, bd4_s, bd5_s, bd6_s, bd7_s, bd8_s, bd9_s, lt_s_, qL0, qL1, qL2, qL3, qL4, qL5, qL6, qL7, qL8, qL9, qL10, qL11, qL12, qL13, qL14, qL15, qL16, qL17, qL21, qL25, qL26, qL31, qL33, qL40, qL43, qL45, qL48, qL49, qL57, qL58, qL59, qL60, qL61, qL65, qL90, qL97, qL98, qL99, qL118, qL119, qL126, qL240, qL261, qL501, qL999, qL1000, qL1002, qL2505, qL3006, qL999999, qL1000000])
    refine Eq.trans ht2 ?_
    rw [f2_hiddenMisreadings_l28]
    simp (disch := omega) only [q_inb, q_isZ0, q_isZ1, q_leT, q_leF, q_ltT, q_ltF, q_eqT, q_eqF, nI_leI, nI_ltI, nI_eq, nI_add, pk_mul, q_sub, pk_sub, q_mod, pk_div, nI_clamp, q_not, q_m1, q_z1, q_n1lt, Nat.add_zero, Nat.zero_add, q_nT, q_nF, ↓reduceIte, bd0_s, bd1_s, bd2_s, bd3_s, bd4_s, bd5_s, bd6_s, bd7_s, bd8_s, bd9_s, lt_s_, qL0, qL1, qL2, qL3, qL4, qL5, qL6, qL7, qL8, qL9, qL10, qL11, qL12, qL13, qL14, qL15, qL16, qL17, qL21, qL25, qL26, qL31, qL33, qL40, qL43, qL45, qL48, qL49, qL57, qL58, qL59, qL60, qL61, qL65, qL90, qL97, qL98, qL99, qL118, qL119, qL126, qL240, qL261, qL501, qL999, qL1000, qL1002, qL2505, qL3006, qL999999, qL1000000])
  unfold f2_hiddenMisreadings
  refine Eq.trans ht ?_
  rw [f2_hiddenMisreadings_l4]
  simp (disch := omega) only [q_inb, q_isZ0, q_isZ1, q_leT, q_leF, q_ltT, q_ltF, q_eqT, q_eqF, nI_leI, nI_ltI, nI_eq, nI_add, pk_mul, q_sub, pk_sub, q_mod, pk_div, nI_clamp, q_not, q_m1, q_z1, q_n1lt, Nat.add_zero, Nat.zero_add, q_nT, q_nF, ↓reduceIte, bd0_s, bd1_s, bd2_s, bd3_s, bd4_s, bd5_s, bd6_s, bd7_s, bd8_s, bd9_s, lt_s_, qL0, qL1, qL2, qL3, qL4, qL5, qL6, qL7, qL8, qL9, qL10, qL11, qL12, qL13, qL14, qL15, qL16, qL17, qL21, qL25, qL26, qL31, qL33, qL40, qL43, qL45, qL48, qL49, qL57, qL58, qL59, qL60, qL61, qL65, qL90, qL97, qL98, qL99, qL118, qL119, qL126, qL240, qL261, qL501, qL999, qL1000, qL1002, qL2505, qL3006, qL999999, qL1000000]
  rfl
/-- a sum over rows and columns, told in one -/
theorem fb_sm_grid (f : Nat → Nat → Nat) (w : Nat) (hw : 0 < w) : ∀ n, fb_sm (fun k => f (k / w) (k % w)) (n * w) = fb_sm (fun p => fb_sm (f p) w) n
  | 0 => by rw [Nat.zero_mul]; rfl
  | n + 1 => by
    rw [Nat.succ_mul, fb_sm_split, fb_sm_grid f w hw n, fb_sm_succ]
    congr 1
    refine fb_sm_cong fun k hk => ?_
    have h1 : (n * w + k) / w = n := by rw [Nat.mul_comm, Nat.mul_add_div hw, Nat.div_eq_of_lt hk, Nat.add_zero]
    have h2 : (n * w + k) % w = k := by rw [Nat.mul_comm, Nat.mul_add_mod, Nat.mod_eq_of_lt hk]
    show f ((n * w + k) / w) ((n * w + k) % w) = f n k
    rw [h1, h2]
theorem s6_missedDigits {m : Nat} {W : NF} {g : Nat → Int32} (Hw : wW_ m W) (H : mW_ m W g) {s : Nat} (hs : s < 1000000) : f6_missedDigits g (nI s) = some (nI (hms m W s)) := by
  have hle : ∀ i, i ≤ 60 → fb_sm (fun k => hm m W s (k / 10) (k % 10)) i ≤ 60 := fun i hi => by
    have := fb_sm_bound (f := fun k => hm m W s (k / 10) (k % 10)) (c := 1) (n := i) (fun k _ => hm_le m W s _ _)
    omega
  obtain ⟨t, ht⟩ := traj0 (fun i t => f6_missedDigits_l4 g (nI s) t (nI (fb_sm (fun k => hm m W s (k / 10) (k % 10)) i)) (nI i)) 60 (by decide) (fun k t hk => by
    have h4 := hle k (by omega)
    rw [f6_missedDigits_l4, fb_sm_succ]
    generalize fb_sm (fun k => hm m W s (k / 10) (k % 10)) k = c at h4 ⊢
    have hp : k / 10 < 6 := by omega
    have h5 := s6_digit hs hp
    have h7 := dg_le s (k / 10)
    have hWp := (Hw.2.2 (k / 10) hp).2
    have h10 : W (k / 10) * df (k % 10) (dg s (k / 10)) < 2 ^ 31 := Nat.lt_of_le_of_lt (Nat.mul_le_mul hWp (df_le (c := 9) (by omega) h7)) (by decide)
    have h11 := s6_isLeft H Hw.1 Hw.2.1 (sg_p (W (k / 10))) (sg_sub (k % 10) (dg s (k / 10))) h10
    have h12 := sg_0 (sg_sub (k % 10) (dg s (k / 10))) (Nat.lt_of_le_of_lt (df_le (c := 9) (by omega) h7) (by decide))
    rw [df_0] at h12
    have h13 := e_m3 H hp
    have e1 : nI k / (10 : Int32) = nI (k / 10) := by simp (disch := omega) only [q_inb, q_isZ0, q_isZ1, q_leT, q_leF, q_ltT, q_ltF, q_eqT, q_eqF, nI_leI, nI_ltI, nI_eq, nI_add, pk_mul, q_sub, pk_sub, q_mod, pk_div, nI_clamp, q_not, q_m1, q_z1, q_n1lt, Nat.add_zero, Nat.zero_add, q_nT, q_nF, ↓reduceIte, bd0_s, bd1_s, bd2_s, bd3_s, bd4_s, bd5_s, bd6_s, bd7_s, bd8_s, bd9_s, lt_s_, qL0, qL1, qL2, qL3, qL4, qL5, qL6, qL7, qL8, qL9, qL10, qL11, qL12, qL13, qL14, qL15, qL16, qL17, qL21, qL25, qL26, qL31, qL33, qL40, qL43, qL45, qL48, qL49, qL57, qL58, qL59, qL60, qL61, qL65, qL90, qL97, qL98, qL99, qL118, qL119, qL126, qL240, qL261, qL501, qL999, qL1000, qL1002, qL2505, qL3006, qL999999, qL1000000]
    have e2 : nI k - nI (k / 10) * (10 : Int32) = nI (k % 10) := by simp (disch := omega) only [q_inb, q_isZ0, q_isZ1, q_leT, q_leF, q_ltT, q_ltF, q_eqT, q_eqF, nI_leI, nI_ltI, nI_eq, nI_add, pk_mul, q_sub, pk_sub, q_mod, pk_div, nI_clamp, q_not, q_m1, q_z1, q_n1lt, Nat.add_zero, Nat.zero_add, q_nT, q_nF, ↓reduceIte, bd0_s, bd1_s, bd2_s, bd3_s, bd4_s, bd5_s, bd6_s, bd7_s, bd8_s, bd9_s, lt_s_, qL0, qL1, qL2, qL3, qL4, qL5, qL6, qL7, qL8, qL9, qL10, qL11, qL12, qL13, qL14, qL15, qL16, qL17, qL21, qL25, qL26, qL31, qL33, qL40, qL43, qL45, qL48, qL49, qL57, qL58, qL59, qL60, qL61, qL65, qL90, qL97, qL98, qL99, qL118, qL119, qL126, qL240, qL261, qL501, qL999, qL1000, qL1002, qL2505, qL3006, qL999999, qL1000000]
    have e3 : (60 : Int32) ≤ nI k ↔ False := by
      rw [qL60, nI_leI (by decide) (by omega)]
      exact iff_false_intro (by omega)
    rw [if_neg e3.mp, e1, h5, bd1_s, e2]
    by_cases hd : k % 10 = dg s (k / 10)
    · have h9 : hm m W s (k / 10) (k % 10) = 0 := if_neg fun q => q.1 hd
      rw [h9, if_pos (h12.mpr hd)]
      simp (disch := omega) only [q_inb, q_isZ0, q_isZ1, q_leT, q_leF, q_ltT, q_ltF, q_eqT, q_eqF, nI_leI, nI_ltI, nI_eq, nI_add, pk_mul, q_sub, pk_sub, q_mod, pk_div, nI_clamp, q_not, q_m1, q_z1, q_n1lt, Nat.add_zero, Nat.zero_add, q_nT, q_nF, ↓reduceIte, bd0_s, bd1_s, bd2_s, bd3_s, bd4_s, bd5_s, bd6_s, bd7_s, bd8_s, bd9_s, lt_s_, qL0, qL1, qL2, qL3, qL4, qL5, qL6, qL7, qL8, qL9, qL10, qL11, qL12, qL13, qL14, qL15, qL16, qL17, qL21, qL25, qL26, qL31, qL33, qL40, qL43, qL45, qL48, qL49, qL57, qL58, qL59, qL60, qL61, qL65, qL90, qL97, qL98, qL99, qL118, qL119, qL126, qL240, qL261, qL501, qL999, qL1000, qL1002, qL2505, qL3006, qL999999, qL1000000, f6_missedDigits_j55, f6_missedDigits_j56]
    · rw [if_neg (fun q => hd (h12.mp q))]
      generalize nI (k % 10) - nI (dg s (k / 10)) = y at h11
      by_cases h : W (k / 10) * df (k % 10) (dg s (k / 10)) % m = 0
      · have h9 : hm m W s (k / 10) (k % 10) = 1 := if_pos ⟨hd, h⟩
        rw [bI_t h] at h11
        rw [h9]
        simp (disch := omega) only [q_inb, q_isZ0, q_isZ1, q_leT, q_leF, q_ltT, q_ltF, q_eqT, q_eqF, nI_leI, nI_ltI, nI_eq, nI_add, pk_mul, q_sub, pk_sub, q_mod, pk_div, nI_clamp, q_not, q_m1, q_z1, q_n1lt, Nat.add_zero, Nat.zero_add, q_nT, q_nF, ↓reduceIte, bd0_s, bd1_s, bd2_s, bd3_s, bd4_s, bd5_s, bd6_s, bd7_s, bd8_s, bd9_s, lt_s_, qL0, qL1, qL2, qL3, qL4, qL5, qL6, qL7, qL8, qL9, qL10, qL11, qL12, qL13, qL14, qL15, qL16, qL17, qL21, qL25, qL26, qL31, qL33, qL40, qL43, qL45, qL48, qL49, qL57, qL58, qL59, qL60, qL61, qL65, qL90, qL97, qL98, qL99, qL118, qL119, qL126, qL240, qL261, qL501, qL999, qL1000, qL1002, qL2505, qL3006, qL999999, qL1000000, f6_missedDigits_j55, f6_missedDigits_j56, h13, h11]
      · have h9 : hm m W s (k / 10) (k % 10) = 0 := if_neg fun q => h q.2
        rw [bI_f h] at h11
        rw [h9]
        simp (disch := omega) only [q_inb, q_isZ0, q_isZ1, q_leT, q_leF, q_ltT, q_ltF, q_eqT, q_eqF, nI_leI, nI_ltI, nI_eq, nI_add, pk_mul, q_sub, pk_sub, q_mod, pk_div, nI_clamp, q_not, q_m1, q_z1, q_n1lt, Nat.add_zero, Nat.zero_add, q_nT, q_nF, ↓reduceIte, bd0_s, bd1_s, bd2_s, bd3_s, bd4_s, bd5_s, bd6_s, bd7_s, bd8_s, bd9_s, lt_s_, qL0, qL1, qL2, qL3, qL4, qL5, qL6, qL7, qL8, qL9, qL10, qL11, qL12, qL13, qL14, qL15, qL16, qL17, qL21, qL25, qL26, qL31, qL33, qL40, qL43, qL45, qL48, qL49, qL57, qL58, qL59, qL60, qL61, qL65, qL90, qL97, qL98, qL99, qL118, qL119, qL126, qL240, qL261, qL501, qL999, qL1000, qL1002, qL2505, qL3006, qL999999, qL1000000, f6_missedDigits_j55, f6_missedDigits_j56, h13, h11])
  unfold f6_missedDigits
  refine Eq.trans ht ?_
  rw [f6_missedDigits_l4, fb_sm_grid (hm m W s) 10 (by decide) 6]
  simp (disch := omega) only [q_inb, q_isZ0, q_isZ1, q_leT, q_leF, q_ltT, q_ltF, q_eqT, q_eqF, nI_leI, nI_ltI, nI_eq, nI_add, pk_mul, q_sub, pk_sub, q_mod, pk_div, nI_clamp, q_not, q_m1, q_z1, q_n1lt, Nat.add_zero, Nat.zero_add, q_nT, q_nF, ↓reduceIte, bd0_s, bd1_s, bd2_s, bd3_s, bd4_s, bd5_s, bd6_s, bd7_s, bd8_s, bd9_s, lt_s_, qL0, qL1, qL2, qL3, qL4, qL5, qL6, qL7, qL8, qL9, qL10, qL11, qL12, qL13, qL14, qL15, qL16, qL17, qL21, qL25, qL26, qL31, qL33, qL40, qL43, qL45, qL48, qL49, qL57, qL58, qL59, qL60, qL61, qL65, qL90, qL97, qL98, qL99, qL118, qL119, qL126, qL240, qL261, qL501, qL999, qL1000, qL1002, qL2505, qL3006, qL999999, qL1000000]
  rfl
