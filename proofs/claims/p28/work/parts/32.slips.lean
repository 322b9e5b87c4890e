
/-! ===== pure rows: pairs told by trying, all positions, the best weight ===== -/
def pts (m a lo j : Nat) : Nat := if lo < j ∧ a * lo % m = a * j % m then 1 else 0
def pt (m a : Nat) : Nat := fb_sm (fun lo => fb_sm (pts m a lo) 10) 10
theorem pts_le (m a lo k : Nat) : pts m a lo k ≤ 1 := by unfold pts; split <;> omega
theorem pts_part (m a lo : Nat) {i : Nat} (hi : i ≤ 10) : fb_sm (pts m a lo) i ≤ 10 := by
  have := fb_sm_bound (f := pts m a lo) (c := 1) (n := i) (fun k _ => pts_le m a lo k)
  omega
theorem pt_part (m a : Nat) {i : Nat} (hi : i ≤ 10) : fb_sm (fun lo => fb_sm (pts m a lo) 10) i ≤ 100 := by
  have := fb_sm_bound (f := fun lo => fb_sm (pts m a lo) 10) (c := 10) (n := i) (fun k _ => pts_part m a k (Nat.le_refl 10))
  omega
theorem fb_sm_none {f : Nat → Nat} {n : Nat} (h : ∀ k, k < n → f k = 0) : fb_sm f n = 0 := by
  rw [fb_sm_cong (g := fun _ => 0) h, fb_sm_const, Nat.mul_zero]
theorem pt_pr : ∀ m, m < 27 → 7 ≤ m → ∀ a, a < 10 → pt m a = pr m a := by decide +kernel
theorem sg_rests {m a : Nat} {x : Int32} (h1 : 7 ≤ m) (h2 : m ≤ 26) (hx : sg x a) (ha : a ≤ 1000) : ∃ r : Nat → Nat, (∀ j, j ≤ 9 → f2_restOf (nI m) (x * nI j) = some (nI (r j)) ∧ r j < 2 ^ 31) ∧ ∀ i j, r i = r j ↔ a * i % m = a * j % m := by
  have hb : ∀ j, j ≤ 9 → a * j < 2 ^ 31 := fun j hj => Nat.lt_of_le_of_lt (Nat.mul_le_mul ha hj) (by decide)
  rcases hx with rfl | rfl
  · refine ⟨fun j => a * j % m, fun j hj => ⟨?_, ?_⟩, fun i j => Iff.rfl⟩
    · rw [pk_mul, s2_restOf h1 h2 (hb j hj)]
    · have := Nat.mod_lt (a * j) (show 0 < m by omega)
      show a * j % m < 2 ^ 31
      omega
  · refine ⟨fun j => (m - a * j % m) % m, fun j hj => ⟨?_, ?_⟩, fun i j => ?_⟩
    · rw [Int32.neg_mul, pk_mul, s2_restOfn h1 h2 (hb j hj)]
    · have := Nat.mod_lt (m - a * j % m) (show 0 < m by omega)
      show (m - a * j % m) % m < 2 ^ 31
      omega
    · have h3 := Nat.mod_lt (a * i) (show 0 < m by omega)
      have h4 := Nat.mod_lt (a * j) (show 0 < m by omega)
      show (m - a * i % m) % m = (m - a * j % m) % m ↔ a * i % m = a * j % m
      generalize a * i % m = u at h3 ⊢
      generalize a * j % m = v at h4 ⊢
      have e : ∀ w, w < m → (m - w) % m = if w = 0 then 0 else m - w := fun w hw => by
        by_cases h : w = 0
        · subst h
          rw [if_pos rfl, Nat.sub_zero, Nat.mod_self]
        · rw [if_neg h, Nat.mod_eq_of_lt (by omega)]
      rw [e u h3, e v h4]
      split <;> split <;> omega
theorem s2_hiddenPairsTried {m a : Nat} {x : Int32} (h1 : 7 ≤ m) (h2 : m ≤ 26) (hx : sg x a) (ha : a ≤ 9) : f2_hiddenPairsTried (nI m) x = some (nI (pr m a)) := by
  obtain ⟨r, hr, hrr⟩ := sg_rests h1 h2 hx (show a ≤ 1000 by omega)
  obtain ⟨t, ht⟩ := traj0 (fun i t => f2_hiddenPairsTried_l4 (nI m) x t (nI (fb_sm (fun lo => fb_sm (pts m a lo) 10) i)) (nI i)) 10 (by decide) (fun lo t hlo => by
    have h4 := pt_part m a (show lo ≤ 10 by omega)
    rw [f2_hiddenPairsTried_l4, fb_sm_succ]
    generalize fb_sm (fun lo => fb_sm (pts m a lo) 10) lo = c at h4 ⊢
    simp (disch := omega) only [q_inb, q_isZ0, q_isZ1, q_leT, q_leF, q_ltT, q_ltF, q_eqT, q_eqF, nI_leI, nI_ltI, nI_eq, nI_add, pk_mul, q_sub, pk_sub, q_mod, pk_div, nI_clamp, q_not, q_m1, q_z1, q_n1lt, Nat.add_zero, Nat.zero_add, q_nT, q_nF, ↓reduceIte, bd0_s, bd1_s, bd2_s, bd3_s, bd4_s, bd5_s, bd6_s, bd7_s, bd8_s, bd9_s, lt_s_, qL0, qL1, qL2, qL3, qL4, qL5, qL6, qL7, qL8, qL9, qL10, qL11, qL12, qL13, qL14, qL15, qL16, qL17, qL21, qL25, qL26, qL31, qL33, qL40, qL43, qL45, qL48, qL49, qL57, qL58, qL59, qL60, qL61, qL65, qL90, qL97, qL98, qL99, qL118, qL119, qL126, qL240, qL261, qL501, qL999, qL1000, qL1002, qL2505, qL3006, qL999999, qL1000000]
    generalize f2_hiddenPairsTried_l4 (nI m) x t = k4
    obtain ⟨t2, ht2⟩ := trajf (fun j t => f2_hiddenPairsTried_l15 k4 (nI m) x (nI lo) t (nI (c + fb_sm (pts m a lo) j)) (nI j)) (lo + 1) (9 - lo) (by omega) (fun j t hj1 hj2 => by
      have h5 := pts_part m a lo (show j ≤ 10 by omega)
      have h6 := hr lo (by omega)
      have h7 := hr j (by omega)
      have h8 := hrr lo j
      rw [f2_hiddenPairsTried_l15, fb_sm_succ]
      by_cases h : a * lo % m = a * j % m
      · have h9 : pts m a lo j = 1 := if_pos ⟨by omega, h⟩
        have h10 := h8.mpr h
        rw [h9]
        simp (disch := omega) only [q_inb, q_isZ0, q_isZ1, q_leT, q_leF, q_ltT, q_ltF, q_eqT, q_eqF, nI_leI, nI_ltI, nI_eq, nI_add, pk_mul, q_sub, pk_sub, q_mod, pk_div, nI_clamp, q_not, q_m1, q_z1, q_n1lt, Nat.add_zero, Nat.zero_add, q_nT, q_nF, ↓reduceIte, bd0_s, bd1_s, bd2_s, bd3_s, bd4_s, bd5_s, bd6_s, bd7_s, bd8_s, bd9_s, lt_s_, qL0, qL1, qL2, qL3, qL4, qL5, qL6, qL7, qL8, qL9, qL10, qL11, qL12, qL13, qL14, qL15, qL16, qL17, qL21, qL25, qL26, qL31, qL33, qL40, qL43, qL45, qL48, qL49, qL57, qL58, qL59, qL60, qL61, qL65, qL90, qL97, qL98, qL99, qL118, qL119, qL126, qL240, qL261, qL501, qL999, qL1000, qL1002, qL2505, qL3006, qL999999, qL1000000, h6.1, h7.1]
        rw [Nat.add_assoc]
      · have h9 : pts m a lo j = 0 := if_neg fun q => h q.2
        have h10 : ¬ r lo = r j := fun q => h (h8.mp q)
        have h11 := h6.2
        have h12 := h7.2
        rw [h9]
        simp (disch := omega) only [q_inb, q_isZ0, q_isZ1, q_leT, q_leF, q_ltT, q_ltF, q_eqT, q_eqF, nI_leI, nI_ltI, nI_eq, nI_add, pk_mul, q_sub, pk_sub, q_mod, pk_div, nI_clamp, q_not, q_m1, q_z1, q_n1lt, Nat.add_zero, Nat.zero_add, q_nT, q_nF, ↓reduceIte, bd0_s, bd1_s, bd2_s, bd3_s, bd4_s, bd5_s, bd6_s, bd7_s, bd8_s, bd9_s, lt_s_, qL0, qL1, qL2, qL3, qL4, qL5, qL6, qL7, qL8, qL9, qL10, qL11, qL12, qL13, qL14, qL15, qL16, qL17, qL21, qL25, qL26, qL31, qL33, qL40, qL43, qL45, qL48, qL49, qL57, qL58, qL59, qL60, qL61, qL65, qL90, qL97, qL98, qL99, qL118, qL119, qL126, qL240, qL261, qL501, qL999, qL1000, qL1002, qL2505, qL3006, qL999999, qL1000000, h6.1, h7.1])
    have h5 : fb_sm (pts m a lo) (lo + 1) = 0 := fb_sm_none fun k hk => if_neg fun q => by omega
    rw [h5, show lo + 1 + (9 - lo) = 10 by omega] at ht2
    rw [Nat.add_zero] at ht2
    rw [ht2, f2_hiddenPairsTried_l15]
    simp (disch := omega) only [q_inb, q_isZ0, q_isZ1, q_leT, q_leF, q_ltT, q_ltF, q_eqT, q_eqF, nI_leI, nI_ltI, nI_eq, nI_add, pk_mul, q_sub, pk_sub, q_mod, pk_div, nI_clamp, q_not, q_m1, q_z1, q_n1lt, Nat.add_zero, Nat.zero_add, q_nT, q_nF, ↓reduceIte, bd0_s, bd1_s, bd2_s, bd3_s, bd4_s, bd5_s, bd6_s, bd7_s, bd8_s, bd9_s, lt_s_, qL0, qL1, qL2, qL3, qL4, qL5, qL6, qL7, qL8, qL9, qL10, qL11, qL12, qL13, qL14, qL15, qL16, qL17, qL21, qL25, qL26, qL31, qL33, qL40, qL43, qL45, qL48, qL49, qL57, qL58, qL59, qL60, qL61, qL65, qL90, qL97, qL98, qL99, qL118, qL119, qL126, qL240, qL261, qL501, qL999, qL1000, qL1002, qL2505, qL3006, qL999999, qL1000000])
  unfold f2_hiddenPairsTried
  refine Eq.trans ht ?_
  rw [f2_hiddenPairsTried_l4]
  simp (disch := omega) only [q_inb, q_isZ0, q_isZ1, q_leT, q_leF, q_ltT, q_ltF, q_eqT, q_eqF, nI_leI, nI_ltI, nI_eq, nI_add, pk_mul, q_sub, pk_sub, q_mod, pk_div, nI_clamp, q_not, q_m1, q_z1, q_n1lt, Nat.add_zero, Nat.zero_add, q_nT, q_nF, ↓reduceIte, bd0_s, bd1_s, bd2_s, bd3_s, bd4_s, bd5_s, bd6_s, bd7_s, bd8_s, bd9_s, lt_s_, qL0, qL1, qL2, qL3, qL4, qL5, qL6, qL7, qL8, qL9, qL10, qL11, qL12, qL13, qL14, qL15, qL16, qL17, qL21, qL25, qL26, qL31, qL33, qL40, qL43, qL45, qL48, qL49, qL57, qL58, qL59, qL60, qL61, qL65, qL90, qL97, qL98, qL99, qL118, qL119, qL126, qL240, qL261, qL501, qL999, qL1000, qL1002, qL2505, qL3006, qL999999, qL1000000]
  rw [← pt_pr m (by omega) h1 a (by omega)]
  rfl
/-- a weight changed -/
def cw (W : NF) (c w : Nat) : NF := fun p => if p = c then w else W p
def twa (m : Nat) (W : NF) (p : Nat) : Nat := pr m (W p)
def twb (m : Nat) (W : NF) (p : Nat) : Nat := if p + 1 < 6 then pr m (df (W p) (W (p + 1))) else 0
def tw (m : Nat) (W : NF) : Nat := fb_sm (fun p => twa m W p + twb m W p) 6
theorem twa_le (m : Nat) (W : NF) (p : Nat) : twa m W p ≤ 81 := pr_le _ _
theorem twb_le (m : Nat) (W : NF) (p : Nat) : twb m W p ≤ 81 := by
  unfold twb
  split
  · exact pr_le _ _
  · omega
theorem tw_part (m : Nat) (W : NF) {i : Nat} (hi : i ≤ 6) : fb_sm (fun p => twa m W p + twb m W p) i ≤ 972 := by
  have := fb_sm_bound (f := fun p => twa m W p + twb m W p) (c := 162) (n := i) (fun k _ => by
    have h1 := twa_le m W k
    have h2 := twb_le m W k
    show twa m W k + twb m W k ≤ 162
    omega)
  omega
theorem cw_w {m : Nat} {W : NF} (H : wW_ m W) {c w : Nat} (h1 : 1 ≤ w) (h2 : w ≤ 9) : wW_ m (cw W c w) := ⟨H.1, H.2.1, fun p hp => by
  unfold cw
  by_cases h : p = c
  · rw [if_pos h]; exact ⟨h1, h2⟩
  · rw [if_neg h]; exact H.2.2 p hp⟩
/-- one position of the walk over all -/
theorem s2_hpw28 {m : Nat} {W : NF} {wm : Int32} {wW : Nat → Int32} (Hw : wW_ m W) (H : cW_ m W wm wW) {c w p v : Nat} (hw1 : 1 ≤ w) (hw2 : w ≤ 9) (hp : p < 6) (hc : c < 6) (hv : v ≤ 1000) (k5 : Int32 → Int32 → Option Int32) :
    f2_hiddenPairsWith_j28 k5 (nI m) wW (nI c) (nI w) (nI v) (nI p) (nI (cw W c w p)) = k5 (nI (v + (twa m (cw W c w) p + twb m (cw W c w) p))) (nI (p + 1)) := by
  have h1 := Hw.1
  have h2 := Hw.2.1
  have hW := (cw_w Hw (c := c) hw1 hw2).2.2
  have h3 := (hW p hp).2
  have h4 := s2_hiddenPairs h1 h2 (sg_p (cw W c w p)) (show cw W c w p ≤ 1000 by omega)
  have h5 := twa_le m (cw W c w) p
  have h6 := twb_le m (cw W c w) p
  unfold f2_hiddenPairsWith_j28
  rw [h4, bd1_s]
  change twa m (cw W c w) p ≤ 81 at h5
  show (if (6 : Int32) ≤ (nI p + (1 : Int32)) then k5 (nI v + nI (twa m (cw W c w) p)) (nI p + 1) else _) = _
  by_cases hp5 : p + 1 < 6
  · have h7 := (hW (p + 1) hp5).2
    have h8 : twb m (cw W c w) p = pr m (df (cw W c w p) (cw W c w (p + 1))) := if_pos hp5
    have h9 := s2_hiddenPairs h1 h2 (sg_sub (cw W c w p) (cw W c w (p + 1))) (df_le (c := 1000) (by omega) (by omega))
    rw [← h8] at h9
    by_cases hpc : p + 1 = c
    · have h10 : cw W c w (p + 1) = w := if_pos hpc
      rw [h10] at h9
      subst hpc
      simp (disch := omega) only [q_inb, q_isZ0, q_isZ1, q_leT, q_leF, q_ltT, q_ltF, q_eqT, q_eqF, nI_leI, nI_ltI, nI_eq, nI_add, pk_mul, q_sub, pk_sub, q_mod, pk_div, nI_clamp, q_not, q_m1, q_z1, q_n1lt, Nat.add_zero, Nat.zero_add, q_nT, q_nF, ↓reduceIte, bd0_s, bd1_s, bd2_s, bd3_s, bd4_s, bd5_s, bd6_s, bd7_s, bd8_s, bd9_s, lt_s_, qL0, qL1, qL2, qL3, qL4, qL5, qL6, qL7, qL8, qL9, qL10, qL11, qL12, qL13, qL14, qL15, qL16, qL17, qL21, qL25, qL26, qL31, qL33, qL40, qL43, qL45, qL48, qL49, qL57, qL58, qL59, qL60, qL61, qL65, qL90, qL97, qL98, qL99, qL118, qL119, qL126, qL240, qL261, qL501, qL999, qL1000, qL1002, qL2505, qL3006, qL999999, qL1000000, f2_hiddenPairsWith_j68, h9]
      rw [Nat.add_assoc]
      rfl
    · have h10 : cw W c w (p + 1) = W (p + 1) := if_neg hpc
      have h11 := s2_weightAt H hp5
      rw [h10] at h9
      simp (disch := omega) only [q_inb, q_isZ0, q_isZ1, q_leT, q_leF, q_ltT, q_ltF, q_eqT, q_eqF, nI_leI, nI_ltI, nI_eq, nI_add, pk_mul, q_sub, pk_sub, q_mod, pk_div, nI_clamp, q_not, q_m1, q_z1, q_n1lt, Nat.add_zero, Nat.zero_add, q_nT, q_nF, ↓reduceIte, bd0_s, bd1_s, bd2_s, bd3_s, bd4_s, bd5_s, bd6_s, bd7_s, bd8_s, bd9_s, lt_s_, qL0, qL1, qL2, qL3, qL4, qL5, qL6, qL7, qL8, qL9, qL10, qL11, qL12, qL13, qL14, qL15, qL16, qL17, qL21, qL25, qL26, qL31, qL33, qL40, qL43, qL45, qL48, qL49, qL57, qL58, qL59, qL60, qL61, qL65, qL90, qL97, qL98, qL99, qL118, qL119, qL126, qL240, qL261, qL501, qL999, qL1000, qL1002, qL2505, qL3006, qL999999, qL1000000, f2_hiddenPairsWith_j68, h11]
      rw [h9]
      simp (disch := omega) only [q_inb, q_isZ0, q_isZ1, q_leT, q_leF, q_ltT, q_ltF, q_eqT, q_eqF, nI_leI, nI_ltI, nI_eq, nI_add, pk_mul, q_sub, pk_sub, q_mod, pk_div, nI_clamp, q_not, q_m1, q_z1, q_n1lt, Nat.add_zero, Nat.zero_add, q_nT, q_nF, ↓reduceIte, bd0_s, bd1_s, bd2_s, bd3_s, bd4_s, bd5_s, bd6_s, bd7_s, bd8_s, bd9_s, lt_s_, qL0, qL1, qL2, qL3, qL4, qL5, qL6, qL7, qL8, qL9, qL10, qL11, qL12, qL13, qL14, qL15, qL16, qL17, qL21, qL25, qL26, qL31, qL33, qL40, qL43, qL45, qL48, qL49, qL57, qL58, qL59, qL60, qL61, qL65, qL90, qL97, qL98, qL99, qL118, qL119, qL126, qL240, qL261, qL501, qL999, qL1000, qL1002, qL2505, qL3006, qL999999, qL1000000]
      rw [Nat.add_assoc]
      rfl
  · have h8 : twb m (cw W c w) p = 0 := if_neg hp5
    rw [h8]
    simp (disch := omega) only [q_inb, q_isZ0, q_isZ1, q_leT, q_leF, q_ltT, q_ltF, q_eqT, q_eqF, nI_leI, nI_ltI, nI_eq, nI_add, pk_mul, q_sub, pk_sub, q_mod, pk_div, nI_clamp, q_not, q_m1, q_z1, q_n1lt, Nat.add_zero, Nat.zero_add, q_nT, q_nF, ↓reduceIte, bd0_s, bd1_s, bd2_s, bd3_s, bd4_s, bd5_s, bd6_s, bd7_s, bd8_s, bd9_s, lt_s_, qL0, qL1, qL2, qL3, qL4, qL5, qL6, qL7, qL8, qL9, qL10, qL11, qL12, qL13, qL14, qL15, qL16, qL17, qL21, qL25, qL26, qL31, qL33, qL40, qL43, qL45, qL48, qL49, qL57, qL58, qL59, qL60, qL61, qL65, qL90, qL97, qL98, qL99, qL118, qL119, qL126, qL240, qL261, qL501, qL999, qL1000, qL1002, qL2505, qL3006, qL999999, qL1000000]
theorem s2_hiddenPairsWith {m : Nat} {W : NF} {wm : Int32} {wW : Nat → Int32} (Hw : wW_ m W) (H : cW_ m W wm wW) {c w : Nat} (hw1 : 1 ≤ w) (hw2 : w ≤ 9) (hc : c < 6) : f2_hiddenPairsWith wm wW (nI c) (nI w) = some (nI (tw m (cw W c w))) := by
  obtain rfl := H.1
  obtain ⟨t, ht⟩ := traj0 (fun i t => f2_hiddenPairsWith_l5 (nI m) wW (nI c) (nI w) t (nI (fb_sm (fun p => twa m (cw W c w) p + twb m (cw W c w) p) i)) (nI i)) 6 (by decide) (fun p t hp => by
    have h4 := tw_part m (cw W c w) (show p ≤ 6 by omega)
    rw [f2_hiddenPairsWith_l5, fb_sm_succ]
    generalize fb_sm (fun p => twa m (cw W c w) p + twb m (cw W c w) p) p = v at h4 ⊢
    have h5 := s2_hpw28 Hw H hw1 hw2 hp hc (show v ≤ 1000 by omega) (f2_hiddenPairsWith_l5 (nI m) wW (nI c) (nI w) t)
    by_cases hpc : p = c
    · have h10 : cw W c w p = w := if_pos hpc
      rw [h10] at h5
      simp (disch := omega) only [q_inb, q_isZ0, q_isZ1, q_leT, q_leF, q_ltT, q_ltF, q_eqT, q_eqF, nI_leI, nI_ltI, nI_eq, nI_add, pk_mul, q_sub, pk_sub, q_mod, pk_div, nI_clamp, q_not, q_m1, q_z1, q_n1lt, Nat.add_zero, Nat.zero_add, q_nT, q_nF, ↓reduceIte, bd0_s, bd1_s, bd2_s, bd3_s, bd4_s, bd5_s, bd6_s, bd7_s, bd8_s, bd9_s, lt_s_, qL0, qL1, qL2, qL3, qL4, qL5, qL6, qL7, qL8, qL9, qL10, qL11, qL12, qL13, qL14, qL15, qL16, qL17, qL21, qL25, qL26, qL31, qL33, qL40, qL43, qL45, qL48, qL49, qL57, qL58, qL59, qL60, qL61, qL65, qL90, qL97, qL98, qL99, qL118, qL119, qL126, qL240, qL261, qL501, qL999, qL1000, qL1002, qL2505, qL3006, qL999999, qL1000000, h5]
    · have h10 : cw W c w p = W p := if_neg hpc
      have h11 := s2_weightAt H hp
      rw [h10] at h5
      simp (disch := omega) only [q_inb, q_isZ0, q_isZ1, q_leT, q_leF, q_ltT, q_ltF, q_eqT, q_eqF, nI_leI, nI_ltI, nI_eq, nI_add, pk_mul, q_sub, pk_sub, q_mod, pk_div, nI_clamp, q_not, q_m1, q_z1, q_n1lt, Nat.add_zero, Nat.zero_add, q_nT, q_nF, ↓reduceIte, bd0_s, bd1_s, bd2_s, bd3_s, bd4_s, bd5_s, bd6_s, bd7_s, bd8_s, bd9_s, lt_s_, qL0, qL1, qL2, qL3, qL4, qL5, qL6, qL7, qL8, qL9, qL10, qL11, qL12, qL13, qL14, qL15, qL16, qL17, qL21, qL25, qL26, qL31, qL33, qL40, qL43, qL45, qL48, qL49, qL57, qL58, qL59, qL60, qL61, qL65, qL90, qL97, qL98, qL99, qL118, qL119, qL126, qL240, qL261, qL501, qL999, qL1000, qL1002, qL2505, qL3006, qL999999, qL1000000, h11, h5])
  unfold f2_hiddenPairsWith
  refine Eq.trans ht ?_
  rw [f2_hiddenPairsWith_l5]
  simp (disch := omega) only [q_inb, q_isZ0, q_isZ1, q_leT, q_leF, q_ltT, q_ltF, q_eqT, q_eqF, nI_leI, nI_ltI, nI_eq, nI_add, pk_mul, q_sub, pk_sub, q_mod, pk_div, nI_clamp, q_not, q_m1, q_z1, q_n1lt, Nat.add_zero, Nat.zero_add, q_nT, q_nF, ↓reduceIte, bd0_s, bd1_s, bd2_s, bd3_s, bd4_s, bd5_s, bd6_s, bd7_s, bd8_s, bd9_s, lt_s_, qL0, qL1, qL2, qL3, qL4, qL5, qL6, qL7, qL8, qL9, qL10, qL11, qL12, qL13, qL14, qL15, qL16, qL17, qL21, qL25, qL26, qL31, qL33, qL40, qL43, qL45, qL48, qL49, qL57, qL58, qL59, qL60, qL61, qL65, qL90, qL97, qL98, qL99, qL118, qL119, qL126, qL240, qL261, qL501, qL999, qL1000, qL1002, qL2505, qL3006, qL999999, qL1000000]
  rfl
theorem e_m3 {m : Nat} {W : NF} {g : Nat → Int32} (H : mW_ m W g) {p : Nat} (hp : p < 6) : g (3 + p) = nI (W p) := H.2 p hp
theorem s6_weakAt0 {m : Nat} {W : NF} {g : Nat → Int32} (Hw : wW_ m W) (H : mW_ m W g) {p : Nat} (hp : p < 6) : f6_weakAt g (nI p) (nI 0) = some (nI (twa m W p)) := by
  have h3 := (Hw.2.2 p hp).2
  have h4 := s6_pairs H Hw.1 Hw.2.1 (sg_p (W p)) (show W p ≤ 1000 by omega)
  simp (disch := omega) only [q_inb, q_isZ0, q_isZ1, q_leT, q_leF, q_ltT, q_ltF, q_eqT, q_eqF, nI_leI, nI_ltI, nI_eq, nI_add, pk_mul, q_sub, pk_sub, q_mod, pk_div, nI_clamp, q_not, q_m1, q_z1, q_n1lt, Nat.add_zero, Nat.zero_add, q_nT, q_nF, ↓reduceIte, bd0_s, bd1_s, bd2_s, bd3_s, bd4_s, bd5_s, bd6_s, bd7_s, bd8_s, bd9_s, lt_s_, qL0, qL1, qL2, qL3, qL4, qL5, qL6, qL7, qL8, qL9, qL10, qL11, qL12, qL13, qL14, qL15, qL16, qL17, qL21, qL25, qL26, qL31, qL33, qL40, qL43, qL45, qL48, qL49, qL57, qL58, qL59, qL60, qL61, qL65, qL90, qL97, qL98, qL99, qL118, qL119, qL126, qL240, qL261, qL501, qL999, qL1000, qL1002, qL2505, qL3006, qL999999, qL1000000, f6_weakAt, f6_weakAt_j35, e_m3 H, h4]
  rfl
theorem s6_weakAt1 {m : Nat} {W : NF} {g : Nat → Int32} (Hw : wW_ m W) (H : mW_ m W g) {p : Nat} (hp : p < 5) : f6_weakAt g (nI p) (nI 1) = some (nI (twb m W p)) := by
  have h3 := (Hw.2.2 p (by omega)).2
  have h5 := (Hw.2.2 (p + 1) (by omega)).2
  have h4 := s6_pairs H Hw.1 Hw.2.1 (sg_sub (W p) (W (p + 1))) (df_le (c := 1000) (by omega) (by omega))
  have h6 : twb m W p = pr m (df (W p) (W (p + 1))) := if_pos (by omega)
  have h7 : g (3 + p + 1) = nI (W (p + 1)) := H.2 (p + 1) (by omega)
  unfold f6_weakAt
  simp (disch := omega) only [q_inb, q_isZ0, q_isZ1, q_leT, q_leF, q_ltT, q_ltF, q_eqT, q_eqF, nI_leI, nI_ltI, nI_eq, nI_add, pk_mul, q_sub, pk_sub, q_mod, pk_div, nI_clamp, q_not, q_m1, q_z1, q_n1lt, Nat.add_zero, Nat.zero_add, q_nT, q_nF, ↓reduceIte, bd0_s, bd1_s, bd2_s, bd3_s, bd4_s, bd5_s, bd6_s, bd7_s, bd8_s, bd9_s, lt_s_, qL0, qL1, qL2, qL3, qL4, qL5, qL6, qL7, qL8, qL9, qL10, qL11, qL12, qL13, qL14, qL15, qL16, qL17, qL21, qL25, qL26, qL31, qL33, qL40, qL43, qL45, qL48, qL49, qL57, qL58, qL59, qL60, qL61, qL65, qL90, qL97, qL98, qL99, qL118, qL119, qL126, qL240, qL261, qL501, qL999, qL1000, qL1002, qL2505, qL3006, qL999999, qL1000000, f6_weakAt_j35, e_m3 H, h7]
  rw [h4, bd1_s, h6]
theorem s6_weakOf0 {m : Nat} {W : NF} {g : Nat → Int32} (Hw : wW_ m W) (H : mW_ m W g) : f6_weakOf g (nI 0) = some (nI (fb_sm (twa m W) 6)) := by
  obtain ⟨t, ht⟩ := traj0 (fun i t => f6_weakOf_l4 g (nI 0) t (nI (fb_sm (twa m W) i)) (nI i)) 6 (by decide) (fun p t hp => by
    rw [f6_weakOf_l4, fb_sm_succ]
    simp (disch := omega) only [q_inb, q_isZ0, q_isZ1, q_leT, q_leF, q_ltT, q_ltF, q_eqT, q_eqF, nI_leI, nI_ltI, nI_eq, nI_add, pk_mul, q_sub, pk_sub, q_mod, pk_div, nI_clamp, q_not, q_m1, q_z1, q_n1lt, Nat.add_zero, Nat.zero_add, q_nT, q_nF, ↓reduceIte, bd0_s, bd1_s, bd2_s, bd3_s, bd4_s, bd5_s, bd6_s, bd7_s, bd8_s, bd9_s, lt_s_, qL0, qL1, qL2, qL3, qL4, qL5, qL6, qL7, qL8, qL9, qL10, qL11, qL12, qL13, qL14, qL15, qL16, qL17, qL21, qL25, qL26, qL31, qL33, qL40, qL43, qL45, qL48, qL49, qL57, qL58, qL59, qL60, qL61, qL65, qL90, qL97, qL98, qL99, qL118, qL119, qL126, qL240, qL261, qL501, qL999, qL1000, qL1002, qL2505, qL3006, qL999999, qL1000000, s6_weakAt0 Hw H hp])
  unfold f6_weakOf
  refine Eq.trans ht ?_
  rw [f6_weakOf_l4]
  simp (disch := omega) only [q_inb, q_isZ0, q_isZ1, q_leT, q_leF, q_ltT, q_ltF, q_eqT, q_eqF, nI_leI, nI_ltI, nI_eq, nI_add, pk_mul, q_sub, pk_sub, q_mod, pk_div, nI_clamp, q_not, q_m1, q_z1, q_n1lt, Nat.add_zero, Nat.zero_add, q_nT, q_nF, ↓reduceIte, bd0_s, bd1_s, bd2_s, bd3_s, bd4_s, bd5_s, bd6_s, bd7_s, bd8_s, bd9_s, lt_s_, qL0, qL1, qL2, qL3, qL4, qL5, qL6, qL7, qL8, qL9, qL10, qL11, qL12, qL13, qL14, qL15, qL16, qL17, qL21, qL25, qL26, qL31, qL33, qL40, qL43, qL45, qL48, qL49, qL57, qL58, qL59, qL60, qL61, qL65, qL90, qL97, qL98, qL99, qL118, qL119, qL126, qL240, qL261, qL501, qL999, qL1000, qL1002, qL2505, qL3006, qL999999, qL1000000]
theorem s6_weakOf1 {m : Nat} {W : NF} {g : Nat → Int32} (Hw : wW_ m W) (H : mW_ m W g) : f6_weakOf g (nI 1) = some (nI (fb_sm (twb m W) 6)) := by
  obtain ⟨t, ht⟩ := traj0 (fun i t => f6_weakOf_l4 g (nI 1) t (nI (fb_sm (twb m W) i)) (nI i)) 5 (by decide) (fun p t hp => by
    rw [f6_weakOf_l4, fb_sm_succ]
    simp (disch := omega) only [q_inb, q_isZ0, q_isZ1, q_leT, q_leF, q_ltT, q_ltF, q_eqT, q_eqF, nI_leI, nI_ltI, nI_eq, nI_add, pk_mul, q_sub, pk_sub, q_mod, pk_div, nI_clamp, q_not, q_m1, q_z1, q_n1lt, Nat.add_zero, Nat.zero_add, q_nT, q_nF, ↓reduceIte, bd0_s, bd1_s, bd2_s, bd3_s, bd4_s, bd5_s, bd6_s, bd7_s, bd8_s, bd9_s, lt_s_, qL0, qL1, qL2, qL3, qL4, qL5, qL6, qL7, qL8, qL9, qL10, qL11, qL12, qL13, qL14, qL15, qL16, qL17, qL21, qL25, qL26, qL31, qL33, qL40, qL43, qL45, qL48, qL49, qL57, qL58, qL59, qL60, qL61, qL65, qL90, qL97, qL98, qL99, qL118, qL119, qL126, qL240, qL261, qL501, qL999, qL1000, qL1002, qL2505, qL3006, qL999999, qL1000000, s6_weakAt1 Hw H hp])
  unfold f6_weakOf
  refine Eq.trans ht ?_
  have h1 : fb_sm (twb m W) 6 = fb_sm (twb m W) 5 + 0 := rfl
  rw [f6_weakOf_l4, h1]
  simp (disch := omega) only [q_inb, q_isZ0, q_isZ1, q_leT, q_leF, q_ltT, q_ltF, q_eqT, q_eqF, nI_leI, nI_ltI, nI_eq, nI_add, pk_mul, q_sub, pk_sub, q_mod, pk_div, nI_clamp, q_not, q_m1, q_z1, q_n1lt, Nat.add_zero, Nat.zero_add, q_nT, q_nF, ↓reduceIte, bd0_s, bd1_s, bd2_s, bd3_s, bd4_s, bd5_s, bd6_s, bd7_s, bd8_s, bd9_s, lt_s_, qL0, qL1, qL2, qL3, qL4, qL5, qL6, qL7, qL8, qL9, qL10, qL11, qL12, qL13, qL14, qL15, qL16, qL17, qL21, qL25, qL26, qL31, qL33, qL40, qL43, qL45, qL48, qL49, qL57, qL58, qL59, qL60, qL61, qL65, qL90, qL97, qL98, qL99, qL118, qL119, qL126, qL240, qL261, qL501, qL999, qL1000, qL1002, qL2505, qL3006, qL999999, qL1000000]
theorem tw_two (m : Nat) (W : NF) : tw m W = fb_sm (twa m W) 6 + fb_sm (twb m W) 6 := fb_sm_add _ _ 6
