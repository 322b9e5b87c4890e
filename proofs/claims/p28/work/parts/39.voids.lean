
/-! ===== pure rows: a run made void ===== -/
/-- the cell c becomes void by the run u to v -/
def hit (h : Nat) (F Z K : NF) (u v c : Nat) : Bool := decide (c / 40 < h ∧ c % 40 < Z (c / 40) ∧ u ≤ F (c / 40) + c % 40 ∧ F (c / 40) + c % 40 ≤ v ∧ K c < 2)
theorem hit_iff {h : Nat} {F Z K : NF} {u v b j : Nat} (hj : j < 40) : hit h F Z K u v (40 * b + j) = true ↔ b < h ∧ j < Z b ∧ u ≤ F b + j ∧ F b + j ≤ v ∧ K (40 * b + j) < 2 := by
  unfold hit
  rw [decide_eq_true_eq, show (40 * b + j) / 40 = b by omega, show (40 * b + j) % 40 = j by omega]
/-- the first n cells done -/
def vd (P : Nat → Bool) (x : Int32) (f : Nat → Int32) (n : Nat) : Nat → Int32 := fun c => if c < n ∧ P c = true then x else f c
theorem vd_t {P : Nat → Bool} {x : Int32} {f : Nat → Int32} {n : Nat} (h : P n = true) : upd (vd P x f n) n x = vd P x f (n + 1) := by
  funext c
  rw [upd_eq]
  unfold vd
  by_cases e : c = n
  · rw [if_pos e, if_pos ⟨by omega, by rw [e]; exact h⟩]
  · rw [if_neg e]
    by_cases e2 : c < n ∧ P c = true
    · rw [if_pos e2, if_pos ⟨by omega, e2.2⟩]
    · rw [if_neg e2, if_neg fun q => e2 ⟨by omega, q.2⟩]
theorem vd_gap {P : Nat → Bool} {x : Int32} {f : Nat → Int32} {a b : Nat} (hab : a ≤ b) (h : ∀ k, a ≤ k → k < b → P k = false) : vd P x f b = vd P x f a := by
  funext c
  unfold vd
  by_cases e : c < a ∧ P c = true
  · rw [if_pos e, if_pos ⟨by omega, e.2⟩]
  · rw [if_neg e, if_neg fun q => by
      by_cases e2 : c < a
      · exact e ⟨e2, q.2⟩
      · exact absurd (h c (by omega) q.1) (by rw [q.2]; decide)]
theorem vd_0 {P : Nat → Bool} {x : Int32} {f : Nat → Int32} : vd P x f 0 = f := funext fun c => if_neg fun q => Nat.not_lt_zero c q.1
theorem ct_gap {P : Nat → Bool} {a b : Nat} (hab : a ≤ b) (h : ∀ k, a ≤ k → k < b → P k = false) : fb_ct P b = fb_ct P a := by
  obtain ⟨d, rfl⟩ : ∃ d, b = a + d := ⟨b - a, by omega⟩
  rw [fb_ct_split, fb_ct_zero.mpr fun k hk => h (a + k) (by omega) (by omega), Nat.add_zero]
theorem s0_makeVoid_t {bK bM : Nat → Int32} {c k : Nat} (hc : c < 240) (hk : bK c = nI k) (h2 : k < 2) : f0_makeVoid bK bM (nI c) = some (nI 1, upd bK c (nI 3), upd bM c (nI 0)) := by
  have h1 : f0_kindAt bK (nI c) = some (nI k) := by simp (disch := omega) only [q_inb, q_isZ0, q_isZ1, q_leT, q_leF, q_ltT, q_ltF, q_eqT, q_eqF, nI_leI, nI_ltI, nI_eq, nI_add, pk_mul, q_sub, pk_sub, q_mod, pk_div, nI_clamp, q_not, q_m1, q_z1, q_n1lt, Nat.add_zero, Nat.zero_add, q_nT, q_nF, ↓reduceIte, bd0_s, bd1_s, bd2_s, bd3_s, bd4_s, bd5_s, bd6_s, bd7_s, bd8_s, bd9_s, lt_s_, qL0, qL1, qL2, qL3, qL4, qL5, qL6, qL7, qL8, qL9, qL10, qL11, qL12, qL13, qL14, qL15, qL16, qL17, qL21, qL25, qL26, qL31, qL33, qL40, qL43, qL45, qL48, qL49, qL57, qL58, qL59, qL60, qL61, qL65, qL90, qL97, qL98, qL99, qL118, qL119, qL126, qL240, qL261, qL501, qL999, qL1000, qL1002, qL2505, qL3006, qL999999, qL1000000, f0_kindAt, hk]
  have h3 := s0_setCell (bK := bK) (bM := bM) hc (nI 3) (nI 0)
  rcases (show k = 0 ∨ k = 1 by omega) with rfl | rfl
  · simp (disch := omega) only [q_inb, q_isZ0, q_isZ1, q_leT, q_leF, q_ltT, q_ltF, q_eqT, q_eqF, nI_leI, nI_ltI, nI_eq, nI_add, pk_mul, q_sub, pk_sub, q_mod, pk_div, nI_clamp, q_not, q_m1, q_z1, q_n1lt, Nat.add_zero, Nat.zero_add, q_nT, q_nF, ↓reduceIte, bd0_s, bd1_s, bd2_s, bd3_s, bd4_s, bd5_s, bd6_s, bd7_s, bd8_s, bd9_s, lt_s_, qL0, qL1, qL2, qL3, qL4, qL5, qL6, qL7, qL8, qL9, qL10, qL11, qL12, qL13, qL14, qL15, qL16, qL17, qL21, qL25, qL26, qL31, qL33, qL40, qL43, qL45, qL48, qL49, qL57, qL58, qL59, qL60, qL61, qL65, qL90, qL97, qL98, qL99, qL118, qL119, qL126, qL240, qL261, qL501, qL999, qL1000, qL1002, qL2505, qL3006, qL999999, qL1000000, f0_makeVoid, f0_makeVoid_j17, h1, h3]
  · simp (disch := omega) only [q_inb, q_isZ0, q_isZ1, q_leT, q_leF, q_ltT, q_ltF, q_eqT, q_eqF, nI_leI, nI_ltI, nI_eq, nI_add, pk_mul, q_sub, pk_sub, q_mod, pk_div, nI_clamp, q_not, q_m1, q_z1, q_n1lt, Nat.add_zero, Nat.zero_add, q_nT, q_nF, ↓reduceIte, bd0_s, bd1_s, bd2_s, bd3_s, bd4_s, bd5_s, bd6_s, bd7_s, bd8_s, bd9_s, lt_s_, qL0, qL1, qL2, qL3, qL4, qL5, qL6, qL7, qL8, qL9, qL10, qL11, qL12, qL13, qL14, qL15, qL16, qL17, qL21, qL25, qL26, qL31, qL33, qL40, qL43, qL45, qL48, qL49, qL57, qL58, qL59, qL60, qL61, qL65, qL90, qL97, qL98, qL99, qL118, qL119, qL126, qL240, qL261, qL501, qL999, qL1000, qL1002, qL2505, qL3006, qL999999, qL1000000, f0_makeVoid, f0_makeVoid_j17, h1, h3]
theorem s0_makeVoid_f {bK bM : Nat → Int32} {c k : Nat} (hc : c < 240) (hk : bK c = nI k) (h2 : ¬ k < 2) (h3 : k ≤ 3) : f0_makeVoid bK bM (nI c) = some (nI 0, bK, bM) := by
  have h1 : f0_kindAt bK (nI c) = some (nI k) := by simp (disch := omega) only [q_inb, q_isZ0, q_isZ1, q_leT, q_leF, q_ltT, q_ltF, q_eqT, q_eqF, nI_leI, nI_ltI, nI_eq, nI_add, pk_mul, q_sub, pk_sub, q_mod, pk_div, nI_clamp, q_not, q_m1, q_z1, q_n1lt, Nat.add_zero, Nat.zero_add, q_nT, q_nF, ↓reduceIte, bd0_s, bd1_s, bd2_s, bd3_s, bd4_s, bd5_s, bd6_s, bd7_s, bd8_s, bd9_s, lt_s_, qL0, qL1, qL2, qL3, qL4, qL5, qL6, qL7, qL8, qL9, qL10, qL11, qL12, qL13, qL14, qL15, qL16, qL17, qL21, qL25, qL26, qL31, qL33, qL40, qL43, qL45, qL48, qL49, qL57, qL58, qL59, qL60, qL61, qL65, qL90, qL97, qL98, qL99, qL118, qL119, qL126, qL240, qL261, qL501, qL999, qL1000, qL1002, qL2505, qL3006, qL999999, qL1000000, f0_kindAt, hk]
  simp (disch := omega) only [q_inb, q_isZ0, q_isZ1, q_leT, q_leF, q_ltT, q_ltF, q_eqT, q_eqF, nI_leI, nI_ltI, nI_eq, nI_add, pk_mul, q_sub, pk_sub, q_mod, pk_div, nI_clamp, q_not, q_m1, q_z1, q_n1lt, Nat.add_zero, Nat.zero_add, q_nT, q_nF, ↓reduceIte, bd0_s, bd1_s, bd2_s, bd3_s, bd4_s, bd5_s, bd6_s, bd7_s, bd8_s, bd9_s, lt_s_, qL0, qL1, qL2, qL3, qL4, qL5, qL6, qL7, qL8, qL9, qL10, qL11, qL12, qL13, qL14, qL15, qL16, qL17, qL21, qL25, qL26, qL31, qL33, qL40, qL43, qL45, qL48, qL49, qL57, qL58, qL59, qL60, qL61, qL65, qL90, qL97, qL98, qL99, qL118, qL119, qL126, qL240, qL261, qL501, qL999, qL1000, qL1002, qL2505, qL3006, qL999999, qL1000000, f0_makeVoid, f0_makeVoid_j17, h1]
theorem s0_makeRunVoid {h : Nat} {F Z K M : NF} {bh : Int32} {bF bZ bK bM : Nat → Int32} (hB : wB_ h F Z) (hK : wK_ h Z K M) (cB : cB_ h F Z bh bF bZ) (cK : cK_ h Z K M bK bM) {u v : Nat} (hu : u < 1000000) (hv : v < 1000000) :
    f0_makeRunVoid bh bF bZ bK bM (nI u) (nI v) = some (nI (fb_ct (hit h F Z K u v) (40 * h)), vd (hit h F Z K u v) (nI 3) bK (40 * h), vd (hit h F Z K u v) (nI 0) bM (40 * h)) := by
  obtain rfl := cB.1
  have hh := hB.1
  generalize hP : hit h F Z K u v = P
  have hct : ∀ n, n ≤ 240 → fb_ct P n ≤ 240 := fun n hn => Nat.le_trans (fb_ct_le P n) hn
  obtain ⟨t, ht⟩ := traj0 (fun b t => f0_makeRunVoid_l5 (nI h) bF bZ (nI u) (nI v) t (nI (fb_ct P (40 * b))) (nI b) (vd P (nI 3) bK (40 * b)) (vd P (nI 0) bM (40 * b))) h (by omega) (fun b t hb => by
    have h2 := s0_firstOf hB cB hb
    have h3 := s0_sizeOf hB cB hb
    have h4 := hB.2.1 b hb
    have e1 : ∀ k5, f0_makeRunVoid_l47 k5 (nI h) bF bZ (nI u) (nI v) (nI b) (nI (F b)) (if nI (F b) + nI (Z b) - (1 : Int32) < nI v then nI (F b) + nI (Z b) - (1 : Int32) else nI v) fu (nI (fb_ct P (40 * b))) (if nI u < nI (F b) then nI (F b) else nI u) (vd P (nI 3) bK (40 * b)) (vd P (nI 0) bM (40 * b)) = k5 (nI (fb_ct P (40 * (b + 1)))) (nI b + 1) (vd P (nI 3) bK (40 * (b + 1))) (vd P (nI 0) bM (40 * (b + 1))) := by
      intro k5
      obtain ⟨lo, hlo, elo⟩ : ∃ lo, (lo = if u < F b then F b else u) ∧ (if nI u < nI (F b) then nI (F b) else nI u) = nI lo := by
        by_cases q : u < F b
        · exact ⟨_, rfl, by simp (disch := omega) only [q_inb, q_isZ0, q_isZ1, q_leT, q_leF, q_ltT, q_ltF, q_eqT, q_eqF, nI_leI, nI_ltI, nI_eq, nI_add, pk_mul, q_sub, pk_sub, q_mod, pk_div, nI_clamp, q_not, q_m1, q_z1, q_n1lt, Nat.add_zero, Nat.zero_add, q_nT, q_nF, ↓reduceIte, bd0_s, bd1_s, bd2_s, bd3_s, bd4_s, bd5_s, bd6_s, bd7_s, bd8_s, bd9_s, lt_s_, qL0, qL1, qL2, qL3, qL4, qL5, qL6, qL7, qL8, qL9, qL10, qL11, qL12, qL13, qL14, qL15, qL16, qL17, qL21, qL25, qL26, qL31, qL33, qL40, qL43, qL45, qL48, qL49, qL57, qL58, qL59, qL60, qL61, qL65, qL90, qL97, qL98, qL99, qL118, qL119, qL126, qL240, qL261, qL501, qL999, qL1000, qL1002, qL2505, qL3006, qL999999, qL1000000]⟩
        · exact ⟨_, rfl, by simp (disch := omega) only [q_inb, q_isZ0, q_isZ1, q_leT, q_leF, q_ltT, q_ltF, q_eqT, q_eqF, nI_leI, nI_ltI, nI_eq, nI_add, pk_mul, q_sub, pk_sub, q_mod, pk_div, nI_clamp, q_not, q_m1, q_z1, q_n1lt, Nat.add_zero, Nat.zero_add, q_nT, q_nF, ↓reduceIte, bd0_s, bd1_s, bd2_s, bd3_s, bd4_s, bd5_s, bd6_s, bd7_s, bd8_s, bd9_s, lt_s_, qL0, qL1, qL2, qL3, qL4, qL5, qL6, qL7, qL8, qL9, qL10, qL11, qL12, qL13, qL14, qL15, qL16, qL17, qL21, qL25, qL26, qL31, qL33, qL40, qL43, qL45, qL48, qL49, qL57, qL58, qL59, qL60, qL61, qL65, qL90, qL97, qL98, qL99, qL118, qL119, qL126, qL240, qL261, qL501, qL999, qL1000, qL1002, qL2505, qL3006, qL999999, qL1000000]⟩
      obtain ⟨hi, hhi, ehi⟩ : ∃ hi, (hi = if F b + Z b - 1 < v then F b + Z b - 1 else v) ∧ (if nI (F b) + nI (Z b) - (1 : Int32) < nI v then nI (F b) + nI (Z b) - (1 : Int32) else nI v) = nI hi := by
        by_cases q : F b + Z b - 1 < v
        · exact ⟨_, rfl, by simp (disch := omega) only [q_inb, q_isZ0, q_isZ1, q_leT, q_leF, q_ltT, q_ltF, q_eqT, q_eqF, nI_leI, nI_ltI, nI_eq, nI_add, pk_mul, q_sub, pk_sub, q_mod, pk_div, nI_clamp, q_not, q_m1, q_z1, q_n1lt, Nat.add_zero, Nat.zero_add, q_nT, q_nF, ↓reduceIte, bd0_s, bd1_s, bd2_s, bd3_s, bd4_s, bd5_s, bd6_s, bd7_s, bd8_s, bd9_s, lt_s_, qL0, qL1, qL2, qL3, qL4, qL5, qL6, qL7, qL8, qL9, qL10, qL11, qL12, qL13, qL14, qL15, qL16, qL17, qL21, qL25, qL26, qL31, qL33, qL40, qL43, qL45, qL48, qL49, qL57, qL58, qL59, qL60, qL61, qL65, qL90, qL97, qL98, qL99, qL118, qL119, qL126, qL240, qL261, qL501, qL999, qL1000, qL1002, qL2505, qL3006, qL999999, qL1000000]⟩
        · exact ⟨_, rfl, by simp (disch := omega) only [q_inb, q_isZ0, q_isZ1, q_leT, q_leF, q_ltT, q_ltF, q_eqT, q_eqF, nI_leI, nI_ltI, nI_eq, nI_add, pk_mul, q_sub, pk_sub, q_mod, pk_div, nI_clamp, q_not, q_m1, q_z1, q_n1lt, Nat.add_zero, Nat.zero_add, q_nT, q_nF, ↓reduceIte, bd0_s, bd1_s, bd2_s, bd3_s, bd4_s, bd5_s, bd6_s, bd7_s, bd8_s, bd9_s, lt_s_, qL0, qL1, qL2, qL3, qL4, qL5, qL6, qL7, qL8, qL9, qL10, qL11, qL12, qL13, qL14, qL15, qL16, qL17, qL21, qL25, qL26, qL31, qL33, qL40, qL43, qL45, qL48, qL49, qL57, qL58, qL59, qL60, qL61, qL65, qL90, qL97, qL98, qL99, qL118, qL119, qL126, qL240, qL261, qL501, qL999, qL1000, qL1002, qL2505, qL3006, qL999999, qL1000000]⟩
      rw [elo, ehi]
      have hlo1 : F b ≤ lo ∧ u ≤ lo ∧ lo < 1000000 ∧ (lo = F b ∨ lo = u) := by rw [hlo]; split <;> omega
      have hhi1 : hi < F b + Z b ∧ hi ≤ v ∧ hi < 1000000 ∧ (hi = F b + Z b - 1 ∨ hi = v) := by rw [hhi]; split <;> omega
      -- what isn't hit in this book
      have miss : ∀ j, j < 40 → ¬ (lo ≤ F b + j ∧ F b + j ≤ hi) → P (40 * b + j) = false := fun j hj q => by
        cases hp : P (40 * b + j)
        · rfl
        · rw [← hP, hit_iff hj] at hp
          omega
      have is : ∀ j, j < 40 → lo ≤ F b + j → F b + j ≤ hi → (P (40 * b + j) = true ↔ K (40 * b + j) < 2) := fun j hj q1 q2 => by
        rw [← hP, hit_iff hj]
        omega
      by_cases hlh : hi < lo
      · have g1 : ∀ k, 40 * b ≤ k → k < 40 * (b + 1) → P k = false := fun k k1 k2 => by
          have := miss (k - 40 * b) (by omega) (by omega)
          rwa [show 40 * b + (k - 40 * b) = k by omega] at this
        rw [ct_gap (show 40 * b ≤ 40 * (b + 1) by omega) g1, vd_gap (show 40 * b ≤ 40 * (b + 1) by omega) g1, vd_gap (show 40 * b ≤ 40 * (b + 1) by omega) g1]
        show f0_makeRunVoid_l47 _ _ _ _ _ _ _ _ _ (3999 + 1) _ _ _ _ = _
        rw [f0_makeRunVoid_l47, if_pos (nI_lt hlh (by omega))]
      · have g1 : ∀ k, 40 * b ≤ k → k < 40 * b + (lo - F b) → P k = false := fun k k1 k2 => by
          have := miss (k - 40 * b) (by omega) (by omega)
          rwa [show 40 * b + (k - 40 * b) = k by omega] at this
        have g2 : ∀ k, 40 * b + (hi + 1 - F b) ≤ k → k < 40 * (b + 1) → P k = false := fun k k1 k2 => by
          have := miss (k - 40 * b) (by omega) (by omega)
          rwa [show 40 * b + (k - 40 * b) = k by omega] at this
        rw [← ct_gap (show 40 * b ≤ 40 * b + (lo - F b) by omega) g1, ← vd_gap (show 40 * b ≤ 40 * b + (lo - F b) by omega) g1, ← vd_gap (show 40 * b ≤ 40 * b + (lo - F b) by omega) g1]
        rw [ct_gap (show 40 * b + (hi + 1 - F b) ≤ 40 * (b + 1) by omega) g2, vd_gap (show 40 * b + (hi + 1 - F b) ≤ 40 * (b + 1) by omega) g2, vd_gap (show 40 * b + (hi + 1 - F b) ≤ 40 * (b + 1) by omega) g2]
        obtain ⟨t2, ht2⟩ := trajf (fun w t => f0_makeRunVoid_l47 k5 (nI h) bF bZ (nI u) (nI v) (nI b) (nI (F b)) (nI hi) t (nI (fb_ct P (40 * b + (w - F b)))) (nI w) (vd P (nI 3) bK (40 * b + (w - F b))) (vd P (nI 0) bM (40 * b + (w - F b)))) lo (hi + 1 - lo) (by omega) (fun w t hw1 hw2 => by
          have j1 : w - F b < Z b := by omega
          have j2 := hK b (w - F b) hb j1
          have j3 := cK b (w - F b) hb j1
          have j4 := is (w - F b) (by omega) (by omega) (by omega)
          have j5 : 40 * b + (w + 1 - F b) = 40 * b + (w - F b) + 1 := by omega
          have j6 : nI b * (40 : Int32) + nI w - nI (F b) = nI (40 * b + (w - F b)) := by
            rw [qL40, pk_mul, nI_add, pk_sub (by omega), show b * 40 + w - F b = 40 * b + (w - F b) by omega]
          have j7 : 40 * b + (w - F b) < 240 := by omega
          have j8 := hct (40 * b + (w - F b)) (by omega)
          rw [f0_makeRunVoid_l47, if_neg (nI_nlt (show w ≤ hi by omega) (by omega)), j6, j5, fb_ct_succ]
          generalize 40 * b + (w - F b) = c at j2 j3 j4 j7 j8 ⊢
          have j9 : vd P (nI 3) bK c c = nI (K c) := by
            unfold vd
            rw [if_neg (by omega)]
            exact j3.1
          by_cases k2 : K c < 2
          · have k3 := j4.mpr k2
            rw [s0_makeVoid_t j7 j9 k2, vd_t k3, vd_t k3, k3]
            simp (disch := omega) only [q_inb, q_isZ0, q_isZ1, q_leT, q_leF, q_ltT, q_ltF, q_eqT, q_eqF, nI_leI, nI_ltI, nI_eq, nI_add, pk_mul, q_sub, pk_sub, q_mod, pk_div, nI_clamp, q_not, q_m1, q_z1, q_n1lt, Nat.add_zero, Nat.zero_add, q_nT, q_nF, ↓reduceIte, bd0_s, bd1_s, bd2_s, bd3_s, bd4_s, bd5_s, bd6_s, bd7_s, bd8_s, bd9_s, lt_s_, qL0, qL1, qL2, qL3, qL4, qL5, qL6, qL7, qL8, qL9, qL10, qL11, qL12, qL13, qL14, qL15, qL16, qL17, qL21, qL25, qL26, qL31, qL33, qL40, qL43, qL45, qL48, qL49, qL57, qL58, qL59, qL60, qL61, qL65, qL90, qL97, qL98, qL99, qL118, qL119, qL126, qL240, qL261, qL501, qL999, qL1000, qL1002, qL2505, qL3006, qL999999, qL1000000]
          · have k3 : P c = false := by
              cases hp : P c
              · rfl
              · exact absurd (j4.mp hp) k2
            have k4 : ∀ k, c ≤ k → k < c + 1 → P k = false := fun k q1 q2 => by rw [show k = c by omega]; exact k3
            rw [s0_makeVoid_f j7 j9 k2 j2.1, vd_gap (show c ≤ c + 1 by omega) k4, vd_gap (show c ≤ c + 1 by omega) k4, k3]
            simp (disch := omega) only [q_inb, q_isZ0, q_isZ1, q_leT, q_leF, q_ltT, q_ltF, q_eqT, q_eqF, nI_leI, nI_ltI, nI_eq, nI_add, pk_mul, q_sub, pk_sub, q_mod, pk_div, nI_clamp, q_not, q_m1, q_z1, q_n1lt, Nat.add_zero, Nat.zero_add, q_nT, q_nF, ↓reduceIte, bd0_s, bd1_s, bd2_s, bd3_s, bd4_s, bd5_s, bd6_s, bd7_s, bd8_s, bd9_s, lt_s_, qL0, qL1, qL2, qL3, qL4, qL5, qL6, qL7, qL8, qL9, qL10, qL11, qL12, qL13, qL14, qL15, qL16, qL17, qL21, qL25, qL26, qL31, qL33, qL40, qL43, qL45, qL48, qL49, qL57, qL58, qL59, qL60, qL61, qL65, qL90, qL97, qL98, qL99, qL118, qL119, qL126, qL240, qL261, qL501, qL999, qL1000, qL1002, qL2505, qL3006, qL999999, qL1000000]
            rfl)
        rw [show lo + (hi + 1 - lo) = hi + 1 by omega] at ht2
        refine Eq.trans ht2 ?_
        rw [f0_makeRunVoid_l47, if_pos (nI_lt (Nat.lt_succ_self hi) (by omega))]
    rw [f0_makeRunVoid_l5, if_neg (nI_ge hb (by omega)), h2, bd1_s, h3, bd1_s, lt_s_, e1, nI_1])
  rw [show 40 * 0 = 0 from rfl, vd_0, vd_0] at ht
  unfold f0_makeRunVoid
  refine Eq.trans ht ?_
  rw [f0_makeRunVoid_l5, if_pos (nI_le (Nat.le_refl h) (by omega))]
/-- the reference's row with the first n cells done -/
def vg (P : Nat → Bool) (g : Nat → Int32) (n : Nat) : Nat → Int32 := fun j => if 21 ≤ j ∧ j < 21 + n ∧ P (j - 21) = true then nI 3 else if 261 ≤ j ∧ j < 261 + n ∧ P (j - 261) = true then nI 0 else g j
theorem vg_0 {P : Nat → Bool} {g : Nat → Int32} : vg P g 0 = g := by
  funext j
  unfold vg
  rw [if_neg (by omega), if_neg (by omega)]
theorem vg_t {P : Nat → Bool} {g : Nat → Int32} {n : Nat} (hn : n < 240) (h : P n = true) : upd (upd (vg P g n) (21 + n) (nI 3)) (261 + n) (nI 0) = vg P g (n + 1) := by
  funext c
  rw [upd_eq, upd_eq]
  unfold vg
  by_cases e1 : c = 261 + n
  · subst e1
    rw [if_pos rfl, if_neg (by omega), if_pos ⟨by omega, by omega, by rw [Nat.add_sub_cancel_left]; exact h⟩]
  · rw [if_neg e1]
    by_cases e2 : c = 21 + n
    · subst e2
      rw [if_pos rfl, if_pos ⟨by omega, by omega, by rw [Nat.add_sub_cancel_left]; exact h⟩]
    · rw [if_neg e2]
      have e3 : (21 ≤ c ∧ c < 21 + n ∧ P (c - 21) = true) ↔ (21 ≤ c ∧ c < 21 + (n + 1) ∧ P (c - 21) = true) := ⟨fun q => ⟨q.1, by omega, q.2.2⟩, fun q => ⟨q.1, by omega, q.2.2⟩⟩
      have e4 : (261 ≤ c ∧ c < 261 + n ∧ P (c - 261) = true) ↔ (261 ≤ c ∧ c < 261 + (n + 1) ∧ P (c - 261) = true) := ⟨fun q => ⟨q.1, by omega, q.2.2⟩, fun q => ⟨q.1, by omega, q.2.2⟩⟩
      by_cases q1 : 21 ≤ c ∧ c < 21 + n ∧ P (c - 21) = true
      · rw [if_pos q1, if_pos (e3.mp q1)]
      · rw [if_neg q1, if_neg fun q => q1 (e3.mpr q)]
        by_cases q2 : 261 ≤ c ∧ c < 261 + n ∧ P (c - 261) = true
        · rw [if_pos q2, if_pos (e4.mp q2)]
        · rw [if_neg q2, if_neg fun q => q2 (e4.mpr q)]
theorem vg_f {P : Nat → Bool} {g : Nat → Int32} {n : Nat} (h : P n = false) : vg P g (n + 1) = vg P g n := by
  funext c
  unfold vg
  have ne : ∀ k, k = n → ¬ P k = true := fun k hk q => by rw [hk, h] at q; cases q
  by_cases q1 : 21 ≤ c ∧ c < 21 + n ∧ P (c - 21) = true
  · rw [if_pos q1, if_pos ⟨q1.1, by omega, q1.2.2⟩]
  · rw [if_neg q1, if_neg fun q => q1 ⟨q.1, by
      by_cases z : c - 21 = n
      · exact absurd q.2.2 (ne _ z)
      · omega, q.2.2⟩]
    by_cases q2 : 261 ≤ c ∧ c < 261 + n ∧ P (c - 261) = true
    · rw [if_pos q2, if_pos ⟨q2.1, by omega, q2.2.2⟩]
    · rw [if_neg q2, if_neg fun q => q2 ⟨q.1, by
        by_cases z : c - 261 = n
        · exact absurd q.2.2 (ne _ z)
        · omega, q.2.2⟩]
theorem vg_low {P : Nat → Bool} {g : Nat → Int32} {n j : Nat} (hj : j < 21) : vg P g n j = g j := by
  unfold vg
  rw [if_neg (by omega), if_neg (by omega)]
theorem s6_isCheque {h : Nat} {F Z : NF} {g : Nat → Int32} (Hw : wB_ h F Z) (H : mB_ h F Z g) {c : Nat} (hc : c < 40 * h) : f6_isCheque g (nI c) = some (nI (if c % 40 < Z (c / 40) then 1 else 0)) := by
  have hh := Hw.1
  have h1 := s6_countOf Hw H (b := c / 40) (by omega)
  have h2 := Hw.2.1 (c / 40) (by omega)
  have e1 : nI c / (40 : Int32) = nI (c / 40) := by simp (disch := omega) only [q_inb, q_isZ0, q_isZ1, q_leT, q_leF, q_ltT, q_ltF, q_eqT, q_eqF, nI_leI, nI_ltI, nI_eq, nI_add, pk_mul, q_sub, pk_sub, q_mod, pk_div, nI_clamp, q_not, q_m1, q_z1, q_n1lt, Nat.add_zero, Nat.zero_add, q_nT, q_nF, ↓reduceIte, bd0_s, bd1_s, bd2_s, bd3_s, bd4_s, bd5_s, bd6_s, bd7_s, bd8_s, bd9_s, lt_s_, qL0, qL1, qL2, qL3, qL4, qL5, qL6, qL7, qL8, qL9, qL10, qL11, qL12, qL13, qL14, qL15, qL16, qL17, qL21, qL25, qL26, qL31, qL33, qL40, qL43, qL45, qL48, qL49, qL57, qL58, qL59, qL60, qL61, qL65, qL90, qL97, qL98, qL99, qL118, qL119, qL126, qL240, qL261, qL501, qL999, qL1000, qL1002, qL2505, qL3006, qL999999, qL1000000]
  have e2 : nI c - nI (c / 40) * (40 : Int32) = nI (c % 40) := by simp (disch := omega) only [q_inb, q_isZ0, q_isZ1, q_leT, q_leF, q_ltT, q_ltF, q_eqT, q_eqF, nI_leI, nI_ltI, nI_eq, nI_add, pk_mul, q_sub, pk_sub, q_mod, pk_div, nI_clamp, q_not, q_m1, q_z1, q_n1lt, Nat.add_zero, Nat.zero_add, q_nT, q_nF, ↓reduceIte, bd0_s, bd1_s, bd2_s, bd3_s, bd4_s, bd5_s, bd6_s, bd7_s, bd8_s, bd9_s, lt_s_, qL0, qL1, qL2, qL3, qL4, qL5, qL6, qL7, qL8, qL9, qL10, qL11, qL12, qL13, qL14, qL15, qL16, qL17, qL21, qL25, qL26, qL31, qL33, qL40, qL43, qL45, qL48, qL49, qL57, qL58, qL59, qL60, qL61, qL65, qL90, qL97, qL98, qL99, qL118, qL119, qL126, qL240, qL261, qL501, qL999, qL1000, qL1002, qL2505, qL3006, qL999999, qL1000000]
  unfold f6_isCheque
  rw [e1, h1, bd1_s, e2]
  by_cases h3 : c % 40 < Z (c / 40)
  · rw [if_pos h3]
    simp (disch := omega) only [q_inb, q_isZ0, q_isZ1, q_leT, q_leF, q_ltT, q_ltF, q_eqT, q_eqF, nI_leI, nI_ltI, nI_eq, nI_add, pk_mul, q_sub, pk_sub, q_mod, pk_div, nI_clamp, q_not, q_m1, q_z1, q_n1lt, Nat.add_zero, Nat.zero_add, q_nT, q_nF, ↓reduceIte, bd0_s, bd1_s, bd2_s, bd3_s, bd4_s, bd5_s, bd6_s, bd7_s, bd8_s, bd9_s, lt_s_, qL0, qL1, qL2, qL3, qL4, qL5, qL6, qL7, qL8, qL9, qL10, qL11, qL12, qL13, qL14, qL15, qL16, qL17, qL21, qL25, qL26, qL31, qL33, qL40, qL43, qL45, qL48, qL49, qL57, qL58, qL59, qL60, qL61, qL65, qL90, qL97, qL98, qL99, qL118, qL119, qL126, qL240, qL261, qL501, qL999, qL1000, qL1002, qL2505, qL3006, qL999999, qL1000000]
  · rw [if_neg h3]
    simp (disch := omega) only [q_inb, q_isZ0, q_isZ1, q_leT, q_leF, q_ltT, q_ltF, q_eqT, q_eqF, nI_leI, nI_ltI, nI_eq, nI_add, pk_mul, q_sub, pk_sub, q_mod, pk_div, nI_clamp, q_not, q_m1, q_z1, q_n1lt, Nat.add_zero, Nat.zero_add, q_nT, q_nF, ↓reduceIte, bd0_s, bd1_s, bd2_s, bd3_s, bd4_s, bd5_s, bd6_s, bd7_s, bd8_s, bd9_s, lt_s_, qL0, qL1, qL2, qL3, qL4, qL5, qL6, qL7, qL8, qL9, qL10, qL11, qL12, qL13, qL14, qL15, qL16, qL17, qL21, qL25, qL26, qL31, qL33, qL40, qL43, qL45, qL48, qL49, qL57, qL58, qL59, qL60, qL61, qL65, qL90, qL97, qL98, qL99, qL118, qL119, qL126, qL240, qL261, qL501, qL999, qL1000, qL1002, qL2505, qL3006, qL999999, qL1000000]
theorem s6_serialAt {h : Nat} {F Z : NF} {g : Nat → Int32} (Hw : wB_ h F Z) (H : mB_ h F Z g) {c : Nat} (hc : c < 40 * h) : f6_serialAt g (nI c) = some (nI (F (c / 40) + c % 40)) := by
  have hh := Hw.1
  have h1 := s6_firstOf Hw H (b := c / 40) (by omega)
  have e1 : nI c / (40 : Int32) = nI (c / 40) := by simp (disch := omega) only [q_inb, q_isZ0, q_isZ1, q_leT, q_leF, q_ltT, q_ltF, q_eqT, q_eqF, nI_leI, nI_ltI, nI_eq, nI_add, pk_mul, q_sub, pk_sub, q_mod, pk_div, nI_clamp, q_not, q_m1, q_z1, q_n1lt, Nat.add_zero, Nat.zero_add, q_nT, q_nF, ↓reduceIte, bd0_s, bd1_s, bd2_s, bd3_s, bd4_s, bd5_s, bd6_s, bd7_s, bd8_s, bd9_s, lt_s_, qL0, qL1, qL2, qL3, qL4, qL5, qL6, qL7, qL8, qL9, qL10, qL11, qL12, qL13, qL14, qL15, qL16, qL17, qL21, qL25, qL26, qL31, qL33, qL40, qL43, qL45, qL48, qL49, qL57, qL58, qL59, qL60, qL61, qL65, qL90, qL97, qL98, qL99, qL118, qL119, qL126, qL240, qL261, qL501, qL999, qL1000, qL1002, qL2505, qL3006, qL999999, qL1000000]
  have e2 : nI c - nI (c / 40) * (40 : Int32) = nI (c % 40) := by simp (disch := omega) only [q_inb, q_isZ0, q_isZ1, q_leT, q_leF, q_ltT, q_ltF, q_eqT, q_eqF, nI_leI, nI_ltI, nI_eq, nI_add, pk_mul, q_sub, pk_sub, q_mod, pk_div, nI_clamp, q_not, q_m1, q_z1, q_n1lt, Nat.add_zero, Nat.zero_add, q_nT, q_nF, ↓reduceIte, bd0_s, bd1_s, bd2_s, bd3_s, bd4_s, bd5_s, bd6_s, bd7_s, bd8_s, bd9_s, lt_s_, qL0, qL1, qL2, qL3, qL4, qL5, qL6, qL7, qL8, qL9, qL10, qL11, qL12, qL13, qL14, qL15, qL16, qL17, qL21, qL25, qL26, qL31, qL33, qL40, qL43, qL45, qL48, qL49, qL57, qL58, qL59, qL60, qL61, qL65, qL90, qL97, qL98, qL99, qL118, qL119, qL126, qL240, qL261, qL501, qL999, qL1000, qL1002, qL2505, qL3006, qL999999, qL1000000]
  unfold f6_serialAt
  rw [e1, h1, bd1_s, e2, nI_add]
theorem mB_low {h : Nat} {F Z : NF} {g g' : Nat → Int32} (hh : h ≤ 6) (H : mB_ h F Z g) (e : ∀ j, j < 21 → g' j = g j) : mB_ h F Z g' := ⟨by rw [e 0 (by decide)]; exact H.1, fun b hb => by rw [e _ (by omega), e _ (by omega)]; exact H.2 b hb⟩
theorem s6_voids {h : Nat} {F Z K M : NF} {g : Nat → Int32} (hB : wB_ h F Z) (hK : wK_ h Z K M) (mB : mB_ h F Z g) (mK : mK_ h Z K M g) {u v : Nat} (hu : u < 1000000) (hv : v < 1000000) :
    f6_voids g (nI u) (nI v) = some (nI (fb_ct (hit h F Z K u v) (40 * h)), vg (hit h F Z K u v) g (40 * h)) := by
  have hh := hB.1
  generalize hP : hit h F Z K u v = P
  have hct : ∀ n, n ≤ 240 → fb_ct P n ≤ 240 := fun n hn => Nat.le_trans (fb_ct_le P n) hn
  obtain ⟨t, ht⟩ := traj0 (fun c t => f6_voids_l5 (nI u) (nI v) t (nI (fb_ct P c)) (nI c) (vg P g c)) (40 * h) (by omega) (fun c t hc => by
    have mB' : mB_ h F Z (vg P g c) := mB_low hh mB fun j hj => vg_low hj
    have h0 : vg P g c 0 = nI h := mB'.1
    have h1 := s6_isCheque hB mB' hc
    have h2 := s6_serialAt hB mB' hc
    have h3 := hB.2.1 (c / 40) (by omega)
    have h4 := hct c (by omega)
    have hm : ∀ x, x < 40 → (P (40 * (c / 40) + x) = true ↔ c / 40 < h ∧ x < Z (c / 40) ∧ u ≤ F (c / 40) + x ∧ F (c / 40) + x ≤ v ∧ K (40 * (c / 40) + x) < 2) := fun x hx => by
      rw [← hP]
      exact hit_iff hx
    have h5 := hm (c % 40) (by omega)
    have h6 := mK (c / 40) (c % 40) (by omega)
    have h7 := hK (c / 40) (c % 40) (by omega)
    rw [show 40 * (c / 40) + c % 40 = c by omega] at h5 h6 h7
    have g1 : vg P g c (21 + c) = g (21 + c) := by
      unfold vg
      rw [if_neg (by omega), if_neg (by omega)]
    have g2 : vg P g c (261 + c) = g (261 + c) := by
      unfold vg
      rw [if_neg (by omega), if_neg (by omega)]
    have n1 : upd (vg P g c) (21 + c) (g (21 + c)) = vg P g c := upd_id g1
    have n2 : upd (vg P g c) (261 + c) (g (261 + c)) = vg P g c := upd_id g2
    have stay : ∀ n, P c = false → (f6_voids_j60 (f6_voids_l5 (nI u) (nI v) n) (vg P g c) (nI u) (nI v) (nI (fb_ct P c)) (nI c) = f6_voids_l5 (nI u) (nI v) n (nI (fb_ct P (c + 1))) (nI (c + 1)) (vg P g (c + 1))) := fun n hp => by
      rw [vg_f hp, fb_ct_succ, hp]
      simp (disch := omega) only [q_inb, q_isZ0, q_isZ1, q_leT, q_leF, q_ltT, q_ltF, q_eqT, q_eqF, nI_leI, nI_ltI, nI_eq, nI_add, pk_mul, q_sub, pk_sub, q_mod, pk_div, nI_clamp, q_not, q_m1, q_z1, q_n1lt, Nat.add_zero, Nat.zero_add, q_nT, q_nF, ↓reduceIte, bd0_s, bd1_s, bd2_s, bd3_s, bd4_s, bd5_s, bd6_s, bd7_s, bd8_s, bd9_s, lt_s_, qL0, qL1, qL2, qL3, qL4, qL5, qL6, qL7, qL8, qL9, qL10, qL11, qL12, qL13, qL14, qL15, qL16, qL17, qL21, qL25, qL26, qL31, qL33, qL40, qL43, qL45, qL48, qL49, qL57, qL58, qL59, qL60, qL61, qL65, qL90, qL97, qL98, qL99, qL118, qL119, qL126, qL240, qL261, qL501, qL999, qL1000, qL1002, qL2505, qL3006, qL999999, qL1000000, f6_voids_j60, f6_voids_j61, f6_voids_j91, f6_voids_j122, f6_voids_j134, g1, g2, n1, n2]
      rfl
    rw [f6_voids_l5, h1, bd1_s]
    by_cases c1 : c % 40 < Z (c / 40)
    · rw [if_pos c1]
      by_cases c2 : u ≤ F (c / 40) + c % 40 ∧ F (c / 40) + c % 40 ≤ v
      · have h8 := s6_in_t (a := F (c / 40) + c % 40) (b := u) (c := v) (by omega) (by omega) c2
        have h9 := (h6 c1).1
        have h10 := (h7 c1).1
        by_cases c3 : K c < 2
        · have hp : P c = true := h5.mpr ⟨by omega, c1, c2.1, c2.2, c3⟩
          have n3 := vg_t (g := g) (show c < 240 by omega) hp
          rw [fb_ct_succ, hp]
          simp (disch := omega) only [q_inb, q_isZ0, q_isZ1, q_leT, q_leF, q_ltT, q_ltF, q_eqT, q_eqF, nI_leI, nI_ltI, nI_eq, nI_add, pk_mul, q_sub, pk_sub, q_mod, pk_div, nI_clamp, q_not, q_m1, q_z1, q_n1lt, Nat.add_zero, Nat.zero_add, q_nT, q_nF, ↓reduceIte, bd0_s, bd1_s, bd2_s, bd3_s, bd4_s, bd5_s, bd6_s, bd7_s, bd8_s, bd9_s, lt_s_, qL0, qL1, qL2, qL3, qL4, qL5, qL6, qL7, qL8, qL9, qL10, qL11, qL12, qL13, qL14, qL15, qL16, qL17, qL21, qL25, qL26, qL31, qL33, qL40, qL43, qL45, qL48, qL49, qL57, qL58, qL59, qL60, qL61, qL65, qL90, qL97, qL98, qL99, qL118, qL119, qL126, qL240, qL261, qL501, qL999, qL1000, qL1002, qL2505, qL3006, qL999999, qL1000000, h0, h2, h8, g1, h9, f6_voids_j60, f6_voids_j61, f6_voids_j91, f6_voids_j122, f6_voids_j134, n3]
        · have hp : P c = false := by
            cases hp : P c
            · rfl
            · exact absurd (h5.mp hp).2.2.2.2 c3
          simp (disch := omega) only [q_inb, q_isZ0, q_isZ1, q_leT, q_leF, q_ltT, q_ltF, q_eqT, q_eqF, nI_leI, nI_ltI, nI_eq, nI_add, pk_mul, q_sub, pk_sub, q_mod, pk_div, nI_clamp, q_not, q_m1, q_z1, q_n1lt, Nat.add_zero, Nat.zero_add, q_nT, q_nF, ↓reduceIte, bd0_s, bd1_s, bd2_s, bd3_s, bd4_s, bd5_s, bd6_s, bd7_s, bd8_s, bd9_s, lt_s_, qL0, qL1, qL2, qL3, qL4, qL5, qL6, qL7, qL8, qL9, qL10, qL11, qL12, qL13, qL14, qL15, qL16, qL17, qL21, qL25, qL26, qL31, qL33, qL40, qL43, qL45, qL48, qL49, qL57, qL58, qL59, qL60, qL61, qL65, qL90, qL97, qL98, qL99, qL118, qL119, qL126, qL240, qL261, qL501, qL999, qL1000, qL1002, qL2505, qL3006, qL999999, qL1000000, h0, h2, h8, g1, h9, stay _ hp]
      · have h8 := s6_in_f (a := F (c / 40) + c % 40) (b := u) (c := v) (by omega) (by omega) (by omega) c2
        have hp : P c = false := by
          cases hp : P c
          · rfl
          · have := h5.mp hp; omega
        simp (disch := omega) only [q_inb, q_isZ0, q_isZ1, q_leT, q_leF, q_ltT, q_ltF, q_eqT, q_eqF, nI_leI, nI_ltI, nI_eq, nI_add, pk_mul, q_sub, pk_sub, q_mod, pk_div, nI_clamp, q_not, q_m1, q_z1, q_n1lt, Nat.add_zero, Nat.zero_add, q_nT, q_nF, ↓reduceIte, bd0_s, bd1_s, bd2_s, bd3_s, bd4_s, bd5_s, bd6_s, bd7_s, bd8_s, bd9_s, lt_s_, qL0, qL1, qL2, qL3, qL4, qL5, qL6, qL7, qL8, qL9, qL10, qL11, qL12, qL13, qL14, qL15, qL16, qL17, qL21, qL25, qL26, qL31, qL33, qL40, qL43, qL45, qL48, qL49, qL57, qL58, qL59, qL60, qL61, qL65, qL90, qL97, qL98, qL99, qL118, qL119, qL126, qL240, qL261, qL501, qL999, qL1000, qL1002, qL2505, qL3006, qL999999, qL1000000, h0, h2, h8, stay _ hp]
    · have hp : P c = false := by
        cases hp : P c
        · rfl
        · exact absurd (h5.mp hp).2.1 c1
      rw [if_neg c1]
      simp (disch := omega) only [q_inb, q_isZ0, q_isZ1, q_leT, q_leF, q_ltT, q_ltF, q_eqT, q_eqF, nI_leI, nI_ltI, nI_eq, nI_add, pk_mul, q_sub, pk_sub, q_mod, pk_div, nI_clamp, q_not, q_m1, q_z1, q_n1lt, Nat.add_zero, Nat.zero_add, q_nT, q_nF, ↓reduceIte, bd0_s, bd1_s, bd2_s, bd3_s, bd4_s, bd5_s, bd6_s, bd7_s, bd8_s, bd9_s, lt_s_, qL0, qL1, qL2, qL3, qL4, qL5, qL6, qL7, qL8, qL9, qL10, qL11, qL12, qL13, qL14, qL15, qL16, qL17, qL21, qL25, qL26, qL31, qL33, qL40, qL43, qL45, qL48, qL49, qL57, qL58, qL59, qL60, qL61, qL65, qL90, qL97, qL98, qL99, qL118, qL119, qL126, qL240, qL261, qL501, qL999, qL1000, qL1002, qL2505, qL3006, qL999999, qL1000000, h0, stay _ hp])
  rw [vg_0] at ht
  unfold f6_voids
  refine Eq.trans ht ?_
  have h0 : vg P g (40 * h) 0 = nI h := by rw [vg_low (by decide)]; exact mB.1
  rw [f6_voids_l5]
  simp (disch := omega) only [q_inb, q_isZ0, q_isZ1, q_leT, q_leF, q_ltT, q_ltF, q_eqT, q_eqF, nI_leI, nI_ltI, nI_eq, nI_add, pk_mul, q_sub, pk_sub, q_mod, pk_div, nI_clamp, q_not, q_m1, q_z1, q_n1lt, Nat.add_zero, Nat.zero_add, q_nT, q_nF, ↓reduceIte, bd0_s, bd1_s, bd2_s, bd3_s, bd4_s, bd5_s, bd6_s, bd7_s, bd8_s, bd9_s, lt_s_, qL0, qL1, qL2, qL3, qL4, qL5, qL6, qL7, qL8, qL9, qL10, qL11, qL12, qL13, qL14, qL15, qL16, qL17, qL21, qL25, qL26, qL31, qL33, qL40, qL43, qL45, qL48, qL49, qL57, qL58, qL59, qL60, qL61, qL65, qL90, qL97, qL98, qL99, qL118, qL119, qL126, qL240, qL261, qL501, qL999, qL1000, qL1002, qL2505, qL3006, qL999999, qL1000000, h0]
theorem op_void {sr wm : Int32} {wW : Nat → Int32} {h m : Nat} {W F Z K M : NF} {bF bZ bK bM g : Nat → Int32} (hW : wW_ m W) (hB : wB_ h F Z) (hK : wK_ h Z K M) (cW : cW_ m W wm wW) (cB : cB_ h F Z (nI h) bF bZ) (cK : cK_ h Z K M bK bM) (mW : mW_ m W g) (mB : mB_ h F Z g) (mK : mK_ h Z K M g) (hr : g 2 = sr)
    {u v : Nat} (hu : u < 1000000) (hv : v < 1000000) :
    ∃ n bK' bM' g', n ≤ 240 ∧ f0_makeRunVoid (nI h) bF bZ bK bM (nI u) (nI v) = some (nI n, bK', bM') ∧ f6_voids g (nI u) (nI v) = some (nI n, g') ∧ Bk sr wm wW (nI h) bF bZ bK' bM' g' := by
  have hh := hB.1
  refine ⟨_, _, _, _, Nat.le_trans (fb_ct_le _ _) (show 40 * h ≤ 240 by omega), s0_makeRunVoid hB hK cB cK hu hv, s6_voids hB hK mB mK hu hv, h, m, W, F, Z, fun c => if hit h F Z K u v c = true then 3 else K c, fun c => if hit h F Z K u v c = true then 0 else M c, hW, hB, fun b j hb hj => ?_, cW, cB, fun b j hb hj => ?_, ⟨?_, fun p hp => ?_⟩, mB_low hh mB fun j hj => vg_low hj, fun b j hb hj => ?_, ?_⟩
  · dsimp only
    by_cases e : hit h F Z K u v (40 * b + j) = true
    · rw [if_pos e, if_pos e]; omega
    · rw [if_neg e, if_neg e]; exact hK b j hb hj
  · have h1 := hB.2.1 b hb
    unfold vd
    dsimp only
    by_cases e : hit h F Z K u v (40 * b + j) = true
    · have e2 : 40 * b + j < 40 * h ∧ hit h F Z K u v (40 * b + j) = true := ⟨by omega, e⟩
      rw [if_pos e, if_pos e, if_pos e2, if_pos e2]; exact ⟨rfl, rfl⟩
    · have e2 : ¬ (40 * b + j < 40 * h ∧ hit h F Z K u v (40 * b + j) = true) := fun q => e q.2
      rw [if_neg e, if_neg e, if_neg e2, if_neg e2]; exact cK b j hb hj
  · rw [vg_low (by decide)]; exact mW.1
  · rw [vg_low (by omega)]; exact mW.2 p hp
  · have h1 := hB.2.1 b hb
    have h2 := mK b j hb hj
    unfold vg
    dsimp only
    rw [Nat.add_sub_cancel_left, Nat.add_sub_cancel_left]
    by_cases e : hit h F Z K u v (40 * b + j) = true
    · rw [if_pos e, if_pos e]
      refine ⟨if_pos ⟨by omega, by omega, e⟩, ?_⟩
      rw [if_neg (by omega), if_pos ⟨by omega, by omega, e⟩]
    · rw [if_neg e, if_neg e]
      refine ⟨?_, ?_⟩
      · rw [if_neg fun q => e q.2.2, if_neg (by omega)]; exact h2.1
      · rw [if_neg (by omega), if_neg fun q => e q.2.2]; exact h2.2
  · rw [vg_low (by decide)]; exact hr
