
/-! ===== pure rows: what is found; shares ===== -/
theorem div_0 : ∀ b, b < 60 → 1 ≤ b → ∀ a, a < b + 1 → FP.ddiv (FP.i2d (Int32.ofNat a)) (FP.i2d (Int32.ofNat b)) &&& 0x7fffffffffffffff ≤ 0x7ff0000000000000 := by decide +kernel
theorem div_1 : ∀ b, b < 100 → 60 ≤ b → ∀ a, a < b + 1 → FP.ddiv (FP.i2d (Int32.ofNat a)) (FP.i2d (Int32.ofNat b)) &&& 0x7fffffffffffffff ≤ 0x7ff0000000000000 := by decide +kernel
theorem div_2 : ∀ b, b < 130 → 100 ≤ b → ∀ a, a < b + 1 → FP.ddiv (FP.i2d (Int32.ofNat a)) (FP.i2d (Int32.ofNat b)) &&& 0x7fffffffffffffff ≤ 0x7ff0000000000000 := by decide +kernel
theorem div_3 : ∀ b, b < 155 → 130 ≤ b → ∀ a, a < b + 1 → FP.ddiv (FP.i2d (Int32.ofNat a)) (FP.i2d (Int32.ofNat b)) &&& 0x7fffffffffffffff ≤ 0x7ff0000000000000 := by decide +kernel
theorem div_4 : ∀ b, b < 180 → 155 ≤ b → ∀ a, a < b + 1 → FP.ddiv (FP.i2d (Int32.ofNat a)) (FP.i2d (Int32.ofNat b)) &&& 0x7fffffffffffffff ≤ 0x7ff0000000000000 := by decide +kernel
theorem div_5 : ∀ b, b < 200 → 180 ≤ b → ∀ a, a < b + 1 → FP.ddiv (FP.i2d (Int32.ofNat a)) (FP.i2d (Int32.ofNat b)) &&& 0x7fffffffffffffff ≤ 0x7ff0000000000000 := by decide +kernel
theorem div_6 : ∀ b, b < 220 → 200 ≤ b → ∀ a, a < b + 1 → FP.ddiv (FP.i2d (Int32.ofNat a)) (FP.i2d (Int32.ofNat b)) &&& 0x7fffffffffffffff ≤ 0x7ff0000000000000 := by decide +kernel
theorem div_7 : ∀ b, b < 241 → 220 ≤ b → ∀ a, a < b + 1 → FP.ddiv (FP.i2d (Int32.ofNat a)) (FP.i2d (Int32.ofNat b)) &&& 0x7fffffffffffffff ≤ 0x7ff0000000000000 := by decide +kernel
theorem div_num {a b : Nat} (h1 : 1 ≤ b) (h2 : b ≤ 240) (h3 : a ≤ b) : FP.ddiv (FP.i2d (nI a)) (FP.i2d (nI b)) &&& 0x7fffffffffffffff ≤ 0x7ff0000000000000 := by
  by_cases q0 : b < 60
  · exact div_0 b q0 (by omega) a (by omega)
  by_cases q1 : b < 100
  · exact div_1 b q1 (by omega) a (by omega)
  by_cases q2 : b < 130
  · exact div_2 b q2 (by omega) a (by omega)
  by_cases q3 : b < 155
  · exact div_3 b q3 (by omega) a (by omega)
  by_cases q4 : b < 180
  · exact div_4 b q4 (by omega) a (by omega)
  by_cases q5 : b < 200
  · exact div_5 b q5 (by omega) a (by omega)
  by_cases q6 : b < 220
  · exact div_6 b q6 (by omega) a (by omega)
  by_cases q7 : b < 241
  · exact div_7 b q7 (by omega) a (by omega)
  omega
theorem s2_hides {m : Nat} {W : NF} {wm : Int32} {wW : Nat → Int32} (cW : cW_ m W wm wW) {k N : Nat} (hN : N ≤ 6) (hp : f5_positionsOf (nI k) = some (nI N)) {v : Nat → Nat} (hv : ∀ p, p < N → v p ≤ 81 ∧ ∃ x, f2_factorAt wW (nI p) (nI k) = some x ∧ f2_hiddenPairs wm x = some (nI (v p))) :
    ((∀ p, p < N → v p = 0) → f2_hidesNothing wm wW (nI k) = some (nI 1)) ∧ ((∃ p, p < N ∧ v p ≠ 0) → f2_hidesNothing wm wW (nI k) = some (nI 0)) := by
  have step : ∀ i t, i < N → v i = 0 → f2_hidesNothing_l2 wm wW (nI k) (t + 1) (nI i) = f2_hidesNothing_l2 wm wW (nI k) t (nI (i + 1)) := fun i t hi h0 => by
    obtain ⟨-, x, h1, h2⟩ := hv i hi
    rw [f2_hidesNothing_l2, hp, bd1_s, if_neg (nI_ge hi (by omega)), h1, bd1_s, h2, bd1_s, h0, if_pos (by decide), nI_1]
  constructor
  · intro h0
    obtain ⟨t, ht⟩ := traj0 (fun i t => f2_hidesNothing_l2 wm wW (nI k) t (nI i)) N (by omega) (fun i t hi => step i t hi (h0 i hi))
    unfold f2_hidesNothing
    refine Eq.trans ht ?_
    rw [f2_hidesNothing_l2, hp, bd1_s, if_pos (nI_le (Nat.le_refl N) (by omega))]
    rfl
  · intro hx
    obtain ⟨i, i1, i2, i3⟩ := fb_first hx
    obtain ⟨t, ht⟩ := traj0 (fun i t => f2_hidesNothing_l2 wm wW (nI k) t (nI i)) i (by omega) (fun j t hj => step j t (by omega) (Classical.not_not.mp (i3 j hj)))
    obtain ⟨h3, x, h1, h2⟩ := hv i i1
    unfold f2_hidesNothing
    refine Eq.trans ht ?_
    rw [f2_hidesNothing_l2, hp, bd1_s, if_neg (nI_ge i1 (by omega)), h1, bd1_s, h2, bd1_s, if_neg (nI_nle (by omega) (by omega))]
    rfl
theorem sm_zero {v : Nat → Nat} {n : Nat} : fb_sm v n = 0 ↔ ∀ p, p < n → v p = 0 := ⟨fb_sm_zero, fun h => fb_sm_none h⟩
/-- finds, of a kind 0 or 1 -/
theorem op_finds {m : Nat} {W : NF} {wm : Int32} {wW g : Nat → Int32} (hW : wW_ m W) (cW : cW_ m W wm wW) (mW : mW_ m W g) {k : Nat} (hk : k ≤ 1) : ∃ w c, w ≤ 486 ∧ f6_weakOf g (nI k) = some (nI w) ∧ f2_hidesNothing wm wW (nI k) = some (nI c) ∧ c = if w = 0 then 1 else 0 := by
  have hm1 := hW.1
  have hm2 := hW.2.1
  rcases (show k = 0 ∨ k = 1 by omega) with rfl | rfl
  · have h1 := s2_hides cW (k := 0) (N := 6) (Nat.le_refl 6) (by decide) (v := twa m W) (fun p hp => ⟨twa_le m W p, _, s2_factorAt0 cW hp, by
      have := (hW.2.2 p hp).2
      rw [cW.1]
      exact s2_hiddenPairs hm1 hm2 (sg_p (W p)) (by omega)⟩)
    have hle : fb_sm (twa m W) 6 ≤ 6 * 81 := fb_sm_bound fun p _ => twa_le m W p
    by_cases z : fb_sm (twa m W) 6 = 0
    · exact ⟨_, 1, hle, s6_weakOf0 hW mW, h1.1 (sm_zero.mp z), by rw [if_pos z]⟩
    · refine ⟨_, 0, hle, s6_weakOf0 hW mW, h1.2 ?_, by rw [if_neg z]⟩
      exact Classical.byContradiction fun y => z (sm_zero.mpr fun p hp => Classical.byContradiction fun x => y ⟨p, hp, x⟩)
  · have h1 := s2_hides cW (k := 1) (N := 5) (by decide) (by decide) (v := twb m W) (fun p hp => ⟨twb_le m W p, _, s2_factorAt1 cW hp, by
      have h3 := (hW.2.2 p (by omega)).2
      have h4 := (hW.2.2 (p + 1) (by omega)).2
      have h5 : twb m W p = pr m (df (W p) (W (p + 1))) := if_pos (by omega)
      rw [cW.1, h5]
      exact s2_hiddenPairs hm1 hm2 (sg_sub (W p) (W (p + 1))) (df_le (c := 1000) (by omega) (by omega))⟩)
    have hle : fb_sm (twb m W) 6 ≤ 6 * 81 := fb_sm_bound fun p _ => twb_le m W p
    have h5 : twb m W 5 = 0 := if_neg (by decide)
    by_cases z : fb_sm (twb m W) 6 = 0
    · exact ⟨_, 1, hle, s6_weakOf1 hW mW, h1.1 (fun p hp => sm_zero.mp z p (by omega)), by rw [if_pos z]⟩
    · refine ⟨_, 0, hle, s6_weakOf1 hW mW, h1.2 ?_, by rw [if_neg z]⟩
      exact Classical.byContradiction fun y => z (sm_zero.mpr fun p hp => Classical.byContradiction fun x => by
        by_cases e : p = 5
        · rw [e] at x; exact x h5
        · exact y ⟨p, by omega, x⟩)
/-- the pairs at a position, of a kind -/
theorem op_weak {m : Nat} {W : NF} {wm : Int32} {wW g : Nat → Int32} (hW : wW_ m W) (cW : cW_ m W wm wW) (mW : mW_ m W g) {p k : Nat} (hk : k ≤ 1) (hp : p + k < 6) : ∃ x v, f2_factorAt wW (nI p) (nI k) = some x ∧ f2_hiddenPairs wm x = some (nI v) ∧ f2_hiddenPairsTried wm x = some (nI v) ∧ f6_weakAt g (nI p) (nI k) = some (nI v) := by
  have hm1 := hW.1
  have hm2 := hW.2.1
  have h3 := (hW.2.2 p (by omega)).2
  rcases (show k = 0 ∨ k = 1 by omega) with rfl | rfl
  · refine ⟨_, _, s2_factorAt0 cW (by omega), ?_, ?_, s6_weakAt0 hW mW (by omega)⟩
    · rw [cW.1]
      exact s2_hiddenPairs hm1 hm2 (sg_p (W p)) (by omega)
    · rw [cW.1]
      exact s2_hiddenPairsTried hm1 hm2 (sg_p (W p)) h3
  · have h4 := (hW.2.2 (p + 1) (by omega)).2
    have h5 : twb m W p = pr m (df (W p) (W (p + 1))) := if_pos (by omega)
    refine ⟨_, _, s2_factorAt1 cW (by omega), ?_, ?_, s6_weakAt1 hW mW (by omega)⟩
    · rw [cW.1, h5]
      exact s2_hiddenPairs hm1 hm2 (sg_sub (W p) (W (p + 1))) (df_le (c := 1000) (by omega) (by omega))
    · rw [cW.1, h5]
      exact s2_hiddenPairsTried hm1 hm2 (sg_sub (W p) (W (p + 1))) (df_le (c := 9) h3 h4)
theorem q_m1lt {x : Int32} (h : x < 0) (h2 : x ≠ -1) : x < -1 := by
  rw [Int32.lt_iff_toInt_lt] at h ⊢
  have h3 : (0 : Int32).toInt = 0 := rfl
  have h4 : (-1 : Int32).toInt = -1 := rfl
  have h5 : x.toInt ≠ -1 := fun q => h2 (Int32.toInt_inj.mp (q.trans h4.symm))
  omega
theorem q_nm1 {k : Nat} (hk : k < 2 ^ 31) : (-1 : Int32) ≤ nI k ∧ ¬ nI k < (-1 : Int32) := by
  rw [Int32.le_iff_toInt_le, Int32.lt_iff_toInt_lt, nI_toInt hk, show (-1 : Int32).toInt = -1 from rfl]
  omega
theorem q_ltn {x : Int32} (h : x < -1) : ¬ (-1 : Int32) ≤ x := by
  rw [Int32.lt_iff_toInt_lt] at h
  rw [Int32.le_iff_toInt_le]
  omega
