
/-! ===== pure rows: saved states and snapshots, told twice ===== -/
theorem Bk_cong {sr wm : Int32} {wW : Nat → Int32} {bh : Int32} {bF bZ bK bM g g' : Nat → Int32} (e : ∀ j, j < 501 → g' j = g j) (hb : Bk sr wm wW bh bF bZ bK bM g) : Bk sr wm wW bh bF bZ bK bM g' := by
  obtain ⟨h, m, W, F, Z, K, M, hW, hB, hK, cW, cB, cK, mW, mB, mK, hr⟩ := hb
  have hh := hB.1
  refine ⟨h, m, W, F, Z, K, M, hW, hB, hK, cW, cB, cK, ⟨by rw [e 1 (by decide)]; exact mW.1, fun p hp => by rw [e _ (by omega)]; exact mW.2 p hp⟩, mB_low hh mB fun j hj => e j (by omega), fun b j hb hj => ?_, by rw [e 2 (by decide)]; exact hr⟩
  have := hB.2.1 b hb
  rw [e _ (by omega), e _ (by omega)]
  exact mK b j hb hj
/-- a copied stretch -/
def ly (gA gB : Nat → Int32) (a b i : Nat) : Nat → Int32 := fun j => if b ≤ j ∧ j < b + i then gA (a + (j - b)) else gB j
theorem ly_0 (gA gB : Nat → Int32) (a b : Nat) : ly gA gB a b 0 = gB := funext fun j => if_neg (by omega)
theorem ly_s (gA gB : Nat → Int32) (a b i : Nat) : upd (ly gA gB a b i) (b + i) (gA (a + i)) = ly gA gB a b (i + 1) := by
  funext j
  rw [upd_eq]
  unfold ly
  by_cases h : j = b + i
  · subst h
    rw [if_pos rfl, if_pos (by omega), Nat.add_sub_cancel_left]
  · rw [if_neg h]
    by_cases h2 : b ≤ j ∧ j < b + i
    · rw [if_pos h2, if_pos (by omega)]
    · rw [if_neg h2, if_neg (by omega)]
theorem s6_lays {nG nH a b : Nat} {gA gB : Nat → Int32} (ha : a + 501 ≤ nG) (hb : b + 501 ≤ nH) (hG : nG < 10000) (hH : nH < 10000) : f6_lays nG nH gA gB (nI a) (nI b) = some (ly gA gB a b 501) := by
  obtain ⟨t, ht⟩ := traj0 (fun i t => f6_lays_l3 nG nH gA (nI a) (nI b) t (nI i) (ly gA gB a b i)) 501 (by decide) (fun i t hi => by
    have h3 := ly_s gA gB a b i
    rw [f6_lays_l3]
    simp (disch := omega) only [q_inb, q_isZ0, q_isZ1, q_leT, q_leF, q_ltT, q_ltF, q_eqT, q_eqF, nI_leI, nI_ltI, nI_eq, nI_add, pk_mul, q_sub, pk_sub, q_mod, pk_div, nI_clamp, q_not, q_m1, q_z1, q_n1lt, Nat.add_zero, Nat.zero_add, q_nT, q_nF, ↓reduceIte, bd0_s, bd1_s, bd2_s, bd3_s, bd4_s, bd5_s, bd6_s, bd7_s, bd8_s, bd9_s, lt_s_, qL0, qL1, qL2, qL3, qL4, qL5, qL6, qL7, qL8, qL9, qL10, qL11, qL12, qL13, qL14, qL15, qL16, qL17, qL21, qL25, qL26, qL31, qL33, qL40, qL43, qL45, qL48, qL49, qL57, qL58, qL59, qL60, qL61, qL65, qL90, qL97, qL98, qL99, qL118, qL119, qL126, qL240, qL261, qL501, qL999, qL1000, qL1002, qL2505, qL3006, qL999999, qL1000000]
    rw [h3])
  rw [ly_0] at ht
  unfold f6_lays
  refine Eq.trans ht ?_
  rw [f6_lays_l3]
  simp (disch := omega) only [q_inb, q_isZ0, q_isZ1, q_leT, q_leF, q_ltT, q_ltF, q_eqT, q_eqF, nI_leI, nI_ltI, nI_eq, nI_add, pk_mul, q_sub, pk_sub, q_mod, pk_div, nI_clamp, q_not, q_m1, q_z1, q_n1lt, Nat.add_zero, Nat.zero_add, q_nT, q_nF, ↓reduceIte, bd0_s, bd1_s, bd2_s, bd3_s, bd4_s, bd5_s, bd6_s, bd7_s, bd8_s, bd9_s, lt_s_, qL0, qL1, qL2, qL3, qL4, qL5, qL6, qL7, qL8, qL9, qL10, qL11, qL12, qL13, qL14, qL15, qL16, qL17, qL21, qL25, qL26, qL31, qL33, qL40, qL43, qL45, qL48, qL49, qL57, qL58, qL59, qL60, qL61, qL65, qL90, qL97, qL98, qL99, qL118, qL119, qL126, qL240, qL261, qL501, qL999, qL1000, qL1002, qL2505, qL3006, qL999999, qL1000000]
def BkV (v : SV) (g : Nat → Int32) : Prop := Bk v.1 v.2.1 v.2.2.1 v.2.2.2.1 v.2.2.2.2.1 v.2.2.2.2.2.1 v.2.2.2.2.2.2.1 v.2.2.2.2.2.2.2 g
/-- the first d saved states -/
def HsI (d : Nat) (kV : Nat → SV) (mP : Nat → Int32) : Prop := ∀ i, i < d → BkV (kV i) (fun j => mP (501 * i + j))
def shf (mP : Nat → Int32) (i : Nat) : Nat → Int32 := fun j => if j < i then mP (j + 501) else mP j
theorem s6_saves_full {mN mP : Nat → Int32} : f6_saves (nI 6) mN mP = some (nI 6, ly mN (shf mP 2505) 0 2505 501) := by
  obtain ⟨t, ht⟩ := traj0 (fun i t => f6_saves_l11 mN t (nI i) (nI 6) (shf mP i)) 2505 (by decide) (fun i t hi => by
    have h1 : shf mP i (i + 501) = mP (i + 501) := if_neg (by omega)
    have h2 : upd (shf mP i) i (mP (i + 501)) = shf mP (i + 1) := by
      funext j
      rw [upd_eq]
      unfold shf
      by_cases h : j = i
      · subst h; rw [if_pos rfl, if_pos (by omega)]
      · rw [if_neg h]
        by_cases h2 : j < i
        · rw [if_pos h2, if_pos (by omega)]
        · rw [if_neg h2, if_neg (by omega)]
    rw [f6_saves_l11]
    simp (disch := omega) only [q_inb, q_isZ0, q_isZ1, q_leT, q_leF, q_ltT, q_ltF, q_eqT, q_eqF, nI_leI, nI_ltI, nI_eq, nI_add, pk_mul, q_sub, pk_sub, q_mod, pk_div, nI_clamp, q_not, q_m1, q_z1, q_n1lt, Nat.add_zero, Nat.zero_add, q_nT, q_nF, ↓reduceIte, bd0_s, bd1_s, bd2_s, bd3_s, bd4_s, bd5_s, bd6_s, bd7_s, bd8_s, bd9_s, lt_s_, qL0, qL1, qL2, qL3, qL4, qL5, qL6, qL7, qL8, qL9, qL10, qL11, qL12, qL13, qL14, qL15, qL16, qL17, qL21, qL25, qL26, qL31, qL33, qL40, qL43, qL45, qL48, qL49, qL57, qL58, qL59, qL60, qL61, qL65, qL90, qL97, qL98, qL99, qL118, qL119, qL126, qL240, qL261, qL501, qL999, qL1000, qL1002, qL2505, qL3006, qL999999, qL1000000, h1]
    rw [h2])
  have h0 : shf mP 0 = mP := funext fun j => if_neg (by omega)
  rw [h0] at ht
  unfold f6_saves
  rw [if_pos (show nI 6 = (6 : Int32) from rfl)]
  refine Eq.trans ht ?_
  have h3 := s6_lays (nG := 501) (nH := 3006) (a := 0) (b := 2505) (gA := mN) (gB := shf mP 2505) (by decide) (by decide) (by decide) (by decide)
  rw [f6_saves_l11]
  simp (disch := omega) only [q_inb, q_isZ0, q_isZ1, q_leT, q_leF, q_ltT, q_ltF, q_eqT, q_eqF, nI_leI, nI_ltI, nI_eq, nI_add, pk_mul, q_sub, pk_sub, q_mod, pk_div, nI_clamp, q_not, q_m1, q_z1, q_n1lt, Nat.add_zero, Nat.zero_add, q_nT, q_nF, ↓reduceIte, bd0_s, bd1_s, bd2_s, bd3_s, bd4_s, bd5_s, bd6_s, bd7_s, bd8_s, bd9_s, lt_s_, qL0, qL1, qL2, qL3, qL4, qL5, qL6, qL7, qL8, qL9, qL10, qL11, qL12, qL13, qL14, qL15, qL16, qL17, qL21, qL25, qL26, qL31, qL33, qL40, qL43, qL45, qL48, qL49, qL57, qL58, qL59, qL60, qL61, qL65, qL90, qL97, qL98, qL99, qL118, qL119, qL126, qL240, qL261, qL501, qL999, qL1000, qL1002, qL2505, qL3006, qL999999, qL1000000, f6_saves_j50, h3]
theorem op_save {sr wm : Int32} {wW : Nat → Int32} {bh : Int32} {bF bZ bK bM mN mP : Nat → Int32} {d : Nat} {kA : Nat → SA} {kV : Nat → SV} (hb : Bk sr wm wW bh bF bZ bK bM mN) (hH : HsI d kV mP) (hd : d ≤ 6) :
    ∃ d' kA' kV' mP', d' ≤ 6 ∧ f1_save (nI d) kA kV sr wm wW bh bF bZ bK bM = some (nI d', kA', kV') ∧ f6_saves (nI d) mN mP = some (nI d', mP') ∧ HsI d' kV' mP' := by
  by_cases h6 : d = 6
  · subst h6
    refine ⟨6, rotA kA, va_up (rotV kV) 5 (sr, wm, wW, bh, bF, bZ, bK, bM), _, Nat.le_refl 6, rfl, s6_saves_full, fun i hi => ?_⟩
    by_cases e : i = 5
    · subst e
      refine Bk_cong (fun j hj => ?_) hb
      unfold ly
      rw [if_pos (by omega)]
      exact congrArg mN (by omega)
    · have h1 := hH (i + 1) (by omega)
      have e2 : va_up (rotV kV) 5 (sr, wm, wW, bh, bF, bZ, bK, bM) i = kV (i + 1) := by
        unfold va_up
        rw [if_neg e]
        rcases (show i = 0 ∨ i = 1 ∨ i = 2 ∨ i = 3 ∨ i = 4 by omega) with rfl | rfl | rfl | rfl | rfl <;> rfl
      unfold BkV at h1 ⊢
      rw [e2]
      refine Bk_cong (fun j hj => ?_) h1
      unfold ly shf
      rw [if_neg (by omega), if_pos (by omega)]
      exact congrArg mP (by omega)
  · have h1 := s6_lays (nG := 501) (nH := 3006) (a := 0) (b := 501 * d) (gA := mN) (gB := mP) (by decide) (by omega) (by decide) (by decide)
    refine ⟨d + 1, kA, va_up kV d (sr, wm, wW, bh, bF, bZ, bK, bM), ly mN mP 0 (501 * d) 501, by omega, ?_, ?_, fun i hi => ?_⟩
    · rcases (show d = 0 ∨ d = 1 ∨ d = 2 ∨ d = 3 ∨ d = 4 ∨ d = 5 by omega) with rfl | rfl | rfl | rfl | rfl | rfl <;> rfl
    · simp (disch := omega) only [q_inb, q_isZ0, q_isZ1, q_leT, q_leF, q_ltT, q_ltF, q_eqT, q_eqF, nI_leI, nI_ltI, nI_eq, nI_add, pk_mul, q_sub, pk_sub, q_mod, pk_div, nI_clamp, q_not, q_m1, q_z1, q_n1lt, Nat.add_zero, Nat.zero_add, q_nT, q_nF, ↓reduceIte, bd0_s, bd1_s, bd2_s, bd3_s, bd4_s, bd5_s, bd6_s, bd7_s, bd8_s, bd9_s, lt_s_, qL0, qL1, qL2, qL3, qL4, qL5, qL6, qL7, qL8, qL9, qL10, qL11, qL12, qL13, qL14, qL15, qL16, qL17, qL21, qL25, qL26, qL31, qL33, qL40, qL43, qL45, qL48, qL49, qL57, qL58, qL59, qL60, qL61, qL65, qL90, qL97, qL98, qL99, qL118, qL119, qL126, qL240, qL261, qL501, qL999, qL1000, qL1002, qL2505, qL3006, qL999999, qL1000000, f6_saves, f6_saves_j50, h1]
    · by_cases e : i = d
      · subst e
        unfold va_up BkV
        rw [if_pos rfl]
        refine Bk_cong (fun j hj => ?_) hb
        unfold ly
        rw [if_pos (by omega)]
        exact congrArg mN (by omega)
      · have h2 := hH i (by omega)
        have e2 : va_up kV d (sr, wm, wW, bh, bF, bZ, bK, bM) i = kV i := if_neg e
        unfold BkV at h2 ⊢
        rw [e2]
        refine Bk_cong (fun j hj => ?_) h2
        unfold ly
        rw [if_neg (by omega)]
/-- the two snapshots -/
def SlI (kf : Nat → Int32) (kP : Nat → SV) (mI mK : Nat → Int32) : Prop := ∀ i, i < 2 → (kf i = 0 ∧ mI i = 0) ∨ (kf i = 1 ∧ mI i = 1 ∧ BkV (kP i) (fun j => mK (501 * i + j)))
theorem op_put {sr wm : Int32} {wW : Nat → Int32} {bh : Int32} {bF bZ bK bM mN mK mI : Nat → Int32} {kf : Nat → Int32} {kP : Nat → SV} {x : Nat} (hb : Bk sr wm wW bh bF bZ bK bM mN) (hS : SlI kf kP mI mK) (hx : x < 2) :
    ∃ kf' kP' mK', f1_putIntoSlot kf kP sr wm wW bh bF bZ bK bM (nI x) = some (kf', kP') ∧ f6_lays 501 1002 mN mK (nI 0) (nI (501 * x)) = some mK' ∧ SlI kf' kP' (upd mI x 1) mK' := by
  have h1 := s6_lays (nG := 501) (nH := 1002) (a := 0) (b := 501 * x) (gA := mN) (gB := mK) (by decide) (by omega) (by decide) (by decide)
  refine ⟨upd kf x 1, va_up kP x (sr, wm, wW, bh, bF, bZ, bK, bM), _, ?_, h1, fun i hi => ?_⟩
  · rcases (show x = 0 ∨ x = 1 by omega) with rfl | rfl <;> rfl
  · by_cases e : i = x
    · subst e
      refine Or.inr ⟨pk_us, pk_us, ?_⟩
      unfold va_up BkV
      rw [if_pos rfl]
      refine Bk_cong (fun j hj => ?_) hb
      unfold ly
      rw [if_pos (by omega)]
      exact congrArg mN (by omega)
    · rw [pk_un e, pk_un e]
      rcases hS i hi with h2 | ⟨h2, h3, h4⟩
      · exact Or.inl h2
      · refine Or.inr ⟨h2, h3, ?_⟩
        have e2 : va_up kP x (sr, wm, wW, bh, bF, bZ, bK, bM) i = kP i := if_neg e
        unfold BkV at h4 ⊢
        rw [e2]
        refine Bk_cong (fun j hj => ?_) h4
        unfold ly
        rw [if_neg (by omega)]
/-- a state comes back -/
theorem Bk_back {v : SV} {g mN : Nat → Int32} {a : Nat} (hv : BkV v (fun j => g (a + j))) : BkV v (ly g mN a 0 501) := by
  refine Bk_cong (fun j hj => ?_) hv
  unfold ly
  rw [if_pos (by omega)]
  congr 1
