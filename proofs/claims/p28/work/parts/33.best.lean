
/-! ===== pure rows: the best weight; hidden slips of a serial ===== -/
/-- the best of the weights 1 to k + 1, and how many it hides -/
def bw (T : NF) : Nat → Nat × Nat
  | 0 => (1, T 1)
  | k + 1 => if T (k + 2) < (bw T k).2 then (k + 2, T (k + 2)) else bw T k
theorem bw_1 (T : NF) : ∀ k, 1 ≤ (bw T k).1 ∧ (bw T k).1 ≤ k + 1
  | 0 => ⟨Nat.le_refl 1, Nat.le_refl 1⟩
  | k + 1 => by
    have h := bw_1 T k
    rw [bw]
    split
    · exact ⟨by show 1 ≤ k + 2; omega, Nat.le_refl _⟩
    · exact ⟨h.1, by omega⟩
theorem bw_2 {T : NF} {c : Nat} (hT : ∀ w, 1 ≤ w → w ≤ 9 → T w ≤ c) : ∀ k, k ≤ 8 → (bw T k).2 ≤ c
  | 0, _ => hT 1 (by decide) (by decide)
  | k + 1, hk => by
    have h := bw_2 hT k (by omega)
    rw [bw]
    split
    · exact hT (k + 2) (by omega) (by omega)
    · exact h
theorem s5_bestWeight {m : Nat} {W : NF} {wm : Int32} {wW : Nat → Int32} (Hw : wW_ m W) (H : cW_ m W wm wW) {c : Nat} (hc : c < 6) : f5_bestWeight wm wW (nI c) = some (0, nI (bw (fun w => tw m (cw W c w)) 8).1) := by
  have hT : ∀ w, 1 ≤ w → w ≤ 9 → (fun w => tw m (cw W c w)) w ≤ 972 := fun w _ _ => tw_part m (cw W c w) (Nat.le_refl 6)
  have hh : ∀ w, 1 ≤ w → w ≤ 9 → f2_hiddenPairsWith wm wW (nI c) (nI w) = some (nI ((fun w => tw m (cw W c w)) w)) := fun w h1 h2 => s2_hiddenPairsWith Hw H h1 h2 hc
  generalize (fun w => tw m (cw W c w)) = T at hT hh ⊢
  obtain ⟨t, ht⟩ := traj0 (fun i t => f5_bestWeight_l22 wm wW (nI c) t (nI (bw T i).1) (nI (bw T i).2) (nI (i + 2))) 8 (by decide) (fun i t hi => by
    have h1 := hh (i + 2) (by omega) (by omega)
    have h2 := hT (i + 2) (by omega) (by omega)
    have h3 := bw_2 hT i (by omega)
    rw [f5_bestWeight_l22, bw]
    by_cases h : T (i + 2) < (bw T i).2
    · rw [if_pos h]
      simp (disch := omega) only [q_inb, q_isZ0, q_isZ1, q_leT, q_leF, q_ltT, q_ltF, q_eqT, q_eqF, nI_leI, nI_ltI, nI_eq, nI_add, pk_mul, q_sub, pk_sub, q_mod, pk_div, nI_clamp, q_not, q_m1, q_z1, q_n1lt, Nat.add_zero, Nat.zero_add, q_nT, q_nF, ↓reduceIte, bd0_s, bd1_s, bd2_s, bd3_s, bd4_s, bd5_s, bd6_s, bd7_s, bd8_s, bd9_s, lt_s_, qL0, qL1, qL2, qL3, qL4, qL5, qL6, qL7, qL8, qL9, qL10, qL11, qL12, qL13, qL14, qL15, qL16, qL17, qL21, qL25, qL26, qL31, qL33, qL40, qL43, qL45, qL48, qL49, qL57, qL58, qL59, qL60, qL61, qL65, qL90, qL97, qL98, qL99, qL118, qL119, qL126, qL240, qL261, qL501, qL999, qL1000, qL1002, qL2505, qL3006, qL999999, qL1000000, h1]
    · rw [if_neg h]
      simp (disch := omega) only [q_inb, q_isZ0, q_isZ1, q_leT, q_leF, q_ltT, q_ltF, q_eqT, q_eqF, nI_leI, nI_ltI, nI_eq, nI_add, pk_mul, q_sub, pk_sub, q_mod, pk_div, nI_clamp, q_not, q_m1, q_z1, q_n1lt, Nat.add_zero, Nat.zero_add, q_nT, q_nF, ↓reduceIte, bd0_s, bd1_s, bd2_s, bd3_s, bd4_s, bd5_s, bd6_s, bd7_s, bd8_s, bd9_s, lt_s_, qL0, qL1, qL2, qL3, qL4, qL5, qL6, qL7, qL8, qL9, qL10, qL11, qL12, qL13, qL14, qL15, qL16, qL17, qL21, qL25, qL26, qL31, qL33, qL40, qL43, qL45, qL48, qL49, qL57, qL58, qL59, qL60, qL61, qL65, qL90, qL97, qL98, qL99, qL118, qL119, qL126, qL240, qL261, qL501, qL999, qL1000, qL1002, qL2505, qL3006, qL999999, qL1000000, h1])
  have h1 := hh 1 (by decide) (by decide)
  unfold f5_bestWeight
  have h2 : f5_throwIfNoPosition (nI c) = some 0 := by
    simp (disch := omega) only [q_inb, q_isZ0, q_isZ1, q_leT, q_leF, q_ltT, q_ltF, q_eqT, q_eqF, nI_leI, nI_ltI, nI_eq, nI_add, pk_mul, q_sub, pk_sub, q_mod, pk_div, nI_clamp, q_not, q_m1, q_z1, q_n1lt, Nat.add_zero, Nat.zero_add, q_nT, q_nF, ↓reduceIte, bd0_s, bd1_s, bd2_s, bd3_s, bd4_s, bd5_s, bd6_s, bd7_s, bd8_s, bd9_s, lt_s_, qL0, qL1, qL2, qL3, qL4, qL5, qL6, qL7, qL8, qL9, qL10, qL11, qL12, qL13, qL14, qL15, qL16, qL17, qL21, qL25, qL26, qL31, qL33, qL40, qL43, qL45, qL48, qL49, qL57, qL58, qL59, qL60, qL61, qL65, qL90, qL97, qL98, qL99, qL118, qL119, qL126, qL240, qL261, qL501, qL999, qL1000, qL1002, qL2505, qL3006, qL999999, qL1000000, f5_throwIfNoPosition]
  rw [h2, bd1_s, if_pos rfl]
  have h3 : f2_hiddenPairsWith wm wW (nI c) (1 : Int32) = some (nI (T 1)) := h1
  rw [h3, bd1_s]
  refine Eq.trans ht ?_
  rw [f5_bestWeight_l22]
  simp (disch := omega) only [q_inb, q_isZ0, q_isZ1, q_leT, q_leF, q_ltT, q_ltF, q_eqT, q_eqF, nI_leI, nI_ltI, nI_eq, nI_add, pk_mul, q_sub, pk_sub, q_mod, pk_div, nI_clamp, q_not, q_m1, q_z1, q_n1lt, Nat.add_zero, Nat.zero_add, q_nT, q_nF, ↓reduceIte, bd0_s, bd1_s, bd2_s, bd3_s, bd4_s, bd5_s, bd6_s, bd7_s, bd8_s, bd9_s, lt_s_, qL0, qL1, qL2, qL3, qL4, qL5, qL6, qL7, qL8, qL9, qL10, qL11, qL12, qL13, qL14, qL15, qL16, qL17, qL21, qL25, qL26, qL31, qL33, qL40, qL43, qL45, qL48, qL49, qL57, qL58, qL59, qL60, qL61, qL65, qL90, qL97, qL98, qL99, qL118, qL119, qL126, qL240, qL261, qL501, qL999, qL1000, qL1002, qL2505, qL3006, qL999999, qL1000000]
theorem s5_bestWeightX {wm : Int32} {wW : Nat → Int32} {x : Int32} (h : x < 0 ∨ ∃ n : Nat, 6 ≤ n ∧ n < 2 ^ 31 ∧ x = nI n) : f5_bestWeight wm wW x = some (1, 0) := by
  unfold f5_bestWeight
  have h2 : f5_throwIfNoPosition x = some 1 := by
    unfold f5_throwIfNoPosition
    rcases h with h | ⟨n, h1, h3, rfl⟩
    · rw [if_pos h]
    · simp (disch := omega) only [q_inb, q_isZ0, q_isZ1, q_leT, q_leF, q_ltT, q_ltF, q_eqT, q_eqF, nI_leI, nI_ltI, nI_eq, nI_add, pk_mul, q_sub, pk_sub, q_mod, pk_div, nI_clamp, q_not, q_m1, q_z1, q_n1lt, Nat.add_zero, Nat.zero_add, q_nT, q_nF, ↓reduceIte, bd0_s, bd1_s, bd2_s, bd3_s, bd4_s, bd5_s, bd6_s, bd7_s, bd8_s, bd9_s, lt_s_, qL0, qL1, qL2, qL3, qL4, qL5, qL6, qL7, qL8, qL9, qL10, qL11, qL12, qL13, qL14, qL15, qL16, qL17, qL21, qL25, qL26, qL31, qL33, qL40, qL43, qL45, qL48, qL49, qL57, qL58, qL59, qL60, qL61, qL65, qL90, qL97, qL98, qL99, qL118, qL119, qL126, qL240, qL261, qL501, qL999, qL1000, qL1002, qL2505, qL3006, qL999999, qL1000000]
  rw [h2, bd1_s, if_neg (by decide)]
theorem upd2 (f : Nat → Int32) (k : Nat) (x y : Int32) : upd (upd f k x) k y = upd f k y := by
  funext j
  by_cases h : j = k
  · subst h; rw [pk_us, pk_us]
  · rw [pk_un h, pk_un h, pk_un h]
theorem upd_id {f : Nat → Int32} {k : Nat} {x : Int32} (h : f k = x) : upd f k x = f := by
  funext j
  rw [upd_eq]
  by_cases e : j = k
  · rw [if_pos e, e, h]
  · rw [if_neg e]
theorem mW_upd {m : Nat} {W : NF} {g : Nat → Int32} (H : mW_ m W g) {c w : Nat} (hc : c < 6) : mW_ m (cw W c w) (upd g (3 + c) (nI w)) := ⟨by rw [upd_eq, if_neg (by omega)]; exact H.1, fun p hp => by
  rw [upd_eq]
  unfold cw
  by_cases h : p = c
  · rw [if_pos h, if_pos (by omega)]
  · rw [if_neg h, if_neg (by omega)]; exact H.2 p hp⟩
theorem s6_bestWeight {m : Nat} {W : NF} {g : Nat → Int32} {mt : Int32} (Hw : wW_ m W) (H : mW_ m W g) {c : Nat} (hc : c < 6) : f6_bestWeight mt g (nI c) = some (nI (bw (fun w => tw m (cw W c w)) 8).1, 0, g) := by
  have hT : ∀ w, 1 ≤ w → w ≤ 9 → (fun w => tw m (cw W c w)) w ≤ 972 := fun w _ _ => tw_part m (cw W c w) (Nat.le_refl 6)
  have hh : ∀ w, 1 ≤ w → w ≤ 9 → ∃ a b, a + b = (fun w => tw m (cw W c w)) w ∧ f6_weakOf (upd g (3 + c) (nI w)) (nI 0) = some (nI a) ∧ f6_weakOf (upd g (3 + c) (nI w)) (nI 1) = some (nI b) := fun w h1 h2 =>
    ⟨_, _, (tw_two m (cw W c w)).symm, s6_weakOf0 (cw_w Hw h1 h2) (mW_upd H hc), s6_weakOf1 (cw_w Hw h1 h2) (mW_upd H hc)⟩
  generalize (fun w => tw m (cw W c w)) = T at hT hh ⊢
  have hg : g (3 + c) = nI (W c) := H.2 c hc
  have hb := (Hw.2.2 c hc).2
  have one : ∀ i t v B F, 1 ≤ i → i ≤ 9 → (i = 1 → B = 0) → (i ≠ 1 → 1 ≤ B ∧ B ≤ 9) → F ≤ 972 → f6_bestWeight_l37 (nI c) (nI (W c)) (t + 1) (nI B) (nI F) (nI i) 0 (upd g (3 + c) v) = f6_bestWeight_l37 (nI c) (nI (W c)) t (nI (if B = 0 ∨ T i < F then i else B)) (nI (if B = 0 ∨ T i < F then T i else F)) (nI (i + 1)) 0 (upd g (3 + c) (nI i)) := by
    intro i t v B F h1 h2 h3 h4 h5
    obtain ⟨a, b, e1, e2, e3⟩ := hh i h1 h2
    have h6 := hT i h1 h2
    rw [← e1] at h6 ⊢
    rw [f6_bestWeight_l37]
    by_cases hB : B = 0
    · rw [if_pos (Or.inl hB), if_pos (Or.inl hB)]
      simp (disch := omega) only [q_inb, q_isZ0, q_isZ1, q_leT, q_leF, q_ltT, q_ltF, q_eqT, q_eqF, nI_leI, nI_ltI, nI_eq, nI_add, pk_mul, q_sub, pk_sub, q_mod, pk_div, nI_clamp, q_not, q_m1, q_z1, q_n1lt, Nat.add_zero, Nat.zero_add, q_nT, q_nF, ↓reduceIte, bd0_s, bd1_s, bd2_s, bd3_s, bd4_s, bd5_s, bd6_s, bd7_s, bd8_s, bd9_s, lt_s_, qL0, qL1, qL2, qL3, qL4, qL5, qL6, qL7, qL8, qL9, qL10, qL11, qL12, qL13, qL14, qL15, qL16, qL17, qL21, qL25, qL26, qL31, qL33, qL40, qL43, qL45, qL48, qL49, qL57, qL58, qL59, qL60, qL61, qL65, qL90, qL97, qL98, qL99, qL118, qL119, qL126, qL240, qL261, qL501, qL999, qL1000, qL1002, qL2505, qL3006, qL999999, qL1000000, upd2, e2, e3, f6_bestWeight_j78, f6_bestWeight_j83, f6_bestWeight_j96]
    · have h7 : 1 ≤ B ∧ B ≤ 9 := h4 fun q => hB (h3 q)
      by_cases hF : a + b < F
      · rw [if_pos (Or.inr hF), if_pos (Or.inr hF)]
        simp (disch := omega) only [q_inb, q_isZ0, q_isZ1, q_leT, q_leF, q_ltT, q_ltF, q_eqT, q_eqF, nI_leI, nI_ltI, nI_eq, nI_add, pk_mul, q_sub, pk_sub, q_mod, pk_div, nI_clamp, q_not, q_m1, q_z1, q_n1lt, Nat.add_zero, Nat.zero_add, q_nT, q_nF, ↓reduceIte, bd0_s, bd1_s, bd2_s, bd3_s, bd4_s, bd5_s, bd6_s, bd7_s, bd8_s, bd9_s, lt_s_, qL0, qL1, qL2, qL3, qL4, qL5, qL6, qL7, qL8, qL9, qL10, qL11, qL12, qL13, qL14, qL15, qL16, qL17, qL21, qL25, qL26, qL31, qL33, qL40, qL43, qL45, qL48, qL49, qL57, qL58, qL59, qL60, qL61, qL65, qL90, qL97, qL98, qL99, qL118, qL119, qL126, qL240, qL261, qL501, qL999, qL1000, qL1002, qL2505, qL3006, qL999999, qL1000000, upd2, e2, e3, f6_bestWeight_j78, f6_bestWeight_j83, f6_bestWeight_j96]
      · have h8 : ¬ (B = 0 ∨ a + b < F) := by omega
        rw [if_neg h8, if_neg h8]
        simp (disch := omega) only [q_inb, q_isZ0, q_isZ1, q_leT, q_leF, q_ltT, q_ltF, q_eqT, q_eqF, nI_leI, nI_ltI, nI_eq, nI_add, pk_mul, q_sub, pk_sub, q_mod, pk_div, nI_clamp, q_not, q_m1, q_z1, q_n1lt, Nat.add_zero, Nat.zero_add, q_nT, q_nF, ↓reduceIte, bd0_s, bd1_s, bd2_s, bd3_s, bd4_s, bd5_s, bd6_s, bd7_s, bd8_s, bd9_s, lt_s_, qL0, qL1, qL2, qL3, qL4, qL5, qL6, qL7, qL8, qL9, qL10, qL11, qL12, qL13, qL14, qL15, qL16, qL17, qL21, qL25, qL26, qL31, qL33, qL40, qL43, qL45, qL48, qL49, qL57, qL58, qL59, qL60, qL61, qL65, qL90, qL97, qL98, qL99, qL118, qL119, qL126, qL240, qL261, qL501, qL999, qL1000, qL1002, qL2505, qL3006, qL999999, qL1000000, upd2, e2, e3, f6_bestWeight_j78, f6_bestWeight_j83, f6_bestWeight_j96]
  obtain ⟨t, ht⟩ := traj0 (fun i t => f6_bestWeight_l37 (nI c) (nI (W c)) t (nI (if i = 0 then 0 else (bw T (i - 1)).1)) (nI (if i = 0 then 0 else (bw T (i - 1)).2)) (nI (i + 1)) 0 (upd g (3 + c) (nI (if i = 0 then W c else i)))) 9 (by decide) (fun i t hi => by
    by_cases h0 : i = 0
    · subst h0
      rw [one _ _ _ _ _ (by omega) (by omega) (fun _ => if_pos rfl) (fun q => absurd rfl q) (by rw [if_pos rfl]; omega)]
      rfl
    · obtain ⟨k, rfl⟩ : ∃ k, i = k + 1 := ⟨i - 1, by omega⟩
      have h1 := bw_1 T k
      have h2 := bw_2 hT k (by omega)
      have e : ∀ {α : Type} (x y : α), (if k + 1 = 0 then x else y) = y := fun x y => if_neg h0
      have e' : ∀ {α : Type} (x y : α), (if k + 1 + 1 = 0 then x else y) = y := fun x y => if_neg (by omega)
      simp only [e, e', Nat.add_sub_cancel]
      rw [one _ _ _ _ _ (by omega) (by omega) (fun q => by omega) (fun _ => ⟨h1.1, by omega⟩) h2, bw]
      by_cases h : T (k + 2) < (bw T k).2
      · rw [if_pos (Or.inr h), if_pos (Or.inr h), if_pos h]
      · have h8 : ¬ ((bw T k).1 = 0 ∨ T (k + 1 + 1) < (bw T k).2) := by
          show ¬ ((bw T k).1 = 0 ∨ T (k + 2) < (bw T k).2)
          omega
        rw [if_neg h8, if_neg h8, if_neg h])
  have h2 : f6_in (nI c) (0 : Int32) (5 : Int32) = some 1 := by
    simp (disch := omega) only [q_inb, q_isZ0, q_isZ1, q_leT, q_leF, q_ltT, q_ltF, q_eqT, q_eqF, nI_leI, nI_ltI, nI_eq, nI_add, pk_mul, q_sub, pk_sub, q_mod, pk_div, nI_clamp, q_not, q_m1, q_z1, q_n1lt, Nat.add_zero, Nat.zero_add, q_nT, q_nF, ↓reduceIte, bd0_s, bd1_s, bd2_s, bd3_s, bd4_s, bd5_s, bd6_s, bd7_s, bd8_s, bd9_s, lt_s_, qL0, qL1, qL2, qL3, qL4, qL5, qL6, qL7, qL8, qL9, qL10, qL11, qL12, qL13, qL14, qL15, qL16, qL17, qL21, qL25, qL26, qL31, qL33, qL40, qL43, qL45, qL48, qL49, qL57, qL58, qL59, qL60, qL61, qL65, qL90, qL97, qL98, qL99, qL118, qL119, qL126, qL240, qL261, qL501, qL999, qL1000, qL1002, qL2505, qL3006, qL999999, qL1000000, f6_in]
  have h3 : upd g (3 + c) (nI (if (0 : Nat) = 0 then W c else 0)) = g := upd_id hg
  rw [h3] at ht
  have h4 : f6_bestWeight mt g (nI c) = f6_bestWeight_l37 (nI c) (nI (W c)) fu (nI 0) (nI 0) (nI 1) 0 g := by
    unfold f6_bestWeight
    rw [h2, bd1_s, if_neg (by decide)]
    simp (disch := omega) only [q_inb, q_isZ0, q_isZ1, q_leT, q_leF, q_ltT, q_ltF, q_eqT, q_eqF, nI_leI, nI_ltI, nI_eq, nI_add, pk_mul, q_sub, pk_sub, q_mod, pk_div, nI_clamp, q_not, q_m1, q_z1, q_n1lt, Nat.add_zero, Nat.zero_add, q_nT, q_nF, ↓reduceIte, bd0_s, bd1_s, bd2_s, bd3_s, bd4_s, bd5_s, bd6_s, bd7_s, bd8_s, bd9_s, lt_s_, qL0, qL1, qL2, qL3, qL4, qL5, qL6, qL7, qL8, qL9, qL10, qL11, qL12, qL13, qL14, qL15, qL16, qL17, qL21, qL25, qL26, qL31, qL33, qL40, qL43, qL45, qL48, qL49, qL57, qL58, qL59, qL60, qL61, qL65, qL90, qL97, qL98, qL99, qL118, qL119, qL126, qL240, qL261, qL501, qL999, qL1000, qL1002, qL2505, qL3006, qL999999, qL1000000, hg]
  rw [h4]
  refine Eq.trans ht ?_
  rw [f6_bestWeight_l37]
  simp (disch := omega) only [q_inb, q_isZ0, q_isZ1, q_leT, q_leF, q_ltT, q_ltF, q_eqT, q_eqF, nI_leI, nI_ltI, nI_eq, nI_add, pk_mul, q_sub, pk_sub, q_mod, pk_div, nI_clamp, q_not, q_m1, q_z1, q_n1lt, Nat.add_zero, Nat.zero_add, q_nT, q_nF, ↓reduceIte, bd0_s, bd1_s, bd2_s, bd3_s, bd4_s, bd5_s, bd6_s, bd7_s, bd8_s, bd9_s, lt_s_, qL0, qL1, qL2, qL3, qL4, qL5, qL6, qL7, qL8, qL9, qL10, qL11, qL12, qL13, qL14, qL15, qL16, qL17, qL21, qL25, qL26, qL31, qL33, qL40, qL43, qL45, qL48, qL49, qL57, qL58, qL59, qL60, qL61, qL65, qL90, qL97, qL98, qL99, qL118, qL119, qL126, qL240, qL261, qL501, qL999, qL1000, qL1002, qL2505, qL3006, qL999999, qL1000000, upd2, upd_id hg]
theorem s6_bestWeightX {g : Nat → Int32} {mt x : Int32} (h : x < 0 ∨ ∃ n : Nat, 6 ≤ n ∧ n < 2 ^ 31 ∧ x = nI n) : f6_bestWeight mt g x = some (0, 1, g) := by
  have h2 : f6_in x (0 : Int32) (5 : Int32) = some 0 := by
    unfold f6_in
    rcases h with h | ⟨n, h1, h3, rfl⟩
    · rw [if_pos h]
    · simp (disch := omega) only [q_inb, q_isZ0, q_isZ1, q_leT, q_leF, q_ltT, q_ltF, q_eqT, q_eqF, nI_leI, nI_ltI, nI_eq, nI_add, pk_mul, q_sub, pk_sub, q_mod, pk_div, nI_clamp, q_not, q_m1, q_z1, q_n1lt, Nat.add_zero, Nat.zero_add, q_nT, q_nF, ↓reduceIte, bd0_s, bd1_s, bd2_s, bd3_s, bd4_s, bd5_s, bd6_s, bd7_s, bd8_s, bd9_s, lt_s_, qL0, qL1, qL2, qL3, qL4, qL5, qL6, qL7, qL8, qL9, qL10, qL11, qL12, qL13, qL14, qL15, qL16, qL17, qL21, qL25, qL26, qL31, qL33, qL40, qL43, qL45, qL48, qL49, qL57, qL58, qL59, qL60, qL61, qL65, qL90, qL97, qL98, qL99, qL118, qL119, qL126, qL240, qL261, qL501, qL999, qL1000, qL1002, qL2505, qL3006, qL999999, qL1000000]
  unfold f6_bestWeight
  rw [h2]
  rfl
