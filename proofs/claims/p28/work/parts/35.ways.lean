
/-! ===== pure rows: hidden swaps; by which slip one serial becomes another one; what is found ===== -/
def hs (m : Nat) (W : NF) (s p : Nat) : Nat := if dg s p ≠ dg s (p + 1) ∧ df (W p) (W (p + 1)) * df (dg s p) (dg s (p + 1)) % m = 0 then 1 else 0
theorem hs_le (m : Nat) (W : NF) (s p : Nat) : hs m W s p ≤ 1 := by unfold hs; split <;> omega
theorem hs_part (m : Nat) (W : NF) (s : Nat) {i : Nat} (hi : i ≤ 5) : fb_sm (hs m W s) i ≤ 5 := by
  have := fb_sm_bound (f := hs m W s) (c := 1) (n := i) (fun k _ => hs_le m W s k)
  omega
theorem s2_hiddenSwaps {m : Nat} {W : NF} {wm : Int32} {wW : Nat → Int32} (Hw : wW_ m W) (H : cW_ m W wm wW) {s : Nat} (hs_ : s < 1000000) : f2_hiddenSwaps wm wW (nI s) = some (nI (fb_sm (hs m W s) 5)) := by
  obtain rfl := H.1
  obtain ⟨t, ht⟩ := traj0 (fun i t => f2_hiddenSwaps_l4 (nI m) wW (nI s) t (nI (fb_sm (hs m W s) i)) (nI i)) 5 (by decide) (fun p t hp => by
    have h4 := hs_part m W s (show p ≤ 5 by omega)
    rw [f2_hiddenSwaps_l4, fb_sm_succ]
    generalize fb_sm (hs m W s) p = c at h4 ⊢
    have h5 := s2_digitAt hs_ (show p < 6 by omega)
    have h6 := s2_digitAt hs_ (show p + 1 < 6 by omega)
    have h7 := s2_factorAt1 H hp
    have h8 := dg_le s p
    have h9 := dg_le s (p + 1)
    have hW1 := (Hw.2.2 p (by omega)).2
    have hW2 := (Hw.2.2 (p + 1) (by omega)).2
    have h10 : df (W p) (W (p + 1)) * df (dg s p) (dg s (p + 1)) < 2 ^ 31 := Nat.lt_of_le_of_lt (Nat.mul_le_mul (df_le (c := 9) hW1 hW2) (df_le (c := 9) h8 h9)) (by decide)
    have h11 := s2_isHidden Hw.1 Hw.2.1 (sg_sub (W p) (W (p + 1))) (sg_sub (dg s (p + 1)) (dg s p)) (by rw [df_c (dg s (p + 1))]; exact h10)
    have h12 := sg_0 (sg_sub (dg s (p + 1)) (dg s p)) (Nat.lt_of_le_of_lt (df_le (c := 9) h9 h8) (by decide))
    rw [df_0] at h12
    rw [df_c (dg s (p + 1))] at h11
    have e0 : ¬ (6 : Int32) ≤ nI p + 1 := by
      rw [qL6, nI_1, nI_leI (by decide) (by omega)]
      omega
    rw [if_neg e0, nI_1, h6, bd1_s, h5, bd1_s, show (1 : Int32) = nI 1 from rfl, h7, bd1_s]
    by_cases hd : dg s (p + 1) = dg s p
    · have h13 : hs m W s p = 0 := if_neg fun q => q.1 hd.symm
      rw [if_pos (h12.mpr hd), h13]
      rfl
    · rw [if_neg (fun q => hd (h12.mp q))]
      by_cases h : df (W p) (W (p + 1)) * df (dg s p) (dg s (p + 1)) % m = 0
      · have h13 : hs m W s p = 1 := if_pos ⟨fun q => hd q.symm, h⟩
        rw [bI_t h] at h11
        rw [h13, h11]
        simp (disch := omega) only [q_inb, q_isZ0, q_isZ1, q_leT, q_leF, q_ltT, q_ltF, q_eqT, q_eqF, nI_leI, nI_ltI, nI_eq, nI_add, pk_mul, q_sub, pk_sub, q_mod, pk_div, nI_clamp, q_not, q_m1, q_z1, q_n1lt, Nat.add_zero, Nat.zero_add, q_nT, q_nF, ↓reduceIte, bd0_s, bd1_s, bd2_s, bd3_s, bd4_s, bd5_s, bd6_s, bd7_s, bd8_s, bd9_s, lt_s_, qL0, qL1, qL2, qL3, qL4, qL5, qL6, qL7, qL8, qL9, qL10, qL11, qL12, qL13, qL14, qL15, qL16, qL17, qL21, qL25, qL26, qL31, qL33, qL40, qL43, qL45, qL48, qL49, qL57, qL58, qL59, qL60, qL61, qL65, qL90, qL97, qL98, qL99, qL118, qL119, qL126, qL240, qL261, qL501, qL999, qL1000, qL1002, qL2505, qL3006, qL999999, qL1000000]
      · have h13 : hs m W s p = 0 := if_neg fun q => h q.2
        rw [bI_f h] at h11
        rw [h13, h11]
        simp (disch := omega) only [q_inb, q_isZ0, q_isZ1, q_leT, q_leF, q_ltT, q_ltF, q_eqT, q_eqF, nI_leI, nI_ltI, nI_eq, nI_add, pk_mul, q_sub, pk_sub, q_mod, pk_div, nI_clamp, q_not, q_m1, q_z1, q_n1lt, Nat.add_zero, Nat.zero_add, q_nT, q_nF, ↓reduceIte, bd0_s, bd1_s, bd2_s, bd3_s, bd4_s, bd5_s, bd6_s, bd7_s, bd8_s, bd9_s, lt_s_, qL0, qL1, qL2, qL3, qL4, qL5, qL6, qL7, qL8, qL9, qL10, qL11, qL12, qL13, qL14, qL15, qL16, qL17, qL21, qL25, qL26, qL31, qL33, qL40, qL43, qL45, qL48, qL49, qL57, qL58, qL59, qL60, qL61, qL65, qL90, qL97, qL98, qL99, qL118, qL119, qL126, qL240, qL261, qL501, qL999, qL1000, qL1002, qL2505, qL3006, qL999999, qL1000000])
  unfold f2_hiddenSwaps
  refine Eq.trans ht ?_
  rw [f2_hiddenSwaps_l4]
  simp (disch := omega) only [q_inb, q_isZ0, q_isZ1, q_leT, q_leF, q_ltT, q_ltF, q_eqT, q_eqF, nI_leI, nI_ltI, nI_eq, nI_add, pk_mul, q_sub, pk_sub, q_mod, pk_div, nI_clamp, q_not, q_m1, q_z1, q_n1lt, Nat.add_zero, Nat.zero_add, q_nT, q_nF, ↓reduceIte, bd0_s, bd1_s, bd2_s, bd3_s, bd4_s, bd5_s, bd6_s, bd7_s, bd8_s, bd9_s, lt_s_, qL0, qL1, qL2, qL3, qL4, qL5, qL6, qL7, qL8, qL9, qL10, qL11, qL12, qL13, qL14, qL15, qL16, qL17, qL21, qL25, qL26, qL31, qL33, qL40, qL43, qL45, qL48, qL49, qL57, qL58, qL59, qL60, qL61, qL65, qL90, qL97, qL98, qL99, qL118, qL119, qL126, qL240, qL261, qL501, qL999, qL1000, qL1002, qL2505, qL3006, qL999999, qL1000000]
theorem s6_missedSwaps {m : Nat} {W : NF} {g : Nat → Int32} (Hw : wW_ m W) (H : mW_ m W g) {s : Nat} (hs_ : s < 1000000) : f6_missedSwaps g (nI s) = some (nI (fb_sm (hs m W s) 5)) := by
  obtain ⟨t, ht⟩ := traj0 (fun i t => f6_missedSwaps_l4 g (nI s) t (nI (fb_sm (hs m W s) i)) (nI i)) 5 (by decide) (fun p t hp => by
    have h4 := hs_part m W s (show p ≤ 5 by omega)
    rw [f6_missedSwaps_l4, fb_sm_succ]
    generalize fb_sm (hs m W s) p = c at h4 ⊢
    have h5 := s6_digit hs_ (show p < 6 by omega)
    have h6 := s6_digit hs_ (show p + 1 < 6 by omega)
    have h8 := dg_le s p
    have h9 := dg_le s (p + 1)
    have hW1 := (Hw.2.2 p (by omega)).2
    have hW2 := (Hw.2.2 (p + 1) (by omega)).2
    have h10 : df (W p) (W (p + 1)) * df (dg s p) (dg s (p + 1)) < 2 ^ 31 := Nat.lt_of_le_of_lt (Nat.mul_le_mul (df_le (c := 9) hW1 hW2) (df_le (c := 9) h8 h9)) (by decide)
    have h11 := s6_isLeft H Hw.1 Hw.2.1 (sg_sub (W p) (W (p + 1))) (sg_sub (dg s p) (dg s (p + 1))) h10
    have h12 := sg_0 (sg_sub (dg s p) (dg s (p + 1))) (Nat.lt_of_le_of_lt (df_le (c := 9) h8 h9) (by decide))
    rw [df_0] at h12
    have h13 := e_m3 H (show p < 6 by omega)
    have h14 : g (3 + p + 1) = nI (W (p + 1)) := H.2 (p + 1) (by omega)
    have e0 : ¬ (5 : Int32) ≤ nI p := by
      rw [qL5, nI_leI (by decide) (by omega)]
      omega
    rw [if_neg e0, nI_1, h5, bd1_s, h6, bd1_s]
    have e1 : inb (3 + nI p) 501 := by
      rw [qL3, nI_add]
      exact vp_in_nI (by omega) (by decide)
    have e2 : inb (3 + nI p + 1) 501 := by
      rw [qL3, nI_add, nI_1]
      exact vp_in_nI (by omega) (by decide)
    have e3 : g (3 + nI p).toNatClampNeg = nI (W p) := by
      rw [qL3, nI_add, nI_clamp (by omega), h13]
    have e4 : g (3 + nI p + 1).toNatClampNeg = nI (W (p + 1)) := by
      rw [qL3, nI_add, nI_1, nI_clamp (by omega), h14]
    by_cases hd : dg s p = dg s (p + 1)
    · have h13 : hs m W s p = 0 := if_neg fun q => q.1 hd
      rw [if_pos (h12.mpr hd), h13]
      simp (disch := omega) only [q_inb, q_isZ0, q_isZ1, q_leT, q_leF, q_ltT, q_ltF, q_eqT, q_eqF, nI_leI, nI_ltI, nI_eq, nI_add, pk_mul, q_sub, pk_sub, q_mod, pk_div, nI_clamp, q_not, q_m1, q_z1, q_n1lt, Nat.add_zero, Nat.zero_add, q_nT, q_nF, ↓reduceIte, bd0_s, bd1_s, bd2_s, bd3_s, bd4_s, bd5_s, bd6_s, bd7_s, bd8_s, bd9_s, lt_s_, qL0, qL1, qL2, qL3, qL4, qL5, qL6, qL7, qL8, qL9, qL10, qL11, qL12, qL13, qL14, qL15, qL16, qL17, qL21, qL25, qL26, qL31, qL33, qL40, qL43, qL45, qL48, qL49, qL57, qL58, qL59, qL60, qL61, qL65, qL90, qL97, qL98, qL99, qL118, qL119, qL126, qL240, qL261, qL501, qL999, qL1000, qL1002, qL2505, qL3006, qL999999, qL1000000, f6_missedSwaps_j62, f6_missedSwaps_j63]
    · rw [if_neg (fun q => hd (h12.mp q)), if_pos e1, if_pos e2, e3, e4]
      by_cases h : df (W p) (W (p + 1)) * df (dg s p) (dg s (p + 1)) % m = 0
      · have h13 : hs m W s p = 1 := if_pos ⟨hd, h⟩
        rw [bI_t h] at h11
        rw [h13, h11]
        simp (disch := omega) only [q_inb, q_isZ0, q_isZ1, q_leT, q_leF, q_ltT, q_ltF, q_eqT, q_eqF, nI_leI, nI_ltI, nI_eq, nI_add, pk_mul, q_sub, pk_sub, q_mod, pk_div, nI_clamp, q_not, q_m1, q_z1, q_n1lt, Nat.add_zero, Nat.zero_add, q_nT, q_nF, ↓reduceIte, bd0_s, bd1_s, bd2_s, bd3_s, bd4_s, bd5_s, bd6_s, bd7_s, bd8_s, bd9_s, lt_s_, qL0, qL1, qL2, qL3, qL4, qL5, qL6, qL7, qL8, qL9, qL10, qL11, qL12, qL13, qL14, qL15, qL16, qL17, qL21, qL25, qL26, qL31, qL33, qL40, qL43, qL45, qL48, qL49, qL57, qL58, qL59, qL60, qL61, qL65, qL90, qL97, qL98, qL99, qL118, qL119, qL126, qL240, qL261, qL501, qL999, qL1000, qL1002, qL2505, qL3006, qL999999, qL1000000, f6_missedSwaps_j62, f6_missedSwaps_j63]
      · have h13 : hs m W s p = 0 := if_neg fun q => h q.2
        rw [bI_f h] at h11
        rw [h13, h11]
        simp (disch := omega) only [q_inb, q_isZ0, q_isZ1, q_leT, q_leF, q_ltT, q_ltF, q_eqT, q_eqF, nI_leI, nI_ltI, nI_eq, nI_add, pk_mul, q_sub, pk_sub, q_mod, pk_div, nI_clamp, q_not, q_m1, q_z1, q_n1lt, Nat.add_zero, Nat.zero_add, q_nT, q_nF, ↓reduceIte, bd0_s, bd1_s, bd2_s, bd3_s, bd4_s, bd5_s, bd6_s, bd7_s, bd8_s, bd9_s, lt_s_, qL0, qL1, qL2, qL3, qL4, qL5, qL6, qL7, qL8, qL9, qL10, qL11, qL12, qL13, qL14, qL15, qL16, qL17, qL21, qL25, qL26, qL31, qL33, qL40, qL43, qL45, qL48, qL49, qL57, qL58, qL59, qL60, qL61, qL65, qL90, qL97, qL98, qL99, qL118, qL119, qL126, qL240, qL261, qL501, qL999, qL1000, qL1002, qL2505, qL3006, qL999999, qL1000000, f6_missedSwaps_j62, f6_missedSwaps_j63])
  unfold f6_missedSwaps
  refine Eq.trans ht ?_
  rw [f6_missedSwaps_l4]
  simp (disch := omega) only [q_inb, q_isZ0, q_isZ1, q_leT, q_leF, q_ltT, q_ltF, q_eqT, q_eqF, nI_leI, nI_ltI, nI_eq, nI_add, pk_mul, q_sub, pk_sub, q_mod, pk_div, nI_clamp, q_not, q_m1, q_z1, q_n1lt, Nat.add_zero, Nat.zero_add, q_nT, q_nF, ↓reduceIte, bd0_s, bd1_s, bd2_s, bd3_s, bd4_s, bd5_s, bd6_s, bd7_s, bd8_s, bd9_s, lt_s_, qL0, qL1, qL2, qL3, qL4, qL5, qL6, qL7, qL8, qL9, qL10, qL11, qL12, qL13, qL14, qL15, qL16, qL17, qL21, qL25, qL26, qL31, qL33, qL40, qL43, qL45, qL48, qL49, qL57, qL58, qL59, qL60, qL61, qL65, qL90, qL97, qL98, qL99, qL118, qL119, qL126, qL240, qL261, qL501, qL999, qL1000, qL1002, qL2505, qL3006, qL999999, qL1000000]
/-- where the digits differ -/
def un (s r p : Nat) : Bool := decide (dg s p ≠ dg r p)
/-- the first, the last place of a kind -/
def fs (D : Nat → Bool) : Nat → Nat
  | 0 => 0
  | i + 1 => if D i then (if fb_ct D i = 0 then i else fs D i) else fs D i
def ls (D : Nat → Bool) : Nat → Nat
  | 0 => 0
  | i + 1 => if D i then i else ls D i
theorem fs_le (D : Nat → Bool) : ∀ i, fs D i ≤ i
  | 0 => Nat.le_refl 0
  | i + 1 => by
    have := fs_le D i
    rw [fs]
    split
    · split <;> omega
    · omega
theorem ls_le (D : Nat → Bool) : ∀ i, ls D i ≤ i
  | 0 => Nat.le_refl 0
  | i + 1 => by
    have := ls_le D i
    rw [ls]
    split <;> omega
theorem fs_cong {p q : Nat → Bool} : ∀ {n : Nat}, (∀ k, k < n → p k = q k) → fs p n = fs q n
  | 0, _ => rfl
  | n + 1, h => by
    rw [fs, fs, fs_cong (fun k hk => h k (by omega)), h n (by omega), fb_ct_cong (fun k hk => h k (by omega))]
theorem ls_cong {p q : Nat → Bool} : ∀ {n : Nat}, (∀ k, k < n → p k = q k) → ls p n = ls q n
  | 0, _ => rfl
  | n + 1, h => by
    rw [ls, ls, ls_cong (fun k hk => h k (by omega)), h n (by omega)]
def six (b0 b1 b2 b3 b4 b5 : Bool) (p : Nat) : Bool := if p = 0 then b0 else if p = 1 then b1 else if p = 2 then b2 else if p = 3 then b3 else if p = 4 then b4 else b5
theorem two_six : ∀ b0 b1 b2 b3 b4 b5 : Bool, fb_ct (six b0 b1 b2 b3 b4 b5) 6 = 2 → fs (six b0 b1 b2 b3 b4 b5) 6 < ls (six b0 b1 b2 b3 b4 b5) 6 ∧ ls (six b0 b1 b2 b3 b4 b5) 6 < 6 ∧ six b0 b1 b2 b3 b4 b5 (fs (six b0 b1 b2 b3 b4 b5) 6) = true ∧ six b0 b1 b2 b3 b4 b5 (ls (six b0 b1 b2 b3 b4 b5) 6) = true ∧ ∀ p, p < 6 → six b0 b1 b2 b3 b4 b5 p = true → p = fs (six b0 b1 b2 b3 b4 b5) 6 ∨ p = ls (six b0 b1 b2 b3 b4 b5) 6 := by decide +kernel
theorem two_of {D : Nat → Bool} (h : fb_ct D 6 = 2) : fs D 6 < ls D 6 ∧ ls D 6 < 6 ∧ D (fs D 6) = true ∧ D (ls D 6) = true ∧ ∀ p, p < 6 → D p = true → p = fs D 6 ∨ p = ls D 6 := by
  have e : ∀ k, k < 6 → D k = six (D 0) (D 1) (D 2) (D 3) (D 4) (D 5) k := fun k hk => by
    rcases (show k = 0 ∨ k = 1 ∨ k = 2 ∨ k = 3 ∨ k = 4 ∨ k = 5 by omega) with rfl | rfl | rfl | rfl | rfl | rfl <;> rfl
  have h1 := two_six (D 0) (D 1) (D 2) (D 3) (D 4) (D 5)
  rw [← fb_ct_cong e, ← fs_cong e, ← ls_cong e] at h1
  obtain ⟨h2, h3, h4, h5, h6⟩ := h1 h
  refine ⟨h2, h3, ?_, ?_, fun p hp hD => h6 p hp ?_⟩
  · rw [e _ (by omega)]; exact h4
  · rw [e _ h3]; exact h5
  · rw [← e p hp]; exact hD
abbrev sw (s r : Nat) : Prop := dg s (fs (un s r) 6) = dg r (fs (un s r) 6 + 1) ∧ dg s (fs (un s r) 6 + 1) = dg r (fs (un s r) 6)
theorem un_f {s r p : Nat} (h : un s r p = false) : dg s p = dg r p := by
  unfold un at h
  exact Decidable.not_not.mp (of_decide_eq_false h)
theorem un_t {s r p : Nat} (h : un s r p = true) : dg s p ≠ dg r p := of_decide_eq_true h
theorem sw_last {s r : Nat} (h : fb_ct (un s r) 6 = 2) : (dg s (ls (un s r) 6) = dg r (ls (un s r) 6 - 1) ∧ dg s (ls (un s r) 6 - 1) = dg r (ls (un s r) 6)) ↔ sw s r := by
  obtain ⟨h1, h2, h3, h4, h5⟩ := two_of h
  unfold sw
  generalize fs (un s r) 6 = f at h1 h3 h5 ⊢
  generalize ls (un s r) 6 = l at h1 h2 h4 h5 ⊢
  by_cases hl : l = f + 1
  · subst hl
    rw [Nat.add_sub_cancel]
    exact ⟨fun q => ⟨q.2, q.1⟩, fun q => ⟨q.2, q.1⟩⟩
  · constructor
    · intro q
      have e : un s r (l - 1) = false := by
        cases hh : un s r (l - 1)
        · rfl
        · rcases h5 (l - 1) (by omega) hh with z | z <;> omega
      have e1 := un_f e
      exact absurd (by rw [q.1, ← e1, q.2]) (un_t h4)
    · intro q
      have e : un s r (f + 1) = false := by
        cases hh : un s r (f + 1)
        · rfl
        · rcases h5 (f + 1) (by omega) hh with z | z <;> omega
      have e1 := un_f e
      exact absurd (by rw [q.1, ← e1, q.2]) (un_t h3)
/-- the kind of slip between two serials: 3 the same, none otherwise -/
def wyv (s r : Nat) : Int32 := if fb_ct (un s r) 6 = 0 then nI 3 else if fb_ct (un s r) 6 = 1 then nI 0 else if fb_ct (un s r) 6 = 2 ∧ sw s r then nI 1 else -nI 1
theorem wyv_0 {s r : Nat} (h : fb_ct (un s r) 6 = 0) : wyv s r = nI 3 := if_pos h
theorem wyv_1 {s r : Nat} (h : fb_ct (un s r) 6 = 1) : wyv s r = nI 0 := by
  unfold wyv
  rw [if_neg (by omega), if_pos h]
theorem wyv_2 {s r : Nat} (h : fb_ct (un s r) 6 = 2) (h2 : sw s r) : wyv s r = nI 1 := by
  unfold wyv
  rw [if_neg (by omega), if_neg (by omega), if_pos ⟨h, h2⟩]
theorem wyv_n {s r : Nat} (h0 : ¬ fb_ct (un s r) 6 = 0) (h1 : ¬ fb_ct (un s r) 6 = 1) (h : ¬ (fb_ct (un s r) 6 = 2 ∧ sw s r)) : wyv s r = -nI 1 := by
  unfold wyv
  rw [if_neg h0, if_neg h1, if_neg h]
theorem un_0 {s r : Nat} (hs : s < 1000000) (hr : r < 1000000) : fb_ct (un s r) 6 = 0 ↔ s = r := by
  rw [fb_ct_zero]
  constructor
  · intro h
    have h0 := un_f (h 0 (by decide))
    have h1 := un_f (h 1 (by decide))
    have h2 := un_f (h 2 (by decide))
    have h3 := un_f (h 3 (by decide))
    have h4 := un_f (h 4 (by decide))
    have h5 := un_f (h 5 (by decide))
    simp only [dg, Nat.reduceSub, Nat.reducePow] at h0 h1 h2 h3 h4 h5
    omega
  · rintro rfl k hk
    exact decide_eq_false fun q => q rfl
theorem ct_le6 (D : Nat → Bool) {i : Nat} (hi : i ≤ 6) : fb_ct D i ≤ 6 := Nat.le_trans (fb_ct_le D i) hi
theorem s2_isSwapped {s r f : Nat} (hs : s < 1000000) (hr : r < 1000000) (hf : f < 5) : f2_isSwapped (nI s) (nI r) (nI f) = some (nI (bI (dg s f = dg r (f + 1) ∧ dg s (f + 1) = dg r f))) := by
  have h1 := s2_digitAt hs (show f < 6 by omega)
  have h2 := s2_digitAt hs (show f + 1 < 6 by omega)
  have h3 := s2_digitAt hr (show f < 6 by omega)
  have h4 := s2_digitAt hr (show f + 1 < 6 by omega)
  have b1 := dg_le s f
  have b2 := dg_le s (f + 1)
  have b3 := dg_le r f
  have b4 := dg_le r (f + 1)
  by_cases e1 : dg s f = dg r (f + 1)
  · by_cases e2 : dg s (f + 1) = dg r f
    · rw [bI_t ⟨e1, e2⟩]
      simp (disch := omega) only [q_inb, q_isZ0, q_isZ1, q_leT, q_leF, q_ltT, q_ltF, q_eqT, q_eqF, nI_leI, nI_ltI, nI_eq, nI_add, pk_mul, q_sub, pk_sub, q_mod, pk_div, nI_clamp, q_not, q_m1, q_z1, q_n1lt, Nat.add_zero, Nat.zero_add, q_nT, q_nF, ↓reduceIte, bd0_s, bd1_s, bd2_s, bd3_s, bd4_s, bd5_s, bd6_s, bd7_s, bd8_s, bd9_s, lt_s_, qL0, qL1, qL2, qL3, qL4, qL5, qL6, qL7, qL8, qL9, qL10, qL11, qL12, qL13, qL14, qL15, qL16, qL17, qL21, qL25, qL26, qL31, qL33, qL40, qL43, qL45, qL48, qL49, qL57, qL58, qL59, qL60, qL61, qL65, qL90, qL97, qL98, qL99, qL118, qL119, qL126, qL240, qL261, qL501, qL999, qL1000, qL1002, qL2505, qL3006, qL999999, qL1000000, f2_isSwapped, h1, h2, h3, h4]
    · rw [bI_f fun q => e2 q.2]
      simp (disch := omega) only [q_inb, q_isZ0, q_isZ1, q_leT, q_leF, q_ltT, q_ltF, q_eqT, q_eqF, nI_leI, nI_ltI, nI_eq, nI_add, pk_mul, q_sub, pk_sub, q_mod, pk_div, nI_clamp, q_not, q_m1, q_z1, q_n1lt, Nat.add_zero, Nat.zero_add, q_nT, q_nF, ↓reduceIte, bd0_s, bd1_s, bd2_s, bd3_s, bd4_s, bd5_s, bd6_s, bd7_s, bd8_s, bd9_s, lt_s_, qL0, qL1, qL2, qL3, qL4, qL5, qL6, qL7, qL8, qL9, qL10, qL11, qL12, qL13, qL14, qL15, qL16, qL17, qL21, qL25, qL26, qL31, qL33, qL40, qL43, qL45, qL48, qL49, qL57, qL58, qL59, qL60, qL61, qL65, qL90, qL97, qL98, qL99, qL118, qL119, qL126, qL240, qL261, qL501, qL999, qL1000, qL1002, qL2505, qL3006, qL999999, qL1000000, f2_isSwapped, h1, h2, h3, h4]
  · rw [bI_f fun q => e1 q.1]
    simp (disch := omega) only [q_inb, q_isZ0, q_isZ1, q_leT, q_leF, q_ltT, q_ltF, q_eqT, q_eqF, nI_leI, nI_ltI, nI_eq, nI_add, pk_mul, q_sub, pk_sub, q_mod, pk_div, nI_clamp, q_not, q_m1, q_z1, q_n1lt, Nat.add_zero, Nat.zero_add, q_nT, q_nF, ↓reduceIte, bd0_s, bd1_s, bd2_s, bd3_s, bd4_s, bd5_s, bd6_s, bd7_s, bd8_s, bd9_s, lt_s_, qL0, qL1, qL2, qL3, qL4, qL5, qL6, qL7, qL8, qL9, qL10, qL11, qL12, qL13, qL14, qL15, qL16, qL17, qL21, qL25, qL26, qL31, qL33, qL40, qL43, qL45, qL48, qL49, qL57, qL58, qL59, qL60, qL61, qL65, qL90, qL97, qL98, qL99, qL118, qL119, qL126, qL240, qL261, qL501, qL999, qL1000, qL1002, qL2505, qL3006, qL999999, qL1000000, f2_isSwapped, h1, h2, h3, h4]
theorem s2_digitSlip {s r : Nat} (hs : s < 1000000) (hr : r < 1000000) (hne : s ≠ r) : f2_digitSlip (nI s) (nI r) = some (wyv s r) := by
  obtain ⟨t, ht⟩ := traj0 (fun i t => f2_digitSlip_l7 (nI s) (nI r) t (nI (fb_ct (un s r) i)) (nI (fs (un s r) i)) (nI i)) 6 (by decide) (fun p t hp => by
    have h1 := s2_digitAt hs hp
    have h2 := s2_digitAt hr hp
    have b1 := dg_le s p
    have b2 := dg_le r p
    have b3 := ct_le6 (un s r) (show p ≤ 6 by omega)
    have b4 := fs_le (un s r) p
    rw [f2_digitSlip_l7, fb_ct_succ, fs]
    by_cases h : dg s p = dg r p
    · have e : un s r p = false := decide_eq_false fun q => q h
      rw [e]
      simp (disch := omega) only [q_inb, q_isZ0, q_isZ1, q_leT, q_leF, q_ltT, q_ltF, q_eqT, q_eqF, nI_leI, nI_ltI, nI_eq, nI_add, pk_mul, q_sub, pk_sub, q_mod, pk_div, nI_clamp, q_not, q_m1, q_z1, q_n1lt, Nat.add_zero, Nat.zero_add, q_nT, q_nF, ↓reduceIte, bd0_s, bd1_s, bd2_s, bd3_s, bd4_s, bd5_s, bd6_s, bd7_s, bd8_s, bd9_s, lt_s_, qL0, qL1, qL2, qL3, qL4, qL5, qL6, qL7, qL8, qL9, qL10, qL11, qL12, qL13, qL14, qL15, qL16, qL17, qL21, qL25, qL26, qL31, qL33, qL40, qL43, qL45, qL48, qL49, qL57, qL58, qL59, qL60, qL61, qL65, qL90, qL97, qL98, qL99, qL118, qL119, qL126, qL240, qL261, qL501, qL999, qL1000, qL1002, qL2505, qL3006, qL999999, qL1000000, h1, h2]
      simp only [Bool.false_eq_true, if_false, Nat.add_zero]
    · have e : un s r p = true := decide_eq_true h
      rw [e]
      by_cases h0 : fb_ct (un s r) p = 0
      · simp (disch := omega) only [q_inb, q_isZ0, q_isZ1, q_leT, q_leF, q_ltT, q_ltF, q_eqT, q_eqF, nI_leI, nI_ltI, nI_eq, nI_add, pk_mul, q_sub, pk_sub, q_mod, pk_div, nI_clamp, q_not, q_m1, q_z1, q_n1lt, Nat.add_zero, Nat.zero_add, q_nT, q_nF, ↓reduceIte, bd0_s, bd1_s, bd2_s, bd3_s, bd4_s, bd5_s, bd6_s, bd7_s, bd8_s, bd9_s, lt_s_, qL0, qL1, qL2, qL3, qL4, qL5, qL6, qL7, qL8, qL9, qL10, qL11, qL12, qL13, qL14, qL15, qL16, qL17, qL21, qL25, qL26, qL31, qL33, qL40, qL43, qL45, qL48, qL49, qL57, qL58, qL59, qL60, qL61, qL65, qL90, qL97, qL98, qL99, qL118, qL119, qL126, qL240, qL261, qL501, qL999, qL1000, qL1002, qL2505, qL3006, qL999999, qL1000000, h1, h2, h0]
      · simp (disch := omega) only [q_inb, q_isZ0, q_isZ1, q_leT, q_leF, q_ltT, q_ltF, q_eqT, q_eqF, nI_leI, nI_ltI, nI_eq, nI_add, pk_mul, q_sub, pk_sub, q_mod, pk_div, nI_clamp, q_not, q_m1, q_z1, q_n1lt, Nat.add_zero, Nat.zero_add, q_nT, q_nF, ↓reduceIte, bd0_s, bd1_s, bd2_s, bd3_s, bd4_s, bd5_s, bd6_s, bd7_s, bd8_s, bd9_s, lt_s_, qL0, qL1, qL2, qL3, qL4, qL5, qL6, qL7, qL8, qL9, qL10, qL11, qL12, qL13, qL14, qL15, qL16, qL17, qL21, qL25, qL26, qL31, qL33, qL40, qL43, qL45, qL48, qL49, qL57, qL58, qL59, qL60, qL61, qL65, qL90, qL97, qL98, qL99, qL118, qL119, qL126, qL240, qL261, qL501, qL999, qL1000, qL1002, qL2505, qL3006, qL999999, qL1000000, h1, h2, h0])
  have b3 := ct_le6 (un s r) (Nat.le_refl 6)
  unfold f2_digitSlip
  refine Eq.trans ht ?_
  rw [f2_digitSlip_l7]
  have h0 : ¬ fb_ct (un s r) 6 = 0 := fun q => hne ((un_0 hs hr).mp q)
  by_cases h1 : fb_ct (un s r) 6 = 1
  · rw [wyv_1 h1]
    simp (disch := omega) only [q_inb, q_isZ0, q_isZ1, q_leT, q_leF, q_ltT, q_ltF, q_eqT, q_eqF, nI_leI, nI_ltI, nI_eq, nI_add, pk_mul, q_sub, pk_sub, q_mod, pk_div, nI_clamp, q_not, q_m1, q_z1, q_n1lt, Nat.add_zero, Nat.zero_add, q_nT, q_nF, ↓reduceIte, bd0_s, bd1_s, bd2_s, bd3_s, bd4_s, bd5_s, bd6_s, bd7_s, bd8_s, bd9_s, lt_s_, qL0, qL1, qL2, qL3, qL4, qL5, qL6, qL7, qL8, qL9, qL10, qL11, qL12, qL13, qL14, qL15, qL16, qL17, qL21, qL25, qL26, qL31, qL33, qL40, qL43, qL45, qL48, qL49, qL57, qL58, qL59, qL60, qL61, qL65, qL90, qL97, qL98, qL99, qL118, qL119, qL126, qL240, qL261, qL501, qL999, qL1000, qL1002, qL2505, qL3006, qL999999, qL1000000]
  · by_cases h2 : fb_ct (un s r) 6 = 2
    · obtain ⟨c1, c2, -⟩ := two_of h2
      have h3 := s2_isSwapped hs hr (show fs (un s r) 6 < 5 by omega)
      by_cases h4 : sw s r
      · rw [wyv_2 h2 h4]
        rw [bI_t h4] at h3
        simp (disch := omega) only [q_inb, q_isZ0, q_isZ1, q_leT, q_leF, q_ltT, q_ltF, q_eqT, q_eqF, nI_leI, nI_ltI, nI_eq, nI_add, pk_mul, q_sub, pk_sub, q_mod, pk_div, nI_clamp, q_not, q_m1, q_z1, q_n1lt, Nat.add_zero, Nat.zero_add, q_nT, q_nF, ↓reduceIte, bd0_s, bd1_s, bd2_s, bd3_s, bd4_s, bd5_s, bd6_s, bd7_s, bd8_s, bd9_s, lt_s_, qL0, qL1, qL2, qL3, qL4, qL5, qL6, qL7, qL8, qL9, qL10, qL11, qL12, qL13, qL14, qL15, qL16, qL17, qL21, qL25, qL26, qL31, qL33, qL40, qL43, qL45, qL48, qL49, qL57, qL58, qL59, qL60, qL61, qL65, qL90, qL97, qL98, qL99, qL118, qL119, qL126, qL240, qL261, qL501, qL999, qL1000, qL1002, qL2505, qL3006, qL999999, qL1000000, h3, f2_digitSlip_j70, f2_digitSlip_j71]
      · rw [wyv_n h0 h1 fun q => h4 q.2]
        rw [bI_f h4] at h3
        simp (disch := omega) only [q_inb, q_isZ0, q_isZ1, q_leT, q_leF, q_ltT, q_ltF, q_eqT, q_eqF, nI_leI, nI_ltI, nI_eq, nI_add, pk_mul, q_sub, pk_sub, q_mod, pk_div, nI_clamp, q_not, q_m1, q_z1, q_n1lt, Nat.add_zero, Nat.zero_add, q_nT, q_nF, ↓reduceIte, bd0_s, bd1_s, bd2_s, bd3_s, bd4_s, bd5_s, bd6_s, bd7_s, bd8_s, bd9_s, lt_s_, qL0, qL1, qL2, qL3, qL4, qL5, qL6, qL7, qL8, qL9, qL10, qL11, qL12, qL13, qL14, qL15, qL16, qL17, qL21, qL25, qL26, qL31, qL33, qL40, qL43, qL45, qL48, qL49, qL57, qL58, qL59, qL60, qL61, qL65, qL90, qL97, qL98, qL99, qL118, qL119, qL126, qL240, qL261, qL501, qL999, qL1000, qL1002, qL2505, qL3006, qL999999, qL1000000, h3, f2_digitSlip_j70, f2_digitSlip_j71]
    · rw [wyv_n h0 h1 fun q => h2 q.1]
      simp (disch := omega) only [q_inb, q_isZ0, q_isZ1, q_leT, q_leF, q_ltT, q_ltF, q_eqT, q_eqF, nI_leI, nI_ltI, nI_eq, nI_add, pk_mul, q_sub, pk_sub, q_mod, pk_div, nI_clamp, q_not, q_m1, q_z1, q_n1lt, Nat.add_zero, Nat.zero_add, q_nT, q_nF, ↓reduceIte, bd0_s, bd1_s, bd2_s, bd3_s, bd4_s, bd5_s, bd6_s, bd7_s, bd8_s, bd9_s, lt_s_, qL0, qL1, qL2, qL3, qL4, qL5, qL6, qL7, qL8, qL9, qL10, qL11, qL12, qL13, qL14, qL15, qL16, qL17, qL21, qL25, qL26, qL31, qL33, qL40, qL43, qL45, qL48, qL49, qL57, qL58, qL59, qL60, qL61, qL65, qL90, qL97, qL98, qL99, qL118, qL119, qL126, qL240, qL261, qL501, qL999, qL1000, qL1002, qL2505, qL3006, qL999999, qL1000000, f2_digitSlip_j70, f2_digitSlip_j71]
theorem s6_way {s r : Nat} (hs : s < 1000000) (hr : r < 1000000) : f6_way (nI s) (nI r) = some (wyv s r) := by
  obtain ⟨t, ht⟩ := traj0 (fun i t => f6_way_l7 (nI s) (nI r) t (nI (fb_ct (un s r) i)) (nI (ls (un s r) i)) (nI i)) 6 (by decide) (fun p t hp => by
    have h1 := s6_digit hs hp
    have h2 := s6_digit hr hp
    have b1 := dg_le s p
    have b2 := dg_le r p
    have b3 := ct_le6 (un s r) (show p ≤ 6 by omega)
    have b4 := ls_le (un s r) p
    rw [f6_way_l7, fb_ct_succ, ls]
    by_cases h : dg s p = dg r p
    · have e : un s r p = false := decide_eq_false fun q => q h
      rw [e]
      simp (disch := omega) only [q_inb, q_isZ0, q_isZ1, q_leT, q_leF, q_ltT, q_ltF, q_eqT, q_eqF, nI_leI, nI_ltI, nI_eq, nI_add, pk_mul, q_sub, pk_sub, q_mod, pk_div, nI_clamp, q_not, q_m1, q_z1, q_n1lt, Nat.add_zero, Nat.zero_add, q_nT, q_nF, ↓reduceIte, bd0_s, bd1_s, bd2_s, bd3_s, bd4_s, bd5_s, bd6_s, bd7_s, bd8_s, bd9_s, lt_s_, qL0, qL1, qL2, qL3, qL4, qL5, qL6, qL7, qL8, qL9, qL10, qL11, qL12, qL13, qL14, qL15, qL16, qL17, qL21, qL25, qL26, qL31, qL33, qL40, qL43, qL45, qL48, qL49, qL57, qL58, qL59, qL60, qL61, qL65, qL90, qL97, qL98, qL99, qL118, qL119, qL126, qL240, qL261, qL501, qL999, qL1000, qL1002, qL2505, qL3006, qL999999, qL1000000, h1, h2, f6_way_j34, f6_way_j47]
      simp only [Bool.false_eq_true, if_false, Nat.add_zero]
    · have e : un s r p = true := decide_eq_true h
      rw [e]
      simp (disch := omega) only [q_inb, q_isZ0, q_isZ1, q_leT, q_leF, q_ltT, q_ltF, q_eqT, q_eqF, nI_leI, nI_ltI, nI_eq, nI_add, pk_mul, q_sub, pk_sub, q_mod, pk_div, nI_clamp, q_not, q_m1, q_z1, q_n1lt, Nat.add_zero, Nat.zero_add, q_nT, q_nF, ↓reduceIte, bd0_s, bd1_s, bd2_s, bd3_s, bd4_s, bd5_s, bd6_s, bd7_s, bd8_s, bd9_s, lt_s_, qL0, qL1, qL2, qL3, qL4, qL5, qL6, qL7, qL8, qL9, qL10, qL11, qL12, qL13, qL14, qL15, qL16, qL17, qL21, qL25, qL26, qL31, qL33, qL40, qL43, qL45, qL48, qL49, qL57, qL58, qL59, qL60, qL61, qL65, qL90, qL97, qL98, qL99, qL118, qL119, qL126, qL240, qL261, qL501, qL999, qL1000, qL1002, qL2505, qL3006, qL999999, qL1000000, h1, h2, f6_way_j34, f6_way_j47])
  have b3 := ct_le6 (un s r) (Nat.le_refl 6)
  unfold f6_way
  refine Eq.trans ht ?_
  rw [f6_way_l7]
  by_cases h0 : fb_ct (un s r) 6 = 0
  · rw [wyv_0 h0]
    simp (disch := omega) only [q_inb, q_isZ0, q_isZ1, q_leT, q_leF, q_ltT, q_ltF, q_eqT, q_eqF, nI_leI, nI_ltI, nI_eq, nI_add, pk_mul, q_sub, pk_sub, q_mod, pk_div, nI_clamp, q_not, q_m1, q_z1, q_n1lt, Nat.add_zero, Nat.zero_add, q_nT, q_nF, ↓reduceIte, bd0_s, bd1_s, bd2_s, bd3_s, bd4_s, bd5_s, bd6_s, bd7_s, bd8_s, bd9_s, lt_s_, qL0, qL1, qL2, qL3, qL4, qL5, qL6, qL7, qL8, qL9, qL10, qL11, qL12, qL13, qL14, qL15, qL16, qL17, qL21, qL25, qL26, qL31, qL33, qL40, qL43, qL45, qL48, qL49, qL57, qL58, qL59, qL60, qL61, qL65, qL90, qL97, qL98, qL99, qL118, qL119, qL126, qL240, qL261, qL501, qL999, qL1000, qL1002, qL2505, qL3006, qL999999, qL1000000]
  by_cases h1 : fb_ct (un s r) 6 = 1
  · rw [wyv_1 h1]
    simp (disch := omega) only [q_inb, q_isZ0, q_isZ1, q_leT, q_leF, q_ltT, q_ltF, q_eqT, q_eqF, nI_leI, nI_ltI, nI_eq, nI_add, pk_mul, q_sub, pk_sub, q_mod, pk_div, nI_clamp, q_not, q_m1, q_z1, q_n1lt, Nat.add_zero, Nat.zero_add, q_nT, q_nF, ↓reduceIte, bd0_s, bd1_s, bd2_s, bd3_s, bd4_s, bd5_s, bd6_s, bd7_s, bd8_s, bd9_s, lt_s_, qL0, qL1, qL2, qL3, qL4, qL5, qL6, qL7, qL8, qL9, qL10, qL11, qL12, qL13, qL14, qL15, qL16, qL17, qL21, qL25, qL26, qL31, qL33, qL40, qL43, qL45, qL48, qL49, qL57, qL58, qL59, qL60, qL61, qL65, qL90, qL97, qL98, qL99, qL118, qL119, qL126, qL240, qL261, qL501, qL999, qL1000, qL1002, qL2505, qL3006, qL999999, qL1000000]
  · by_cases h2 : fb_ct (un s r) 6 = 2
    · obtain ⟨c1, c2, -⟩ := two_of h2
      have h3 := s6_digit hs c2
      have h4 := s6_digit hr c2
      have h5 := s6_digit hs (show ls (un s r) 6 - 1 < 6 by omega)
      have h6 := s6_digit hr (show ls (un s r) 6 - 1 < 6 by omega)
      have h7 := sw_last h2
      have d1 := dg_le s (ls (un s r) 6)
      have d2 := dg_le r (ls (un s r) 6)
      have d3 := dg_le s (ls (un s r) 6 - 1)
      have d4 := dg_le r (ls (un s r) 6 - 1)
      by_cases h8 : sw s r
      · rw [wyv_2 h2 h8]
        obtain ⟨k1, k2⟩ := h7.mpr h8
        simp (disch := omega) only [q_inb, q_isZ0, q_isZ1, q_leT, q_leF, q_ltT, q_ltF, q_eqT, q_eqF, nI_leI, nI_ltI, nI_eq, nI_add, pk_mul, q_sub, pk_sub, q_mod, pk_div, nI_clamp, q_not, q_m1, q_z1, q_n1lt, Nat.add_zero, Nat.zero_add, q_nT, q_nF, ↓reduceIte, bd0_s, bd1_s, bd2_s, bd3_s, bd4_s, bd5_s, bd6_s, bd7_s, bd8_s, bd9_s, lt_s_, qL0, qL1, qL2, qL3, qL4, qL5, qL6, qL7, qL8, qL9, qL10, qL11, qL12, qL13, qL14, qL15, qL16, qL17, qL21, qL25, qL26, qL31, qL33, qL40, qL43, qL45, qL48, qL49, qL57, qL58, qL59, qL60, qL61, qL65, qL90, qL97, qL98, qL99, qL118, qL119, qL126, qL240, qL261, qL501, qL999, qL1000, qL1002, qL2505, qL3006, qL999999, qL1000000, h3, h4, h5, h6, f6_way_j121, f6_way_j122]
      · rw [wyv_n h0 h1 fun q => h8 q.2]
        by_cases k1 : dg s (ls (un s r) 6) = dg r (ls (un s r) 6 - 1)
        · have k2 : ¬ dg s (ls (un s r) 6 - 1) = dg r (ls (un s r) 6) := fun q => h8 (h7.mp ⟨k1, q⟩)
          simp (disch := omega) only [q_inb, q_isZ0, q_isZ1, q_leT, q_leF, q_ltT, q_ltF, q_eqT, q_eqF, nI_leI, nI_ltI, nI_eq, nI_add, pk_mul, q_sub, pk_sub, q_mod, pk_div, nI_clamp, q_not, q_m1, q_z1, q_n1lt, Nat.add_zero, Nat.zero_add, q_nT, q_nF, ↓reduceIte, bd0_s, bd1_s, bd2_s, bd3_s, bd4_s, bd5_s, bd6_s, bd7_s, bd8_s, bd9_s, lt_s_, qL0, qL1, qL2, qL3, qL4, qL5, qL6, qL7, qL8, qL9, qL10, qL11, qL12, qL13, qL14, qL15, qL16, qL17, qL21, qL25, qL26, qL31, qL33, qL40, qL43, qL45, qL48, qL49, qL57, qL58, qL59, qL60, qL61, qL65, qL90, qL97, qL98, qL99, qL118, qL119, qL126, qL240, qL261, qL501, qL999, qL1000, qL1002, qL2505, qL3006, qL999999, qL1000000, h3, h4, h5, h6, f6_way_j121, f6_way_j122]
        · simp (disch := omega) only [q_inb, q_isZ0, q_isZ1, q_leT, q_leF, q_ltT, q_ltF, q_eqT, q_eqF, nI_leI, nI_ltI, nI_eq, nI_add, pk_mul, q_sub, pk_sub, q_mod, pk_div, nI_clamp, q_not, q_m1, q_z1, q_n1lt, Nat.add_zero, Nat.zero_add, q_nT, q_nF, ↓reduceIte, bd0_s, bd1_s, bd2_s, bd3_s, bd4_s, bd5_s, bd6_s, bd7_s, bd8_s, bd9_s, lt_s_, qL0, qL1, qL2, qL3, qL4, qL5, qL6, qL7, qL8, qL9, qL10, qL11, qL12, qL13, qL14, qL15, qL16, qL17, qL21, qL25, qL26, qL31, qL33, qL40, qL43, qL45, qL48, qL49, qL57, qL58, qL59, qL60, qL61, qL65, qL90, qL97, qL98, qL99, qL118, qL119, qL126, qL240, qL261, qL501, qL999, qL1000, qL1002, qL2505, qL3006, qL999999, qL1000000, h3, h4, h5, h6, f6_way_j121, f6_way_j122]
    · rw [wyv_n h0 h1 fun q => h2 q.1]
      simp (disch := omega) only [q_inb, q_isZ0, q_isZ1, q_leT, q_leF, q_ltT, q_ltF, q_eqT, q_eqF, nI_leI, nI_ltI, nI_eq, nI_add, pk_mul, q_sub, pk_sub, q_mod, pk_div, nI_clamp, q_not, q_m1, q_z1, q_n1lt, Nat.add_zero, Nat.zero_add, q_nT, q_nF, ↓reduceIte, bd0_s, bd1_s, bd2_s, bd3_s, bd4_s, bd5_s, bd6_s, bd7_s, bd8_s, bd9_s, lt_s_, qL0, qL1, qL2, qL3, qL4, qL5, qL6, qL7, qL8, qL9, qL10, qL11, qL12, qL13, qL14, qL15, qL16, qL17, qL21, qL25, qL26, qL31, qL33, qL40, qL43, qL45, qL48, qL49, qL57, qL58, qL59, qL60, qL61, qL65, qL90, qL97, qL98, qL99, qL118, qL119, qL126, qL240, qL261, qL501, qL999, qL1000, qL1002, qL2505, qL3006, qL999999, qL1000000, f6_way_j121, f6_way_j122]
/-- by which kind of slip the right reading of s becomes the reading r, l -/
def slv (m : Nat) (W : NF) (s r l : Nat) : Int32 := if ltr m W s = l then wyv s r else if s = r ∧ l < m then nI 2 else -nI 1
theorem slv_r {m : Nat} {W : NF} {s r l : Nat} (h : ltr m W s = l) : slv m W s r l = wyv s r := if_pos h
theorem slv_2 {m : Nat} {W : NF} {s r l : Nat} (h : ¬ ltr m W s = l) (h2 : s = r ∧ l < m) : slv m W s r l = nI 2 := by
  unfold slv
  rw [if_neg h, if_pos h2]
theorem slv_n {m : Nat} {W : NF} {s r l : Nat} (h : ¬ ltr m W s = l) (h2 : ¬ (s = r ∧ l < m)) : slv m W s r l = -nI 1 := by
  unfold slv
  rw [if_neg h, if_neg h2]
theorem wyv_3 {s r : Nat} (hs : s < 1000000) (hr : r < 1000000) : wyv s r = nI 3 ↔ s = r := by
  rw [← un_0 hs hr]
  unfold wyv
  constructor
  · intro h
    refine Decidable.byContradiction fun q => ?_
    rw [if_neg q] at h
    split at h
    · exact absurd h (by decide)
    · split at h <;> exact absurd h (by decide)
  · intro h
    rw [if_pos h]
theorem s2_slipKind {m : Nat} {W : NF} {wm : Int32} {wW : Nat → Int32} (Hw : wW_ m W) (H : cW_ m W wm wW) {s r l : Nat} (hs : s < 1000000) (hr : r < 1000000) (hl : l < 26) : f2_slipKind wm wW (nI s) (nI r) (nI l) = some (slv m W s r l) := by
  have h1 := s2_letterOf Hw H hs
  have h2 := ltr_lt Hw s
  have hm1 := Hw.1
  have hm2 := Hw.2.1
  unfold f2_slipKind
  rw [H.1] at h1 ⊢
  by_cases hlm : l < m
  · by_cases hq : ltr m W s = l
    · rw [slv_r hq]
      by_cases e : s = r
      · rw [(wyv_3 hs hr).mpr e]
        simp (disch := omega) only [q_inb, q_isZ0, q_isZ1, q_leT, q_leF, q_ltT, q_ltF, q_eqT, q_eqF, nI_leI, nI_ltI, nI_eq, nI_add, pk_mul, q_sub, pk_sub, q_mod, pk_div, nI_clamp, q_not, q_m1, q_z1, q_n1lt, Nat.add_zero, Nat.zero_add, q_nT, q_nF, ↓reduceIte, bd0_s, bd1_s, bd2_s, bd3_s, bd4_s, bd5_s, bd6_s, bd7_s, bd8_s, bd9_s, lt_s_, qL0, qL1, qL2, qL3, qL4, qL5, qL6, qL7, qL8, qL9, qL10, qL11, qL12, qL13, qL14, qL15, qL16, qL17, qL21, qL25, qL26, qL31, qL33, qL40, qL43, qL45, qL48, qL49, qL57, qL58, qL59, qL60, qL61, qL65, qL90, qL97, qL98, qL99, qL118, qL119, qL126, qL240, qL261, qL501, qL999, qL1000, qL1002, qL2505, qL3006, qL999999, qL1000000, h1, f2_slipKind_j24]
      · have h3 := s2_digitSlip hs hr e
        simp (disch := omega) only [q_inb, q_isZ0, q_isZ1, q_leT, q_leF, q_ltT, q_ltF, q_eqT, q_eqF, nI_leI, nI_ltI, nI_eq, nI_add, pk_mul, q_sub, pk_sub, q_mod, pk_div, nI_clamp, q_not, q_m1, q_z1, q_n1lt, Nat.add_zero, Nat.zero_add, q_nT, q_nF, ↓reduceIte, bd0_s, bd1_s, bd2_s, bd3_s, bd4_s, bd5_s, bd6_s, bd7_s, bd8_s, bd9_s, lt_s_, qL0, qL1, qL2, qL3, qL4, qL5, qL6, qL7, qL8, qL9, qL10, qL11, qL12, qL13, qL14, qL15, qL16, qL17, qL21, qL25, qL26, qL31, qL33, qL40, qL43, qL45, qL48, qL49, qL57, qL58, qL59, qL60, qL61, qL65, qL90, qL97, qL98, qL99, qL118, qL119, qL126, qL240, qL261, qL501, qL999, qL1000, qL1002, qL2505, qL3006, qL999999, qL1000000, h1, f2_slipKind_j24, h3]
    · by_cases e : s = r
      · rw [slv_2 hq ⟨e, hlm⟩]
        simp (disch := omega) only [q_inb, q_isZ0, q_isZ1, q_leT, q_leF, q_ltT, q_ltF, q_eqT, q_eqF, nI_leI, nI_ltI, nI_eq, nI_add, pk_mul, q_sub, pk_sub, q_mod, pk_div, nI_clamp, q_not, q_m1, q_z1, q_n1lt, Nat.add_zero, Nat.zero_add, q_nT, q_nF, ↓reduceIte, bd0_s, bd1_s, bd2_s, bd3_s, bd4_s, bd5_s, bd6_s, bd7_s, bd8_s, bd9_s, lt_s_, qL0, qL1, qL2, qL3, qL4, qL5, qL6, qL7, qL8, qL9, qL10, qL11, qL12, qL13, qL14, qL15, qL16, qL17, qL21, qL25, qL26, qL31, qL33, qL40, qL43, qL45, qL48, qL49, qL57, qL58, qL59, qL60, qL61, qL65, qL90, qL97, qL98, qL99, qL118, qL119, qL126, qL240, qL261, qL501, qL999, qL1000, qL1002, qL2505, qL3006, qL999999, qL1000000, h1, f2_slipKind_j24]
      · rw [slv_n hq fun q => e q.1]
        simp (disch := omega) only [q_inb, q_isZ0, q_isZ1, q_leT, q_leF, q_ltT, q_ltF, q_eqT, q_eqF, nI_leI, nI_ltI, nI_eq, nI_add, pk_mul, q_sub, pk_sub, q_mod, pk_div, nI_clamp, q_not, q_m1, q_z1, q_n1lt, Nat.add_zero, Nat.zero_add, q_nT, q_nF, ↓reduceIte, bd0_s, bd1_s, bd2_s, bd3_s, bd4_s, bd5_s, bd6_s, bd7_s, bd8_s, bd9_s, lt_s_, qL0, qL1, qL2, qL3, qL4, qL5, qL6, qL7, qL8, qL9, qL10, qL11, qL12, qL13, qL14, qL15, qL16, qL17, qL21, qL25, qL26, qL31, qL33, qL40, qL43, qL45, qL48, qL49, qL57, qL58, qL59, qL60, qL61, qL65, qL90, qL97, qL98, qL99, qL118, qL119, qL126, qL240, qL261, qL501, qL999, qL1000, qL1002, qL2505, qL3006, qL999999, qL1000000, h1, f2_slipKind_j24]
  · rw [slv_n (show ¬ ltr m W s = l by omega) fun q => hlm q.2]
    simp (disch := omega) only [q_inb, q_isZ0, q_isZ1, q_leT, q_leF, q_ltT, q_ltF, q_eqT, q_eqF, nI_leI, nI_ltI, nI_eq, nI_add, pk_mul, q_sub, pk_sub, q_mod, pk_div, nI_clamp, q_not, q_m1, q_z1, q_n1lt, Nat.add_zero, Nat.zero_add, q_nT, q_nF, ↓reduceIte, bd0_s, bd1_s, bd2_s, bd3_s, bd4_s, bd5_s, bd6_s, bd7_s, bd8_s, bd9_s, lt_s_, qL0, qL1, qL2, qL3, qL4, qL5, qL6, qL7, qL8, qL9, qL10, qL11, qL12, qL13, qL14, qL15, qL16, qL17, qL21, qL25, qL26, qL31, qL33, qL40, qL43, qL45, qL48, qL49, qL57, qL58, qL59, qL60, qL61, qL65, qL90, qL97, qL98, qL99, qL118, qL119, qL126, qL240, qL261, qL501, qL999, qL1000, qL1002, qL2505, qL3006, qL999999, qL1000000]
theorem s6_slipOf {m : Nat} {W : NF} {g : Nat → Int32} (Hw : wW_ m W) (H : mW_ m W g) {s r l : Nat} (hs : s < 1000000) (hr : r < 1000000) (hl : l < 26) : f6_slipOf g (nI s) (nI r) (nI l) = some (slv m W s r l) := by
  have h1 := s6_letterOf Hw H hs
  have h2 := ltr_lt Hw s
  have hm1 := Hw.1
  have hm2 := Hw.2.1
  have h3 := s6_way hs hr
  have h4 := wyv_3 hs hr
  unfold f6_slipOf
  rw [h3, h1, bd1_s, bd1_s, show g (1 : Int32).toNatClampNeg = nI m from H.1]
  by_cases hq : ltr m W s = l
  · rw [slv_r hq]
    simp (disch := omega) only [q_inb, q_isZ0, q_isZ1, q_leT, q_leF, q_ltT, q_ltF, q_eqT, q_eqF, nI_leI, nI_ltI, nI_eq, nI_add, pk_mul, q_sub, pk_sub, q_mod, pk_div, nI_clamp, q_not, q_m1, q_z1, q_n1lt, Nat.add_zero, Nat.zero_add, q_nT, q_nF, ↓reduceIte, bd0_s, bd1_s, bd2_s, bd3_s, bd4_s, bd5_s, bd6_s, bd7_s, bd8_s, bd9_s, lt_s_, qL0, qL1, qL2, qL3, qL4, qL5, qL6, qL7, qL8, qL9, qL10, qL11, qL12, qL13, qL14, qL15, qL16, qL17, qL21, qL25, qL26, qL31, qL33, qL40, qL43, qL45, qL48, qL49, qL57, qL58, qL59, qL60, qL61, qL65, qL90, qL97, qL98, qL99, qL118, qL119, qL126, qL240, qL261, qL501, qL999, qL1000, qL1002, qL2505, qL3006, qL999999, qL1000000]
  · by_cases e : s = r
    · rw [h4.mpr e]
      by_cases hlm : l < m
      · rw [slv_2 hq ⟨e, hlm⟩]
        simp (disch := omega) only [q_inb, q_isZ0, q_isZ1, q_leT, q_leF, q_ltT, q_ltF, q_eqT, q_eqF, nI_leI, nI_ltI, nI_eq, nI_add, pk_mul, q_sub, pk_sub, q_mod, pk_div, nI_clamp, q_not, q_m1, q_z1, q_n1lt, Nat.add_zero, Nat.zero_add, q_nT, q_nF, ↓reduceIte, bd0_s, bd1_s, bd2_s, bd3_s, bd4_s, bd5_s, bd6_s, bd7_s, bd8_s, bd9_s, lt_s_, qL0, qL1, qL2, qL3, qL4, qL5, qL6, qL7, qL8, qL9, qL10, qL11, qL12, qL13, qL14, qL15, qL16, qL17, qL21, qL25, qL26, qL31, qL33, qL40, qL43, qL45, qL48, qL49, qL57, qL58, qL59, qL60, qL61, qL65, qL90, qL97, qL98, qL99, qL118, qL119, qL126, qL240, qL261, qL501, qL999, qL1000, qL1002, qL2505, qL3006, qL999999, qL1000000]
      · rw [slv_n hq fun q => hlm q.2]
        simp (disch := omega) only [q_inb, q_isZ0, q_isZ1, q_leT, q_leF, q_ltT, q_ltF, q_eqT, q_eqF, nI_leI, nI_ltI, nI_eq, nI_add, pk_mul, q_sub, pk_sub, q_mod, pk_div, nI_clamp, q_not, q_m1, q_z1, q_n1lt, Nat.add_zero, Nat.zero_add, q_nT, q_nF, ↓reduceIte, bd0_s, bd1_s, bd2_s, bd3_s, bd4_s, bd5_s, bd6_s, bd7_s, bd8_s, bd9_s, lt_s_, qL0, qL1, qL2, qL3, qL4, qL5, qL6, qL7, qL8, qL9, qL10, qL11, qL12, qL13, qL14, qL15, qL16, qL17, qL21, qL25, qL26, qL31, qL33, qL40, qL43, qL45, qL48, qL49, qL57, qL58, qL59, qL60, qL61, qL65, qL90, qL97, qL98, qL99, qL118, qL119, qL126, qL240, qL261, qL501, qL999, qL1000, qL1002, qL2505, qL3006, qL999999, qL1000000]
    · rw [slv_n hq fun q => e q.1, if_neg (show ¬ wyv s r = (3 : Int32) from fun q => e (h4.mp q))]
      simp (disch := omega) only [q_inb, q_isZ0, q_isZ1, q_leT, q_leF, q_ltT, q_ltF, q_eqT, q_eqF, nI_leI, nI_ltI, nI_eq, nI_add, pk_mul, q_sub, pk_sub, q_mod, pk_div, nI_clamp, q_not, q_m1, q_z1, q_n1lt, Nat.add_zero, Nat.zero_add, q_nT, q_nF, ↓reduceIte, bd0_s, bd1_s, bd2_s, bd3_s, bd4_s, bd5_s, bd6_s, bd7_s, bd8_s, bd9_s, lt_s_, qL0, qL1, qL2, qL3, qL4, qL5, qL6, qL7, qL8, qL9, qL10, qL11, qL12, qL13, qL14, qL15, qL16, qL17, qL21, qL25, qL26, qL31, qL33, qL40, qL43, qL45, qL48, qL49, qL57, qL58, qL59, qL60, qL61, qL65, qL90, qL97, qL98, qL99, qL118, qL119, qL126, qL240, qL261, qL501, qL999, qL1000, qL1002, qL2505, qL3006, qL999999, qL1000000]
