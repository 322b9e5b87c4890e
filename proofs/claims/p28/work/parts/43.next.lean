
/-! ===== pure rows: the next serial in a book; the serials in their order ===== -/
/-- the lowest serial from n on among the first k cells; a million if there is none -/
def mn (F Z : NF) (n : Nat) : Nat → Nat
  | 0 => 1000000
  | k + 1 => if k % 40 < Z (k / 40) ∧ n ≤ F (k / 40) + k % 40 ∧ F (k / 40) + k % 40 < mn F Z n k then F (k / 40) + k % 40 else mn F Z n k
theorem mn_le (F Z : NF) (n : Nat) : ∀ k, mn F Z n k ≤ 1000000
  | 0 => Nat.le_refl _
  | k + 1 => by
    have := mn_le F Z n k
    rw [mn]
    split <;> omega
theorem mn_low {F Z : NF} {n : Nat} : ∀ {k c : Nat}, c < k → c % 40 < Z (c / 40) → n ≤ F (c / 40) + c % 40 → mn F Z n k ≤ F (c / 40) + c % 40
  | 0, c, h, _, _ => absurd h (Nat.not_lt_zero c)
  | k + 1, c, h, h1, h2 => by
    rw [mn]
    by_cases e : c = k
    · subst e
      split
      · exact Nat.le_refl _
      · next q => exact Nat.le_of_not_lt fun z => q ⟨h1, h2, z⟩
    · have := mn_low (F := F) (Z := Z) (n := n) (show c < k by omega) h1 h2
      split <;> omega
theorem mn_is {F Z : NF} {n : Nat} : ∀ {k : Nat}, mn F Z n k < 1000000 → ∃ c, c < k ∧ c % 40 < Z (c / 40) ∧ n ≤ mn F Z n k ∧ F (c / 40) + c % 40 = mn F Z n k
  | 0, h => absurd h (Nat.lt_irrefl _)
  | k + 1, h => by
    rw [mn] at h ⊢
    by_cases q : k % 40 < Z (k / 40) ∧ n ≤ F (k / 40) + k % 40 ∧ F (k / 40) + k % 40 < mn F Z n k
    · rw [if_pos q]
      exact ⟨k, by omega, q.1, q.2.1, rfl⟩
    · rw [if_neg q] at h ⊢
      obtain ⟨c, h1, h2⟩ := mn_is (F := F) (Z := Z) (n := n) h
      exact ⟨c, by omega, h2⟩
/-- the next serial from n on -/
def nx (h : Nat) (F Z : NF) (n : Nat) : Nat := mn F Z n (40 * h)
theorem nx_low {h : Nat} {F Z : NF} (hB : wB_ h F Z) {n s : Nat} (hs : inS F Z s h = true) (hn : n ≤ s) : nx h F Z n ≤ s := by
  obtain ⟨b, hb⟩ := inS_iff.mp hs
  obtain ⟨c1, c2, c3, c4⟩ := inB_cell hB hb
  have hh := hB.1
  obtain ⟨-, h1, h2⟩ := hb
  have := mn_low (F := F) (Z := Z) (n := n) (k := 40 * h) (c := 40 * b + (s - F b)) (by omega)
  rw [show (40 * b + (s - F b)) / 40 = b by omega, show (40 * b + (s - F b)) % 40 = s - F b by omega, show F b + (s - F b) = s by omega] at this
  exact this c2 hn
theorem nx_is {h : Nat} {F Z : NF} {n : Nat} (hx : nx h F Z n < 1000000) : n ≤ nx h F Z n ∧ inS F Z (nx h F Z n) h = true := by
  obtain ⟨c, h1, h2, h3, h4⟩ := mn_is hx
  refine ⟨h3, inS_iff.mpr ⟨c / 40, by omega, ?_, ?_⟩⟩
  · unfold nx; omega
  · unfold nx; omega
theorem nx_le (h : Nat) (F Z : NF) (n : Nat) : nx h F Z n ≤ 1000000 := mn_le F Z n _
theorem nx_gap {h : Nat} {F Z : NF} (hB : wB_ h F Z) {n s : Nat} (h1 : n ≤ s) (h2 : s < nx h F Z n) : inS F Z s h = false := by
  cases hp : inS F Z s h
  · rfl
  · have := nx_low hB hp h1; omega
/-- a serial, none for a million -/
def eI (v : Nat) : Int32 := if v = 1000000 then -nI 1 else nI v
theorem eI_n : eI 1000000 = -nI 1 := rfl
theorem eI_s {v : Nat} (h : v < 1000000) : eI v = nI v := if_neg (by omega)
theorem s6_next {h : Nat} {F Z : NF} {g : Nat → Int32} (hB : wB_ h F Z) (mB : mB_ h F Z g) {n : Nat} {x : Int32} (hx : (n = 0 ∧ x = -nI 1) ∨ (1 ≤ n ∧ n ≤ 1000000 ∧ x = nI (n - 1))) : f6_next g x = some (eI (nx h F Z n)) := by
  have hh := hB.1
  have h0 : g (0 : Int32).toNatClampNeg = nI h := mB.1
  have hcmp : ∀ v, v < 1000000 → (nI v ≤ x ↔ ¬ n ≤ v) := fun v hv => by
    rcases hx with ⟨rfl, rfl⟩ | ⟨h1, h2, rfl⟩
    · rw [Int32.le_iff_toInt_le, nI_toInt (by omega), show (-nI 1 : Int32).toInt = -1 from rfl]
      omega
    · rw [nI_leI (by omega) (by omega)]
      omega
  obtain ⟨t, ht⟩ := traj0 (fun c t => f6_next_l4 g x t (eI (mn F Z n c)) (nI c)) (40 * h) (by omega) (fun c t hc => by
    have h1 := s6_isCheque hB mB hc
    have h2 := s6_serialAt hB mB hc
    have h3 := hB.2.1 (c / 40) (by omega)
    have h4 := mn_le F Z n c
    have e1 : (40 : Int32) * nI h = nI (40 * h) := by rw [qL40, pk_mul]
    rw [f6_next_l4, mn, h0, e1, if_neg (nI_ge hc (by omega)), h1, bd1_s]
    by_cases c1 : c % 40 < Z (c / 40)
    · have h5 : F (c / 40) + c % 40 < 1000000 := by omega
      have h6 := hcmp _ h5
      rw [if_pos c1, h2]
      generalize F (c / 40) + c % 40 = v at h2 h5 h6 ⊢
      by_cases c2 : n ≤ v
      · have h7 : ¬ nI v ≤ x := fun q => h6.mp q c2
        by_cases c3 : v < mn F Z n c
        · rw [if_pos (⟨c1, c2, c3⟩ : _ ∧ _ ∧ _), eI_s h5]
          by_cases c4 : mn F Z n c = 1000000
          · rw [c4, eI_n]
            rw [if_neg (by decide), bd1_s, if_neg h7]
            simp (disch := omega) only [q_inb, q_isZ0, q_isZ1, q_leT, q_leF, q_ltT, q_ltF, q_eqT, q_eqF, nI_leI, nI_ltI, nI_eq, nI_add, pk_mul, q_sub, pk_sub, q_mod, pk_div, nI_clamp, q_not, q_m1, q_z1, q_n1lt, Nat.add_zero, Nat.zero_add, q_nT, q_nF, ↓reduceIte, bd0_s, bd1_s, bd2_s, bd3_s, bd4_s, bd5_s, bd6_s, bd7_s, bd8_s, bd9_s, lt_s_, qL0, qL1, qL2, qL3, qL4, qL5, qL6, qL7, qL8, qL9, qL10, qL11, qL12, qL13, qL14, qL15, qL16, qL17, qL21, qL25, qL26, qL31, qL33, qL40, qL43, qL45, qL48, qL49, qL57, qL58, qL59, qL60, qL61, qL65, qL90, qL97, qL98, qL99, qL118, qL119, qL126, qL240, qL261, qL501, qL999, qL1000, qL1002, qL2505, qL3006, qL999999, qL1000000, f6_next_j39, f6_next_j60, f6_next_j68, h2]
          · rw [eI_s (show mn F Z n c < 1000000 by omega)]
            rw [if_neg (by decide), bd1_s, if_neg h7]
            simp (disch := omega) only [q_inb, q_isZ0, q_isZ1, q_leT, q_leF, q_ltT, q_ltF, q_eqT, q_eqF, nI_leI, nI_ltI, nI_eq, nI_add, pk_mul, q_sub, pk_sub, q_mod, pk_div, nI_clamp, q_not, q_m1, q_z1, q_n1lt, Nat.add_zero, Nat.zero_add, q_nT, q_nF, ↓reduceIte, bd0_s, bd1_s, bd2_s, bd3_s, bd4_s, bd5_s, bd6_s, bd7_s, bd8_s, bd9_s, lt_s_, qL0, qL1, qL2, qL3, qL4, qL5, qL6, qL7, qL8, qL9, qL10, qL11, qL12, qL13, qL14, qL15, qL16, qL17, qL21, qL25, qL26, qL31, qL33, qL40, qL43, qL45, qL48, qL49, qL57, qL58, qL59, qL60, qL61, qL65, qL90, qL97, qL98, qL99, qL118, qL119, qL126, qL240, qL261, qL501, qL999, qL1000, qL1002, qL2505, qL3006, qL999999, qL1000000, f6_next_j39, f6_next_j60, f6_next_j68, h2]
        · rw [if_neg (fun q : _ ∧ _ ∧ _ => c3 q.2.2), eI_s (show mn F Z n c < 1000000 by omega)]
          rw [if_neg (by decide), bd1_s, if_neg h7]
          simp (disch := omega) only [q_inb, q_isZ0, q_isZ1, q_leT, q_leF, q_ltT, q_ltF, q_eqT, q_eqF, nI_leI, nI_ltI, nI_eq, nI_add, pk_mul, q_sub, pk_sub, q_mod, pk_div, nI_clamp, q_not, q_m1, q_z1, q_n1lt, Nat.add_zero, Nat.zero_add, q_nT, q_nF, ↓reduceIte, bd0_s, bd1_s, bd2_s, bd3_s, bd4_s, bd5_s, bd6_s, bd7_s, bd8_s, bd9_s, lt_s_, qL0, qL1, qL2, qL3, qL4, qL5, qL6, qL7, qL8, qL9, qL10, qL11, qL12, qL13, qL14, qL15, qL16, qL17, qL21, qL25, qL26, qL31, qL33, qL40, qL43, qL45, qL48, qL49, qL57, qL58, qL59, qL60, qL61, qL65, qL90, qL97, qL98, qL99, qL118, qL119, qL126, qL240, qL261, qL501, qL999, qL1000, qL1002, qL2505, qL3006, qL999999, qL1000000, f6_next_j39, f6_next_j60, f6_next_j68, h2]
      · have h7 : nI v ≤ x := h6.mpr c2
        rw [if_neg (fun q : _ ∧ _ ∧ _ => c2 q.2.1), if_neg (by decide), bd1_s, if_pos h7]
        simp (disch := omega) only [q_inb, q_isZ0, q_isZ1, q_leT, q_leF, q_ltT, q_ltF, q_eqT, q_eqF, nI_leI, nI_ltI, nI_eq, nI_add, pk_mul, q_sub, pk_sub, q_mod, pk_div, nI_clamp, q_not, q_m1, q_z1, q_n1lt, Nat.add_zero, Nat.zero_add, q_nT, q_nF, ↓reduceIte, bd0_s, bd1_s, bd2_s, bd3_s, bd4_s, bd5_s, bd6_s, bd7_s, bd8_s, bd9_s, lt_s_, qL0, qL1, qL2, qL3, qL4, qL5, qL6, qL7, qL8, qL9, qL10, qL11, qL12, qL13, qL14, qL15, qL16, qL17, qL21, qL25, qL26, qL31, qL33, qL40, qL43, qL45, qL48, qL49, qL57, qL58, qL59, qL60, qL61, qL65, qL90, qL97, qL98, qL99, qL118, qL119, qL126, qL240, qL261, qL501, qL999, qL1000, qL1002, qL2505, qL3006, qL999999, qL1000000, f6_next_j38, f6_next_j39, f6_next_j60, f6_next_j68]
    · rw [if_neg c1, if_neg (fun q : _ ∧ _ ∧ _ => c1 q.1), if_pos (show nI 0 = 0 from rfl)]
      simp (disch := omega) only [q_inb, q_isZ0, q_isZ1, q_leT, q_leF, q_ltT, q_ltF, q_eqT, q_eqF, nI_leI, nI_ltI, nI_eq, nI_add, pk_mul, q_sub, pk_sub, q_mod, pk_div, nI_clamp, q_not, q_m1, q_z1, q_n1lt, Nat.add_zero, Nat.zero_add, q_nT, q_nF, ↓reduceIte, bd0_s, bd1_s, bd2_s, bd3_s, bd4_s, bd5_s, bd6_s, bd7_s, bd8_s, bd9_s, lt_s_, qL0, qL1, qL2, qL3, qL4, qL5, qL6, qL7, qL8, qL9, qL10, qL11, qL12, qL13, qL14, qL15, qL16, qL17, qL21, qL25, qL26, qL31, qL33, qL40, qL43, qL45, qL48, qL49, qL57, qL58, qL59, qL60, qL61, qL65, qL90, qL97, qL98, qL99, qL118, qL119, qL126, qL240, qL261, qL501, qL999, qL1000, qL1002, qL2505, qL3006, qL999999, qL1000000, f6_next_j38, f6_next_j39, f6_next_j60, f6_next_j68])
  unfold f6_next
  have e0 : (-1 : Int32) = eI (mn F Z n 0) := rfl
  rw [e0]
  refine Eq.trans ht ?_
  have e1 : (40 : Int32) * nI h = nI (40 * h) := by rw [qL40, pk_mul]
  rw [f6_next_l4, h0, e1, if_pos (nI_le (Nat.le_refl _) (by omega))]
  rfl
/-- the serials in books, in their order; a million behind the last -/
def us (h : Nat) (F Z : NF) : Nat → Nat
  | 0 => nx h F Z 0
  | i + 1 => if us h F Z i = 1000000 then 1000000 else nx h F Z (us h F Z i + 1)
theorem us_le (h : Nat) (F Z : NF) : ∀ i, us h F Z i ≤ 1000000
  | 0 => nx_le h F Z 0
  | i + 1 => by
    rw [us]
    split
    · exact Nat.le_refl _
    · exact nx_le h F Z _
theorem us_is {h : Nat} {F Z : NF} : ∀ {i : Nat}, us h F Z i < 1000000 → inS F Z (us h F Z i) h = true
  | 0, hx => (nx_is hx).2
  | i + 1, hx => by
    rw [us] at hx ⊢
    by_cases q : us h F Z i = 1000000
    · rw [if_pos q] at hx; omega
    · rw [if_neg q] at hx ⊢
      exact (nx_is hx).2
theorem us_one {h : Nat} {F Z : NF} {i : Nat} (hx : us h F Z i < 1000000) : us h F Z (i + 1) = nx h F Z (us h F Z i + 1) := by
  rw [us, if_neg (by omega)]
/-- what is counted among serials in books doesn't grow between one and the next -/
theorem us_ct {h : Nat} {F Z : NF} (hB : wB_ h F Z) {P : Nat → Bool} (hP : ∀ s, P s = true → inS F Z s h = true) {i : Nat} (hx : us h F Z i < 1000000) : fb_ct P (us h F Z (i + 1)) = fb_ct P (us h F Z i) + (if P (us h F Z i) then 1 else 0) := by
  rw [us_one hx, ← fb_ct_succ]
  have h1 : us h F Z i + 1 ≤ nx h F Z (us h F Z i + 1) := by
    rcases Nat.lt_or_ge (nx h F Z (us h F Z i + 1)) 1000000 with q | q
    · exact (nx_is q).1
    · omega
  refine ct_gap h1 fun s h2 h3 => ?_
  cases hp : P s
  · rfl
  · have := nx_gap hB h2 h3
    rw [hP s hp] at this
    cases this
theorem us_ct0 {h : Nat} {F Z : NF} (hB : wB_ h F Z) {P : Nat → Bool} (hP : ∀ s, P s = true → inS F Z s h = true) : fb_ct P (us h F Z 0) = 0 := fb_ct_zero.mpr fun s hs => by
  cases hp : P s
  · rfl
  · have := nx_gap hB (Nat.zero_le s) hs
    rw [hP s hp] at this
    cases this
theorem us_rk {h : Nat} {F Z : NF} (hB : wB_ h F Z) : ∀ i, us h F Z i < 1000000 → rk h F Z (us h F Z i) = i
  | 0, _ => us_ct0 hB fun _ q => q
  | i + 1, hx => by
    have h1 : us h F Z i < 1000000 := by
      have := us_le h F Z i
      by_cases q : us h F Z i = 1000000
      · rw [us, if_pos q] at hx; omega
      · omega
    have h2 := us_ct hB (P := fun x => inS F Z x h) (fun _ q => q) h1
    rw [us_is h1] at h2
    have h3 := us_rk hB i h1
    unfold rk at h3 ⊢
    rw [h2, h3]
    rfl
theorem us_end {h : Nat} {F Z : NF} (hB : wB_ h F Z) : us h F Z 240 = 1000000 := by
  refine Decidable.byContradiction fun q => ?_
  have h1 := us_le h F Z 240
  have h2 := us_rk hB 240 (by omega)
  have h3 := us_is (h := h) (F := F) (Z := Z) (i := 240) (by omega)
  have h4 := rk_240 hB (us h F Z 240 + 1) (by omega)
  unfold rk at h2 h4
  rw [fb_ct_succ, h3, h2] at h4
  simp at h4
theorem us_up {h : Nat} {F Z : NF} {i : Nat} (hi : us h F Z i = 1000000) : ∀ {j : Nat}, i ≤ j → us h F Z j = 1000000
  | 0, hj => by rw [show 0 = i by omega]; exact hi
  | j + 1, hj => by
    by_cases e : i = j + 1
    · subst e; exact hi
    · rw [us, if_pos (us_up hi (show i ≤ j by omega))]
theorem us_tot {h : Nat} {F Z : NF} (hB : wB_ h F Z) {i : Nat} (hi : us h F Z i = 1000000) : rk h F Z 1000000 ≤ i := by
  refine Nat.le_of_not_lt fun q => ?_
  obtain ⟨s, h1, h2, h3⟩ := fb_ct_kth q
  have hex : ∃ j, j < i + 1 ∧ us h F Z j = 1000000 := ⟨i, by omega, hi⟩
  obtain ⟨j, j1, j2, j3⟩ := fb_first hex
  have h4 : rk h F Z 1000000 = j := by
    rw [← j2]
    cases j with
    | zero => exact us_ct0 hB fun _ q => q
    | succ j =>
      have k1 : us h F Z j < 1000000 := by
        have := us_le h F Z j
        have := j3 j (by omega)
        omega
      have k2 := us_ct hB (P := fun x => inS F Z x h) (fun _ q => q) k1
      rw [us_is k1] at k2
      have k3 := us_rk hB j k1
      unfold rk at k3 ⊢
      rw [k2, k3]
      rfl
  omega
theorem s6_next_us {h : Nat} {F Z : NF} {g : Nat → Int32} (hB : wB_ h F Z) (mB : mB_ h F Z g) {i : Nat} (hx : us h F Z i < 1000000) : f6_next g (nI (us h F Z i)) = some (eI (us h F Z (i + 1))) := by
  rw [us_one hx]
  exact s6_next hB mB (n := us h F Z i + 1) (Or.inr ⟨by omega, by omega, by rw [Nat.add_sub_cancel]⟩)
theorem s6_ranked {h : Nat} {F Z : NF} {g : Nat → Int32} {mt : Int32} (hB : wB_ h F Z) (mB : mB_ h F Z g) {k : Nat} (hk : k < 2 ^ 31) : f6_ranked mt g (nI k) = some (eI (us h F Z (if k < 240 then k else 240)), 0) := by
  have h1 : f6_next g (-1) = some (eI (us h F Z 0)) := s6_next hB mB (n := 0) (Or.inl ⟨rfl, rfl⟩)
  unfold f6_ranked
  rw [if_pos (nI_pos' hk), h1, bd1_s]
  -- where the walk stops
  have hex : ∃ j, j < 241 ∧ (k ≤ j ∨ us h F Z j = 1000000) := ⟨240, by decide, Or.inr (us_end hB)⟩
  obtain ⟨j, j1, j2, j3⟩ := fb_first hex
  have j4 : ∀ i, i < j → i < k ∧ us h F Z i < 1000000 := fun i hi => by
    have := j3 i hi
    have := us_le h F Z i
    omega
  obtain ⟨t, ht⟩ := traj0 (fun i t => f6_ranked_l23 g (nI k) t (eI (us h F Z i)) (nI i) 0) j (by omega) (fun i t hi => by
    obtain ⟨k1, k2⟩ := j4 i hi
    have k3 := s6_next_us hB mB k2
    rw [f6_ranked_l23, if_neg (nI_ge k1 hk), eI_s k2]
    rw [if_neg (by rw [qL1, q_not (by omega)]; exact id), k3, bd1_s, nI_1])
  refine Eq.trans ht ?_
  have e : us h F Z j = us h F Z (if k < 240 then k else 240) := by
    rcases j2 with q | q
    · have : j = k := by
        by_cases z : j = 0
        · omega
        · have := (j4 (j - 1) (by omega)).1; omega
      subst this
      by_cases z : j < 240
      · rw [if_pos z]
      · rw [if_neg z, show j = 240 by omega]
    · have h5 : j ≤ k := by
        by_cases z : j = 0
        · omega
        · have := (j4 (j - 1) (by omega)).1; omega
      rw [q]
      split
      · exact (us_up q h5).symm
      · exact (us_end hB).symm
  rw [f6_ranked_l23, e]
  by_cases z : k ≤ j
  · rw [if_pos (nI_le z (by omega))]
  · have q := j2.resolve_left z
    rw [if_neg (nI_ge (by omega) hk), ← e, q, eI_n, if_pos (show -nI 1 = (-1 : Int32) from rfl)]
theorem op_ranked {h : Nat} {F Z : NF} {bh : Int32} {bF bZ g : Nat → Int32} {mt : Int32} (hB : wB_ h F Z) (cB : cB_ h F Z bh bF bZ) (mB : mB_ h F Z g) {k : Nat} (hk : k < 2 ^ 31) : ∃ r, f0_serialOfRank bh bF bZ (nI k) = some r ∧ f6_ranked mt g (nI k) = some (r, 0) := by
  refine ⟨_, ?_, s6_ranked hB mB hk⟩
  by_cases q : us h F Z (if k < 240 then k else 240) = 1000000
  · have h1 := us_tot hB q
    rw [q]
    exact s0_serialOfRank_f hB cB hk (by split at h1 <;> omega)
  · have h0 := us_le h F Z (if k < 240 then k else 240)
    have h2 : us h F Z (if k < 240 then k else 240) < 1000000 := by omega
    have h4 : k < 240 := by
      refine Decidable.byContradiction fun z => ?_
      rw [if_neg z, us_end hB] at q
      exact q rfl
    rw [if_pos h4] at h2 ⊢
    have h3 := us_rk hB _ h2
    obtain ⟨b, hb⟩ := inS_iff.mp (us_is h2)
    have h5 := s0_serialOfRank_t hB cB hb
    rw [h3] at h5
    rw [h5, eI_s h2]
