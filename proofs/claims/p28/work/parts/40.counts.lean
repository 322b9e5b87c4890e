
/-! ===== pure rows: cheques and amounts counted, the first blank one, a run of one kind ===== -/
def qk (Z K : NF) (k c : Nat) : Nat := if c % 40 < Z (c / 40) ∧ K c = k then 1 else 0
def qm (Z K M : NF) (k c : Nat) : Nat := if c % 40 < Z (c / 40) ∧ K c = k then M c else 0
/-- a sum over a book, over all books -/
def bs (q : Nat → Nat) (b : Nat) : Nat := fb_sm (fun j => q (40 * b + j)) 40
theorem bs_all (q : Nat → Nat) (n : Nat) : fb_sm q (40 * n) = fb_sm (bs q) n := by
  rw [Nat.mul_comm]
  refine Eq.trans ?_ (fb_sm_grid (fun p j => q (40 * p + j)) 40 (by decide) n)
  exact fb_sm_cong fun c _ => by
    show q c = q (40 * (c / 40) + c % 40)
    rw [show 40 * (c / 40) + c % 40 = c by omega]
theorem fb_sm_cut {f : Nat → Nat} {n m : Nat} (hnm : n ≤ m) (h : ∀ k, n ≤ k → k < m → f k = 0) : fb_sm f m = fb_sm f n := by
  obtain ⟨d, rfl⟩ : ∃ d, m = n + d := ⟨m - n, by omega⟩
  rw [fb_sm_split, fb_sm_none (fun k hk => h (n + k) (by omega) (by omega)), Nat.add_zero]
theorem fb_sm_up {f : Nat → Nat} {n m : Nat} (hnm : n ≤ m) : fb_sm f n ≤ fb_sm f m := by
  have := fb_sm_mono f n (m - n)
  rwa [show n + (m - n) = m by omega] at this
theorem qk_le (Z K : NF) (k c : Nat) : qk Z K k c ≤ 1 := by unfold qk; split <;> omega
theorem qm_le {h : Nat} {F Z K M : NF} (hB : wB_ h F Z) (hK : wK_ h Z K M) (k : Nat) {c : Nat} (hc : c < 40 * h) : qm Z K M k c ≤ 999 := by
  unfold qm
  split
  · next q =>
    have := (hK (c / 40) (c % 40) (by omega) q.1).2.1
    rwa [show 40 * (c / 40) + c % 40 = c by omega] at this
  · omega
theorem bs_le {q : Nat → Nat} {v b : Nat} (h : ∀ j, j < 40 → q (40 * b + j) ≤ v) : bs q b ≤ 40 * v := fb_sm_bound h
theorem qk_in {Z K : NF} {k b j : Nat} (hj : j < 40) : qk Z K k (40 * b + j) = if j < Z b ∧ K (40 * b + j) = k then 1 else 0 := by
  unfold qk
  rw [show (40 * b + j) / 40 = b by omega, show (40 * b + j) % 40 = j by omega]
theorem qm_in {Z K M : NF} {k b j : Nat} (hj : j < 40) : qm Z K M k (40 * b + j) = if j < Z b ∧ K (40 * b + j) = k then M (40 * b + j) else 0 := by
  unfold qm
  rw [show (40 * b + j) / 40 = b by omega, show (40 * b + j) % 40 = j by omega]
theorem s0_chequesOf {h : Nat} {F Z K M : NF} {bh : Int32} {bF bZ bK bM : Nat → Int32} (hB : wB_ h F Z) (hK : wK_ h Z K M) (cB : cB_ h F Z bh bF bZ) (cK : cK_ h Z K M bK bM) {b k : Nat} (hb : b < h) (hk : k ≤ 3) : f0_chequesOf bZ bK (nI b) (nI k) = some (nI (bs (qk Z K k) b)) := by
  have hh := hB.1
  have h1 := hB.2.1 b hb
  have h2 := s0_sizeOf hB cB hb
  have e1 : bs (qk Z K k) b = fb_sm (fun j => qk Z K k (40 * b + j)) (Z b) := fb_sm_cut h1.2.1 fun j q1 q2 => by
    rw [qk_in q2, if_neg (by omega)]
  obtain ⟨t, ht⟩ := traj0 (fun j t => f0_chequesOf_l12 bZ bK (nI b) (nI k) (nI (Z b)) t (nI (fb_sm (fun j => qk Z K k (40 * b + j)) j)) (nI j)) (Z b) (by omega) (fun j t hj => by
    have h3 := s0_kindAt hB cK hb hj
    have h4 := (hK b j hb hj).1
    have h5 : fb_sm (fun j => qk Z K k (40 * b + j)) j ≤ j * 1 := fb_sm_bound fun c _ => qk_le Z K k _
    rw [f0_chequesOf_l12, fb_sm_succ]
    have e2 : nI b * (40 : Int32) + nI j = nI (40 * b + j) := by rw [qL40, pk_mul, nI_add, Nat.mul_comm]
    rw [if_neg (nI_ge hj (by omega)), e2, h3, bd1_s, qk_in (show j < 40 by omega)]
    by_cases e : K (40 * b + j) = k
    · rw [if_pos (⟨hj, e⟩ : _ ∧ _)]
      simp (disch := omega) only [q_inb, q_isZ0, q_isZ1, q_leT, q_leF, q_ltT, q_ltF, q_eqT, q_eqF, nI_leI, nI_ltI, nI_eq, nI_add, pk_mul, q_sub, pk_sub, q_mod, pk_div, nI_clamp, q_not, q_m1, q_z1, q_n1lt, Nat.add_zero, Nat.zero_add, q_nT, q_nF, ↓reduceIte, bd0_s, bd1_s, bd2_s, bd3_s, bd4_s, bd5_s, bd6_s, bd7_s, bd8_s, bd9_s, lt_s_, qL0, qL1, qL2, qL3, qL4, qL5, qL6, qL7, qL8, qL9, qL10, qL11, qL12, qL13, qL14, qL15, qL16, qL17, qL21, qL25, qL26, qL31, qL33, qL40, qL43, qL45, qL48, qL49, qL57, qL58, qL59, qL60, qL61, qL65, qL90, qL97, qL98, qL99, qL118, qL119, qL126, qL240, qL261, qL501, qL999, qL1000, qL1002, qL2505, qL3006, qL999999, qL1000000]
    · rw [if_neg (fun q : _ ∧ _ => e q.2)]
      simp (disch := omega) only [q_inb, q_isZ0, q_isZ1, q_leT, q_leF, q_ltT, q_ltF, q_eqT, q_eqF, nI_leI, nI_ltI, nI_eq, nI_add, pk_mul, q_sub, pk_sub, q_mod, pk_div, nI_clamp, q_not, q_m1, q_z1, q_n1lt, Nat.add_zero, Nat.zero_add, q_nT, q_nF, ↓reduceIte, bd0_s, bd1_s, bd2_s, bd3_s, bd4_s, bd5_s, bd6_s, bd7_s, bd8_s, bd9_s, lt_s_, qL0, qL1, qL2, qL3, qL4, qL5, qL6, qL7, qL8, qL9, qL10, qL11, qL12, qL13, qL14, qL15, qL16, qL17, qL21, qL25, qL26, qL31, qL33, qL40, qL43, qL45, qL48, qL49, qL57, qL58, qL59, qL60, qL61, qL65, qL90, qL97, qL98, qL99, qL118, qL119, qL126, qL240, qL261, qL501, qL999, qL1000, qL1002, qL2505, qL3006, qL999999, qL1000000])
  unfold f0_chequesOf
  rw [h2, bd1_s, e1]
  refine Eq.trans ht ?_
  rw [f0_chequesOf_l12]
  simp (disch := omega) only [q_inb, q_isZ0, q_isZ1, q_leT, q_leF, q_ltT, q_ltF, q_eqT, q_eqF, nI_leI, nI_ltI, nI_eq, nI_add, pk_mul, q_sub, pk_sub, q_mod, pk_div, nI_clamp, q_not, q_m1, q_z1, q_n1lt, Nat.add_zero, Nat.zero_add, q_nT, q_nF, ↓reduceIte, bd0_s, bd1_s, bd2_s, bd3_s, bd4_s, bd5_s, bd6_s, bd7_s, bd8_s, bd9_s, lt_s_, qL0, qL1, qL2, qL3, qL4, qL5, qL6, qL7, qL8, qL9, qL10, qL11, qL12, qL13, qL14, qL15, qL16, qL17, qL21, qL25, qL26, qL31, qL33, qL40, qL43, qL45, qL48, qL49, qL57, qL58, qL59, qL60, qL61, qL65, qL90, qL97, qL98, qL99, qL118, qL119, qL126, qL240, qL261, qL501, qL999, qL1000, qL1002, qL2505, qL3006, qL999999, qL1000000]
theorem s0_amountsOf {h : Nat} {F Z K M : NF} {bh : Int32} {bF bZ bK bM : Nat → Int32} (hB : wB_ h F Z) (hK : wK_ h Z K M) (cB : cB_ h F Z bh bF bZ) (cK : cK_ h Z K M bK bM) {b k : Nat} (hb : b < h) (hk : k ≤ 3) : f0_amountsOf bZ bK bM (nI b) (nI k) = some (nI (bs (qm Z K M k) b)) := by
  have hh := hB.1
  have h1 := hB.2.1 b hb
  have h2 := s0_sizeOf hB cB hb
  have e1 : bs (qm Z K M k) b = fb_sm (fun j => qm Z K M k (40 * b + j)) (Z b) := fb_sm_cut h1.2.1 fun j q1 q2 => by
    rw [qm_in q2, if_neg (by omega)]
  obtain ⟨t, ht⟩ := traj0 (fun j t => f0_amountsOf_l12 bZ bK bM (nI b) (nI k) (nI (Z b)) t (nI (fb_sm (fun j => qm Z K M k (40 * b + j)) j)) (nI j)) (Z b) (by omega) (fun j t hj => by
    have h3 := s0_kindAt hB cK hb hj
    have h6 := s0_amountAt hB cK hb hj
    have h4 := (hK b j hb hj).1
    rw [f0_amountsOf_l12, fb_sm_succ]
    have e2 : nI b * (40 : Int32) + nI j = nI (40 * b + j) := by rw [qL40, pk_mul, nI_add, Nat.mul_comm]
    rw [if_neg (nI_ge hj (by omega)), e2, h3, bd1_s, qm_in (show j < 40 by omega)]
    by_cases e : K (40 * b + j) = k
    · rw [if_pos (⟨hj, e⟩ : _ ∧ _)]
      simp (disch := omega) only [q_inb, q_isZ0, q_isZ1, q_leT, q_leF, q_ltT, q_ltF, q_eqT, q_eqF, nI_leI, nI_ltI, nI_eq, nI_add, pk_mul, q_sub, pk_sub, q_mod, pk_div, nI_clamp, q_not, q_m1, q_z1, q_n1lt, Nat.add_zero, Nat.zero_add, q_nT, q_nF, ↓reduceIte, bd0_s, bd1_s, bd2_s, bd3_s, bd4_s, bd5_s, bd6_s, bd7_s, bd8_s, bd9_s, lt_s_, qL0, qL1, qL2, qL3, qL4, qL5, qL6, qL7, qL8, qL9, qL10, qL11, qL12, qL13, qL14, qL15, qL16, qL17, qL21, qL25, qL26, qL31, qL33, qL40, qL43, qL45, qL48, qL49, qL57, qL58, qL59, qL60, qL61, qL65, qL90, qL97, qL98, qL99, qL118, qL119, qL126, qL240, qL261, qL501, qL999, qL1000, qL1002, qL2505, qL3006, qL999999, qL1000000, h6]
    · rw [if_neg (fun q : _ ∧ _ => e q.2)]
      simp (disch := omega) only [q_inb, q_isZ0, q_isZ1, q_leT, q_leF, q_ltT, q_ltF, q_eqT, q_eqF, nI_leI, nI_ltI, nI_eq, nI_add, pk_mul, q_sub, pk_sub, q_mod, pk_div, nI_clamp, q_not, q_m1, q_z1, q_n1lt, Nat.add_zero, Nat.zero_add, q_nT, q_nF, ↓reduceIte, bd0_s, bd1_s, bd2_s, bd3_s, bd4_s, bd5_s, bd6_s, bd7_s, bd8_s, bd9_s, lt_s_, qL0, qL1, qL2, qL3, qL4, qL5, qL6, qL7, qL8, qL9, qL10, qL11, qL12, qL13, qL14, qL15, qL16, qL17, qL21, qL25, qL26, qL31, qL33, qL40, qL43, qL45, qL48, qL49, qL57, qL58, qL59, qL60, qL61, qL65, qL90, qL97, qL98, qL99, qL118, qL119, qL126, qL240, qL261, qL501, qL999, qL1000, qL1002, qL2505, qL3006, qL999999, qL1000000])
  unfold f0_amountsOf
  rw [h2, bd1_s, e1]
  refine Eq.trans ht ?_
  rw [f0_amountsOf_l12]
  simp (disch := omega) only [q_inb, q_isZ0, q_isZ1, q_leT, q_leF, q_ltT, q_ltF, q_eqT, q_eqF, nI_leI, nI_ltI, nI_eq, nI_add, pk_mul, q_sub, pk_sub, q_mod, pk_div, nI_clamp, q_not, q_m1, q_z1, q_n1lt, Nat.add_zero, Nat.zero_add, q_nT, q_nF, ↓reduceIte, bd0_s, bd1_s, bd2_s, bd3_s, bd4_s, bd5_s, bd6_s, bd7_s, bd8_s, bd9_s, lt_s_, qL0, qL1, qL2, qL3, qL4, qL5, qL6, qL7, qL8, qL9, qL10, qL11, qL12, qL13, qL14, qL15, qL16, qL17, qL21, qL25, qL26, qL31, qL33, qL40, qL43, qL45, qL48, qL49, qL57, qL58, qL59, qL60, qL61, qL65, qL90, qL97, qL98, qL99, qL118, qL119, qL126, qL240, qL261, qL501, qL999, qL1000, qL1002, qL2505, qL3006, qL999999, qL1000000]
theorem mK_at {h : Nat} {Z K M : NF} {g : Nat → Int32} (H : mK_ h Z K M g) {c : Nat} (hc : c < 40 * h) (h2 : c % 40 < Z (c / 40)) : g (21 + c) = nI (K c) ∧ g (261 + c) = nI (M c) := by
  have := H (c / 40) (c % 40) (by omega) h2
  rwa [show 40 * (c / 40) + c % 40 = c by omega] at this
theorem wK_at {h : Nat} {Z K M : NF} (H : wK_ h Z K M) {c : Nat} (hc : c < 40 * h) (h2 : c % 40 < Z (c / 40)) : K c ≤ 3 ∧ M c ≤ 999 := by
  have := H (c / 40) (c % 40) (by omega) h2
  rw [show 40 * (c / 40) + c % 40 = c by omega] at this
  exact ⟨this.1, this.2.1⟩
theorem s6_ofKind {h : Nat} {F Z K M : NF} {g : Nat → Int32} (hB : wB_ h F Z) (hK : wK_ h Z K M) (mB : mB_ h F Z g) (mK : mK_ h Z K M g) {a n k : Nat} (han : a + n ≤ 40 * h) (hk : k ≤ 3) : f6_ofKind g (nI a) (nI (a + n)) (nI k) = some (nI (fb_sm (fun i => qk Z K k (a + i)) n)) := by
  have hh := hB.1
  obtain ⟨t, ht⟩ := traj0 (fun i t => f6_ofKind_l6 g (nI (a + n)) (nI k) t (nI (fb_sm (fun i => qk Z K k (a + i)) i)) (nI (a + i))) n (by omega) (fun i t hi => by
    have h1 := s6_isCheque hB mB (show a + i < 40 * h by omega)
    have h5 : fb_sm (fun i => qk Z K k (a + i)) i ≤ i * 1 := fb_sm_bound fun c _ => qk_le Z K k _
    rw [f6_ofKind_l6, fb_sm_succ, if_neg (nI_ge (by omega) (by omega)), h1, bd1_s]
    unfold qk
    by_cases c1 : (a + i) % 40 < Z ((a + i) / 40)
    · have h2 := (mK_at mK (show a + i < 40 * h by omega) c1).1
      have h3 := (wK_at hK (show a + i < 40 * h by omega) c1).1
      rw [if_pos c1]
      by_cases c2 : K (a + i) = k
      · rw [if_pos (⟨c1, c2⟩ : _ ∧ _)]
        simp (disch := omega) only [q_inb, q_isZ0, q_isZ1, q_leT, q_leF, q_ltT, q_ltF, q_eqT, q_eqF, nI_leI, nI_ltI, nI_eq, nI_add, pk_mul, q_sub, pk_sub, q_mod, pk_div, nI_clamp, q_not, q_m1, q_z1, q_n1lt, Nat.add_zero, Nat.zero_add, q_nT, q_nF, ↓reduceIte, bd0_s, bd1_s, bd2_s, bd3_s, bd4_s, bd5_s, bd6_s, bd7_s, bd8_s, bd9_s, lt_s_, qL0, qL1, qL2, qL3, qL4, qL5, qL6, qL7, qL8, qL9, qL10, qL11, qL12, qL13, qL14, qL15, qL16, qL17, qL21, qL25, qL26, qL31, qL33, qL40, qL43, qL45, qL48, qL49, qL57, qL58, qL59, qL60, qL61, qL65, qL90, qL97, qL98, qL99, qL118, qL119, qL126, qL240, qL261, qL501, qL999, qL1000, qL1002, qL2505, qL3006, qL999999, qL1000000, h2, f6_ofKind_j41, f6_ofKind_j42]
        rfl
      · rw [if_neg (fun q : _ ∧ _ => c2 q.2)]
        simp (disch := omega) only [q_inb, q_isZ0, q_isZ1, q_leT, q_leF, q_ltT, q_ltF, q_eqT, q_eqF, nI_leI, nI_ltI, nI_eq, nI_add, pk_mul, q_sub, pk_sub, q_mod, pk_div, nI_clamp, q_not, q_m1, q_z1, q_n1lt, Nat.add_zero, Nat.zero_add, q_nT, q_nF, ↓reduceIte, bd0_s, bd1_s, bd2_s, bd3_s, bd4_s, bd5_s, bd6_s, bd7_s, bd8_s, bd9_s, lt_s_, qL0, qL1, qL2, qL3, qL4, qL5, qL6, qL7, qL8, qL9, qL10, qL11, qL12, qL13, qL14, qL15, qL16, qL17, qL21, qL25, qL26, qL31, qL33, qL40, qL43, qL45, qL48, qL49, qL57, qL58, qL59, qL60, qL61, qL65, qL90, qL97, qL98, qL99, qL118, qL119, qL126, qL240, qL261, qL501, qL999, qL1000, qL1002, qL2505, qL3006, qL999999, qL1000000, h2, f6_ofKind_j41, f6_ofKind_j42]
        rfl
    · rw [if_neg c1, if_neg (fun q : _ ∧ _ => c1 q.1)]
      simp (disch := omega) only [q_inb, q_isZ0, q_isZ1, q_leT, q_leF, q_ltT, q_ltF, q_eqT, q_eqF, nI_leI, nI_ltI, nI_eq, nI_add, pk_mul, q_sub, pk_sub, q_mod, pk_div, nI_clamp, q_not, q_m1, q_z1, q_n1lt, Nat.add_zero, Nat.zero_add, q_nT, q_nF, ↓reduceIte, bd0_s, bd1_s, bd2_s, bd3_s, bd4_s, bd5_s, bd6_s, bd7_s, bd8_s, bd9_s, lt_s_, qL0, qL1, qL2, qL3, qL4, qL5, qL6, qL7, qL8, qL9, qL10, qL11, qL12, qL13, qL14, qL15, qL16, qL17, qL21, qL25, qL26, qL31, qL33, qL40, qL43, qL45, qL48, qL49, qL57, qL58, qL59, qL60, qL61, qL65, qL90, qL97, qL98, qL99, qL118, qL119, qL126, qL240, qL261, qL501, qL999, qL1000, qL1002, qL2505, qL3006, qL999999, qL1000000, f6_ofKind_j41, f6_ofKind_j42]
      rfl)
  unfold f6_ofKind
  refine Eq.trans ht ?_
  rw [f6_ofKind_l6]
  simp (disch := omega) only [q_inb, q_isZ0, q_isZ1, q_leT, q_leF, q_ltT, q_ltF, q_eqT, q_eqF, nI_leI, nI_ltI, nI_eq, nI_add, pk_mul, q_sub, pk_sub, q_mod, pk_div, nI_clamp, q_not, q_m1, q_z1, q_n1lt, Nat.add_zero, Nat.zero_add, q_nT, q_nF, ↓reduceIte, bd0_s, bd1_s, bd2_s, bd3_s, bd4_s, bd5_s, bd6_s, bd7_s, bd8_s, bd9_s, lt_s_, qL0, qL1, qL2, qL3, qL4, qL5, qL6, qL7, qL8, qL9, qL10, qL11, qL12, qL13, qL14, qL15, qL16, qL17, qL21, qL25, qL26, qL31, qL33, qL40, qL43, qL45, qL48, qL49, qL57, qL58, qL59, qL60, qL61, qL65, qL90, qL97, qL98, qL99, qL118, qL119, qL126, qL240, qL261, qL501, qL999, qL1000, qL1002, qL2505, qL3006, qL999999, qL1000000]
theorem s6_amounts {h : Nat} {F Z K M : NF} {g : Nat → Int32} (hB : wB_ h F Z) (hK : wK_ h Z K M) (mB : mB_ h F Z g) (mK : mK_ h Z K M g) {a n k : Nat} (han : a + n ≤ 40 * h) (hk : k ≤ 3) : f6_amounts g (nI a) (nI (a + n)) (nI k) = some (nI (fb_sm (fun i => qm Z K M k (a + i)) n)) := by
  have hh := hB.1
  obtain ⟨t, ht⟩ := traj0 (fun i t => f6_amounts_l6 g (nI (a + n)) (nI k) t (nI (fb_sm (fun i => qm Z K M k (a + i)) i)) (nI (a + i))) n (by omega) (fun i t hi => by
    have h1 := s6_isCheque hB mB (show a + i < 40 * h by omega)
    rw [f6_amounts_l6, fb_sm_succ, if_neg (nI_ge (by omega) (by omega)), h1, bd1_s]
    unfold qm
    by_cases c1 : (a + i) % 40 < Z ((a + i) / 40)
    · have h2 := (mK_at mK (show a + i < 40 * h by omega) c1)
      have h3 := (wK_at hK (show a + i < 40 * h by omega) c1).1
      rw [if_pos c1]
      by_cases c2 : K (a + i) = k
      · rw [if_pos (⟨c1, c2⟩ : _ ∧ _)]
        simp (disch := omega) only [q_inb, q_isZ0, q_isZ1, q_leT, q_leF, q_ltT, q_ltF, q_eqT, q_eqF, nI_leI, nI_ltI, nI_eq, nI_add, pk_mul, q_sub, pk_sub, q_mod, pk_div, nI_clamp, q_not, q_m1, q_z1, q_n1lt, Nat.add_zero, Nat.zero_add, q_nT, q_nF, ↓reduceIte, bd0_s, bd1_s, bd2_s, bd3_s, bd4_s, bd5_s, bd6_s, bd7_s, bd8_s, bd9_s, lt_s_, qL0, qL1, qL2, qL3, qL4, qL5, qL6, qL7, qL8, qL9, qL10, qL11, qL12, qL13, qL14, qL15, qL16, qL17, qL21, qL25, qL26, qL31, qL33, qL40, qL43, qL45, qL48, qL49, qL57, qL58, qL59, qL60, qL61, qL65, qL90, qL97, qL98, qL99, qL118, qL119, qL126, qL240, qL261, qL501, qL999, qL1000, qL1002, qL2505, qL3006, qL999999, qL1000000, h2.1, h2.2, f6_amounts_j51, f6_amounts_j52]
        rfl
      · rw [if_neg (fun q : _ ∧ _ => c2 q.2)]
        simp (disch := omega) only [q_inb, q_isZ0, q_isZ1, q_leT, q_leF, q_ltT, q_ltF, q_eqT, q_eqF, nI_leI, nI_ltI, nI_eq, nI_add, pk_mul, q_sub, pk_sub, q_mod, pk_div, nI_clamp, q_not, q_m1, q_z1, q_n1lt, Nat.add_zero, Nat.zero_add, q_nT, q_nF, ↓reduceIte, bd0_s, bd1_s, bd2_s, bd3_s, bd4_s, bd5_s, bd6_s, bd7_s, bd8_s, bd9_s, lt_s_, qL0, qL1, qL2, qL3, qL4, qL5, qL6, qL7, qL8, qL9, qL10, qL11, qL12, qL13, qL14, qL15, qL16, qL17, qL21, qL25, qL26, qL31, qL33, qL40, qL43, qL45, qL48, qL49, qL57, qL58, qL59, qL60, qL61, qL65, qL90, qL97, qL98, qL99, qL118, qL119, qL126, qL240, qL261, qL501, qL999, qL1000, qL1002, qL2505, qL3006, qL999999, qL1000000, h2.1, f6_amounts_j51, f6_amounts_j52]
        rfl
    · rw [if_neg c1, if_neg (fun q : _ ∧ _ => c1 q.1)]
      simp (disch := omega) only [q_inb, q_isZ0, q_isZ1, q_leT, q_leF, q_ltT, q_ltF, q_eqT, q_eqF, nI_leI, nI_ltI, nI_eq, nI_add, pk_mul, q_sub, pk_sub, q_mod, pk_div, nI_clamp, q_not, q_m1, q_z1, q_n1lt, Nat.add_zero, Nat.zero_add, q_nT, q_nF, ↓reduceIte, bd0_s, bd1_s, bd2_s, bd3_s, bd4_s, bd5_s, bd6_s, bd7_s, bd8_s, bd9_s, lt_s_, qL0, qL1, qL2, qL3, qL4, qL5, qL6, qL7, qL8, qL9, qL10, qL11, qL12, qL13, qL14, qL15, qL16, qL17, qL21, qL25, qL26, qL31, qL33, qL40, qL43, qL45, qL48, qL49, qL57, qL58, qL59, qL60, qL61, qL65, qL90, qL97, qL98, qL99, qL118, qL119, qL126, qL240, qL261, qL501, qL999, qL1000, qL1002, qL2505, qL3006, qL999999, qL1000000, f6_amounts_j51, f6_amounts_j52]
      rfl)
  unfold f6_amounts
  refine Eq.trans ht ?_
  rw [f6_amounts_l6]
  simp (disch := omega) only [q_inb, q_isZ0, q_isZ1, q_leT, q_leF, q_ltT, q_ltF, q_eqT, q_eqF, nI_leI, nI_ltI, nI_eq, nI_add, pk_mul, q_sub, pk_sub, q_mod, pk_div, nI_clamp, q_not, q_m1, q_z1, q_n1lt, Nat.add_zero, Nat.zero_add, q_nT, q_nF, ↓reduceIte, bd0_s, bd1_s, bd2_s, bd3_s, bd4_s, bd5_s, bd6_s, bd7_s, bd8_s, bd9_s, lt_s_, qL0, qL1, qL2, qL3, qL4, qL5, qL6, qL7, qL8, qL9, qL10, qL11, qL12, qL13, qL14, qL15, qL16, qL17, qL21, qL25, qL26, qL31, qL33, qL40, qL43, qL45, qL48, qL49, qL57, qL58, qL59, qL60, qL61, qL65, qL90, qL97, qL98, qL99, qL118, qL119, qL126, qL240, qL261, qL501, qL999, qL1000, qL1002, qL2505, qL3006, qL999999, qL1000000]
/-- the first blank cheque of a book -/
theorem op_firstBlank {h : Nat} {F Z K M : NF} {bh : Int32} {bF bZ bK bM g : Nat → Int32} (hB : wB_ h F Z) (hK : wK_ h Z K M) (cB : cB_ h F Z bh bF bZ) (cK : cK_ h Z K M bK bM) (mB : mB_ h F Z g) (mK : mK_ h Z K M g) {b : Nat} (hb : b < h) : ∃ r, f0_firstBlankOf bF bZ bK (nI b) = some r ∧ f6_firstBlank g (nI b) = some r := by
  have hh := hB.1
  have h1 := hB.2.1 b hb
  have h2 := s0_sizeOf hB cB hb
  have h3 := s0_firstOf hB cB hb
  have h4 := s6_countOf hB mB hb
  have e2 : ∀ j, nI b * (40 : Int32) + nI j = nI (40 * b + j) := fun j => by rw [qL40, pk_mul, nI_add, Nat.mul_comm]
  have e3 : (40 : Int32) * nI b + nI (Z b) = nI (40 * b + Z b) := by rw [qL40, pk_mul, nI_add]
  have e4 : (40 : Int32) * nI b = nI (40 * b) := by rw [qL40, pk_mul]
  by_cases hz : ∃ j, j < Z b ∧ K (40 * b + j) = 0
  · obtain ⟨n, hn1, hn2, hn3⟩ := fb_first hz
    have k1 := s0_kindAt hB cK hb hn1
    have k2 := (mK b n hb hn1).1
    have k3 := s6_serialAt hB mB (c := 40 * b + n) (by omega)
    rw [show (40 * b + n) / 40 = b by omega, show (40 * b + n) % 40 = n by omega] at k3
    refine ⟨nI (F b + n), ?_, ?_⟩
    · obtain ⟨t, ht⟩ := traj0 (fun j t => f0_firstBlankOf_l8 bF bZ bK (nI b) (nI (Z b)) t (nI j)) n (by omega) (fun j t hj => by
        have k1 := s0_kindAt hB cK hb (show j < Z b by omega)
        have k2 := hn3 j hj
        have k4 := (hK b j hb (by omega)).1
        rw [f0_firstBlankOf_l8, if_neg (nI_ge (show j < Z b by omega) (by omega)), e2, k1, bd1_s]
        simp (disch := omega) only [q_inb, q_isZ0, q_isZ1, q_leT, q_leF, q_ltT, q_ltF, q_eqT, q_eqF, nI_leI, nI_ltI, nI_eq, nI_add, pk_mul, q_sub, pk_sub, q_mod, pk_div, nI_clamp, q_not, q_m1, q_z1, q_n1lt, Nat.add_zero, Nat.zero_add, q_nT, q_nF, ↓reduceIte, bd0_s, bd1_s, bd2_s, bd3_s, bd4_s, bd5_s, bd6_s, bd7_s, bd8_s, bd9_s, lt_s_, qL0, qL1, qL2, qL3, qL4, qL5, qL6, qL7, qL8, qL9, qL10, qL11, qL12, qL13, qL14, qL15, qL16, qL17, qL21, qL25, qL26, qL31, qL33, qL40, qL43, qL45, qL48, qL49, qL57, qL58, qL59, qL60, qL61, qL65, qL90, qL97, qL98, qL99, qL118, qL119, qL126, qL240, qL261, qL501, qL999, qL1000, qL1002, qL2505, qL3006, qL999999, qL1000000])
      unfold f0_firstBlankOf
      rw [h2, bd1_s]
      refine Eq.trans ht ?_
      rw [f0_firstBlankOf_l8, if_neg (nI_ge hn1 (by omega)), e2, k1, bd1_s, hn2, if_pos (show nI 0 = (0 : Int32) from rfl), h3, bd1_s, nI_add]
    · obtain ⟨t, ht⟩ := traj0 (fun j t => f6_firstBlank_l5 g (nI b) t (nI (40 * b + j))) n (by omega) (fun j t hj => by
        have k1 := (mK b j hb (show j < Z b by omega)).1
        have k2 := hn3 j hj
        have k4 := (hK b j hb (by omega)).1
        rw [f6_firstBlank_l5, h4, bd1_s, e3]
        simp (disch := omega) only [q_inb, q_isZ0, q_isZ1, q_leT, q_leF, q_ltT, q_ltF, q_eqT, q_eqF, nI_leI, nI_ltI, nI_eq, nI_add, pk_mul, q_sub, pk_sub, q_mod, pk_div, nI_clamp, q_not, q_m1, q_z1, q_n1lt, Nat.add_zero, Nat.zero_add, q_nT, q_nF, ↓reduceIte, bd0_s, bd1_s, bd2_s, bd3_s, bd4_s, bd5_s, bd6_s, bd7_s, bd8_s, bd9_s, lt_s_, qL0, qL1, qL2, qL3, qL4, qL5, qL6, qL7, qL8, qL9, qL10, qL11, qL12, qL13, qL14, qL15, qL16, qL17, qL21, qL25, qL26, qL31, qL33, qL40, qL43, qL45, qL48, qL49, qL57, qL58, qL59, qL60, qL61, qL65, qL90, qL97, qL98, qL99, qL118, qL119, qL126, qL240, qL261, qL501, qL999, qL1000, qL1002, qL2505, qL3006, qL999999, qL1000000, k1]
        rfl)
      unfold f6_firstBlank
      rw [e4]
      refine Eq.trans ht ?_
      rw [f6_firstBlank_l5, h4, bd1_s, e3]
      simp (disch := omega) only [q_inb, q_isZ0, q_isZ1, q_leT, q_leF, q_ltT, q_ltF, q_eqT, q_eqF, nI_leI, nI_ltI, nI_eq, nI_add, pk_mul, q_sub, pk_sub, q_mod, pk_div, nI_clamp, q_not, q_m1, q_z1, q_n1lt, Nat.add_zero, Nat.zero_add, q_nT, q_nF, ↓reduceIte, bd0_s, bd1_s, bd2_s, bd3_s, bd4_s, bd5_s, bd6_s, bd7_s, bd8_s, bd9_s, lt_s_, qL0, qL1, qL2, qL3, qL4, qL5, qL6, qL7, qL8, qL9, qL10, qL11, qL12, qL13, qL14, qL15, qL16, qL17, qL21, qL25, qL26, qL31, qL33, qL40, qL43, qL45, qL48, qL49, qL57, qL58, qL59, qL60, qL61, qL65, qL90, qL97, qL98, qL99, qL118, qL119, qL126, qL240, qL261, qL501, qL999, qL1000, qL1002, qL2505, qL3006, qL999999, qL1000000, k2, hn2, k3]
  · have hz' : ∀ j, j < Z b → K (40 * b + j) ≠ 0 := fun j hj q => hz ⟨j, hj, q⟩
    refine ⟨-1, ?_, ?_⟩
    · obtain ⟨t, ht⟩ := traj0 (fun j t => f0_firstBlankOf_l8 bF bZ bK (nI b) (nI (Z b)) t (nI j)) (Z b) (by omega) (fun j t hj => by
        have k1 := s0_kindAt hB cK hb (show j < Z b by omega)
        have k2 := hz' j hj
        have k4 := (hK b j hb (by omega)).1
        rw [f0_firstBlankOf_l8, if_neg (nI_ge (show j < Z b by omega) (by omega)), e2, k1, bd1_s]
        simp (disch := omega) only [q_inb, q_isZ0, q_isZ1, q_leT, q_leF, q_ltT, q_ltF, q_eqT, q_eqF, nI_leI, nI_ltI, nI_eq, nI_add, pk_mul, q_sub, pk_sub, q_mod, pk_div, nI_clamp, q_not, q_m1, q_z1, q_n1lt, Nat.add_zero, Nat.zero_add, q_nT, q_nF, ↓reduceIte, bd0_s, bd1_s, bd2_s, bd3_s, bd4_s, bd5_s, bd6_s, bd7_s, bd8_s, bd9_s, lt_s_, qL0, qL1, qL2, qL3, qL4, qL5, qL6, qL7, qL8, qL9, qL10, qL11, qL12, qL13, qL14, qL15, qL16, qL17, qL21, qL25, qL26, qL31, qL33, qL40, qL43, qL45, qL48, qL49, qL57, qL58, qL59, qL60, qL61, qL65, qL90, qL97, qL98, qL99, qL118, qL119, qL126, qL240, qL261, qL501, qL999, qL1000, qL1002, qL2505, qL3006, qL999999, qL1000000])
      unfold f0_firstBlankOf
      rw [h2, bd1_s]
      refine Eq.trans ht ?_
      rw [f0_firstBlankOf_l8, if_pos (nI_le (Nat.le_refl _) (by omega))]
    · obtain ⟨t, ht⟩ := traj0 (fun j t => f6_firstBlank_l5 g (nI b) t (nI (40 * b + j))) (Z b) (by omega) (fun j t hj => by
        have k1 := (mK b j hb (show j < Z b by omega)).1
        have k2 := hz' j hj
        have k4 := (hK b j hb (by omega)).1
        rw [f6_firstBlank_l5, h4, bd1_s, e3]
        simp (disch := omega) only [q_inb, q_isZ0, q_isZ1, q_leT, q_leF, q_ltT, q_ltF, q_eqT, q_eqF, nI_leI, nI_ltI, nI_eq, nI_add, pk_mul, q_sub, pk_sub, q_mod, pk_div, nI_clamp, q_not, q_m1, q_z1, q_n1lt, Nat.add_zero, Nat.zero_add, q_nT, q_nF, ↓reduceIte, bd0_s, bd1_s, bd2_s, bd3_s, bd4_s, bd5_s, bd6_s, bd7_s, bd8_s, bd9_s, lt_s_, qL0, qL1, qL2, qL3, qL4, qL5, qL6, qL7, qL8, qL9, qL10, qL11, qL12, qL13, qL14, qL15, qL16, qL17, qL21, qL25, qL26, qL31, qL33, qL40, qL43, qL45, qL48, qL49, qL57, qL58, qL59, qL60, qL61, qL65, qL90, qL97, qL98, qL99, qL118, qL119, qL126, qL240, qL261, qL501, qL999, qL1000, qL1002, qL2505, qL3006, qL999999, qL1000000, k1]
        rfl)
      unfold f6_firstBlank
      rw [e4]
      refine Eq.trans ht ?_
      rw [f6_firstBlank_l5, h4, bd1_s, e3, if_pos (nI_le (Nat.le_refl _) (by omega))]
/-- how many of one kind follow -/
theorem op_run {h : Nat} {F Z K M : NF} {bh : Int32} {bF bZ bK bM g : Nat → Int32} (hB : wB_ h F Z) (hK : wK_ h Z K M) (cB : cB_ h F Z bh bF bZ) (cK : cK_ h Z K M bK bM) (mB : mB_ h F Z g) (mK : mK_ h Z K M g) {b j : Nat} (hb : b < h) (hj : j < Z b) : ∃ r, f0_sameKindFrom bZ bK (nI (40 * b + j)) = some r ∧ f6_runFrom g (nI (40 * b + j)) = some r := by
  have hh := hB.1
  have h1 := hB.2.1 b hb
  have h2 := s0_sizeOf hB cB hb
  have h4 := s6_countOf hB mB hb
  have h5 := s0_kindAt hB cK hb hj
  have h6 := (hK b j hb hj).1
  have h7 := (mK b j hb hj).1
  have e1 : nI (40 * b + j) / (40 : Int32) = nI b := by
    simp (disch := omega) only [q_inb, q_isZ0, q_isZ1, q_leT, q_leF, q_ltT, q_ltF, q_eqT, q_eqF, nI_leI, nI_ltI, nI_eq, nI_add, pk_mul, q_sub, pk_sub, q_mod, pk_div, nI_clamp, q_not, q_m1, q_z1, q_n1lt, Nat.add_zero, Nat.zero_add, q_nT, q_nF, ↓reduceIte, bd0_s, bd1_s, bd2_s, bd3_s, bd4_s, bd5_s, bd6_s, bd7_s, bd8_s, bd9_s, lt_s_, qL0, qL1, qL2, qL3, qL4, qL5, qL6, qL7, qL8, qL9, qL10, qL11, qL12, qL13, qL14, qL15, qL16, qL17, qL21, qL25, qL26, qL31, qL33, qL40, qL43, qL45, qL48, qL49, qL57, qL58, qL59, qL60, qL61, qL65, qL90, qL97, qL98, qL99, qL118, qL119, qL126, qL240, qL261, qL501, qL999, qL1000, qL1002, qL2505, qL3006, qL999999, qL1000000]
  have e2 : nI b * (40 : Int32) = nI (40 * b) := by rw [qL40, pk_mul, Nat.mul_comm]
  have e3 : nI (40 * b + j) - nI (40 * b) = nI j := by rw [pk_sub (by omega), Nat.add_sub_cancel_left]
  have hx : ∃ n, n < 41 ∧ (Z b ≤ j + n ∨ K (40 * b + (j + n)) ≠ K (40 * b + j)) := ⟨40, by decide, Or.inl (by omega)⟩
  obtain ⟨n, hn1, hn2, hn3⟩ := fb_first hx
  have hn4 : ∀ i, i < n → j + i < Z b ∧ K (40 * b + (j + i)) = K (40 * b + j) := fun i hi => by
    have := hn3 i hi
    constructor
    · exact Nat.lt_of_not_le fun q => this (Or.inl q)
    · exact Decidable.not_not.mp fun q => this (Or.inr q)
  refine ⟨nI n, ?_, ?_⟩
  · obtain ⟨t, ht⟩ := traj0 (fun i t => f0_sameKindFrom_l29 bZ bK (nI (40 * b + Z b)) (nI (K (40 * b + j))) t (nI i) (nI (40 * b + (j + i)))) n (by omega) (fun i t hi => by
      obtain ⟨k1, k2⟩ := hn4 i hi
      have k3 := s0_kindAt hB cK hb k1
      rw [f0_sameKindFrom_l29, if_neg (nI_ge (by omega) (by omega)), k3, bd1_s, k2, if_pos rfl, nI_1, nI_1]
      rfl)
    unfold f0_sameKindFrom
    rw [e1, h2, bd1_s, h5, bd1_s, e2, nI_add]
    refine Eq.trans ht ?_
    rw [f0_sameKindFrom_l29]
    by_cases c1 : Z b ≤ j + n
    · rw [if_pos (nI_le (by omega) (by omega))]
    · have c2 := hn2.resolve_left c1
      have k3 := s0_kindAt hB cK hb (show j + n < Z b by omega)
      have k4 := (hK b (j + n) hb (by omega)).1
      rw [if_neg (nI_ge (by omega) (by omega)), k3, bd1_s]
      simp (disch := omega) only [q_inb, q_isZ0, q_isZ1, q_leT, q_leF, q_ltT, q_ltF, q_eqT, q_eqF, nI_leI, nI_ltI, nI_eq, nI_add, pk_mul, q_sub, pk_sub, q_mod, pk_div, nI_clamp, q_not, q_m1, q_z1, q_n1lt, Nat.add_zero, Nat.zero_add, q_nT, q_nF, ↓reduceIte, bd0_s, bd1_s, bd2_s, bd3_s, bd4_s, bd5_s, bd6_s, bd7_s, bd8_s, bd9_s, lt_s_, qL0, qL1, qL2, qL3, qL4, qL5, qL6, qL7, qL8, qL9, qL10, qL11, qL12, qL13, qL14, qL15, qL16, qL17, qL21, qL25, qL26, qL31, qL33, qL40, qL43, qL45, qL48, qL49, qL57, qL58, qL59, qL60, qL61, qL65, qL90, qL97, qL98, qL99, qL118, qL119, qL126, qL240, qL261, qL501, qL999, qL1000, qL1002, qL2505, qL3006, qL999999, qL1000000]
  · obtain ⟨t, ht⟩ := traj0 (fun i t => f6_runFrom_l2 g (nI (40 * b + j)) t (nI i)) n (by omega) (fun i t hi => by
      obtain ⟨k1, k2⟩ := hn4 i hi
      have k3 := (mK b (j + i) hb k1).1
      have k5 : g (21 + (40 * b + j) + i) = nI (K (40 * b + j)) := by
        rw [show 21 + (40 * b + j) + i = 21 + (40 * b + (j + i)) by omega, k3, k2]
      rw [f6_runFrom_l2, e1, h4, bd1_s, e2, e3]
      simp (disch := omega) only [q_inb, q_isZ0, q_isZ1, q_leT, q_leF, q_ltT, q_ltF, q_eqT, q_eqF, nI_leI, nI_ltI, nI_eq, nI_add, pk_mul, q_sub, pk_sub, q_mod, pk_div, nI_clamp, q_not, q_m1, q_z1, q_n1lt, Nat.add_zero, Nat.zero_add, q_nT, q_nF, ↓reduceIte, bd0_s, bd1_s, bd2_s, bd3_s, bd4_s, bd5_s, bd6_s, bd7_s, bd8_s, bd9_s, lt_s_, qL0, qL1, qL2, qL3, qL4, qL5, qL6, qL7, qL8, qL9, qL10, qL11, qL12, qL13, qL14, qL15, qL16, qL17, qL21, qL25, qL26, qL31, qL33, qL40, qL43, qL45, qL48, qL49, qL57, qL58, qL59, qL60, qL61, qL65, qL90, qL97, qL98, qL99, qL118, qL119, qL126, qL240, qL261, qL501, qL999, qL1000, qL1002, qL2505, qL3006, qL999999, qL1000000, k5, h7])
    unfold f6_runFrom
    refine Eq.trans ht ?_
    rw [f6_runFrom_l2, e1, h4, bd1_s, e2, e3]
    by_cases c1 : Z b ≤ j + n
    · simp (disch := omega) only [q_inb, q_isZ0, q_isZ1, q_leT, q_leF, q_ltT, q_ltF, q_eqT, q_eqF, nI_leI, nI_ltI, nI_eq, nI_add, pk_mul, q_sub, pk_sub, q_mod, pk_div, nI_clamp, q_not, q_m1, q_z1, q_n1lt, Nat.add_zero, Nat.zero_add, q_nT, q_nF, ↓reduceIte, bd0_s, bd1_s, bd2_s, bd3_s, bd4_s, bd5_s, bd6_s, bd7_s, bd8_s, bd9_s, lt_s_, qL0, qL1, qL2, qL3, qL4, qL5, qL6, qL7, qL8, qL9, qL10, qL11, qL12, qL13, qL14, qL15, qL16, qL17, qL21, qL25, qL26, qL31, qL33, qL40, qL43, qL45, qL48, qL49, qL57, qL58, qL59, qL60, qL61, qL65, qL90, qL97, qL98, qL99, qL118, qL119, qL126, qL240, qL261, qL501, qL999, qL1000, qL1002, qL2505, qL3006, qL999999, qL1000000]
    · have c2 := hn2.resolve_left c1
      have k3 := (mK b (j + n) hb (by omega)).1
      have k4 := (hK b (j + n) hb (by omega)).1
      have k5 : g (21 + (40 * b + j) + n) = nI (K (40 * b + (j + n))) := by
        rw [show 21 + (40 * b + j) + n = 21 + (40 * b + (j + n)) by omega, k3]
      simp (disch := omega) only [q_inb, q_isZ0, q_isZ1, q_leT, q_leF, q_ltT, q_ltF, q_eqT, q_eqF, nI_leI, nI_ltI, nI_eq, nI_add, pk_mul, q_sub, pk_sub, q_mod, pk_div, nI_clamp, q_not, q_m1, q_z1, q_n1lt, Nat.add_zero, Nat.zero_add, q_nT, q_nF, ↓reduceIte, bd0_s, bd1_s, bd2_s, bd3_s, bd4_s, bd5_s, bd6_s, bd7_s, bd8_s, bd9_s, lt_s_, qL0, qL1, qL2, qL3, qL4, qL5, qL6, qL7, qL8, qL9, qL10, qL11, qL12, qL13, qL14, qL15, qL16, qL17, qL21, qL25, qL26, qL31, qL33, qL40, qL43, qL45, qL48, qL49, qL57, qL58, qL59, qL60, qL61, qL65, qL90, qL97, qL98, qL99, qL118, qL119, qL126, qL240, qL261, qL501, qL999, qL1000, qL1002, qL2505, qL3006, qL999999, qL1000000, k5, h7]
