
/-! ===== pure rows: books by their order, serials by their rank ===== -/
/-! ===== drawers: more things than places ===== -/
theorem fb_holes : ∀ (m n : Nat) (f : Nat → Nat), (∀ i, i < n → f i < m) → (∀ i j, i < j → j < n → f i ≠ f j) → n ≤ m := by
  intro m
  induction m with
  | zero =>
    intro n f h1 _
    rcases Nat.eq_zero_or_pos n with h | h
    · omega
    · exact absurd (h1 0 h) (Nat.not_lt_zero _)
  | succ m ih =>
    intro n f h1 h2
    by_cases hx : ∃ i, i < n ∧ f i = m
    · obtain ⟨a, ha, hfa⟩ := hx
      have hg := ih (n - 1) (fun i => if i < a then f i else f (i + 1)) (by
        intro i hi
        by_cases q : i < a
        · simp only [if_pos q]
          have b1 := h1 i (by omega)
          have b2 := h2 i a q ha
          omega
        · simp only [if_neg q]
          have b1 := h1 (i + 1) (by omega)
          have b2 := h2 a (i + 1) (by omega) (by omega)
          omega) (by
        intro i j hij hj
        by_cases q : i < a
        · by_cases r : j < a
          · simp only [if_pos q, if_pos r]
            exact h2 i j hij (by omega)
          · simp only [if_pos q, if_neg r]
            exact h2 i (j + 1) (by omega) (by omega)
        · have r : ¬ j < a := by omega
          simp only [if_neg q, if_neg r]
          exact h2 (i + 1) (j + 1) (by omega) (by omega))
      omega
    · have hg := ih n f (fun i hi => by
        have b1 := h1 i hi
        have b2 : f i ≠ m := fun e => hx ⟨i, hi, e⟩
        omega) h2
      omega
/-- two of them in one place -/
theorem fb_twice {m n : Nat} {f : Nat → Nat} (h : ∀ i, i < n → f i < m) (hm : m < n) : ∃ i j, i < j ∧ j < n ∧ f i = f j := by
  refine Classical.byContradiction fun hx => ?_
  have := fb_holes m n f h (fun i j hij hj e => hx ⟨i, j, hij, hj, e⟩)
  omega
/-- as many as places, none twice: each place is taken -/
theorem fb_onto {n : Nat} {f : Nat → Nat} (h : ∀ i, i < n → f i < n) (h2 : ∀ i j, i < j → j < n → f i ≠ f j) {y : Nat} (hy : y < n) : ∃ i, i < n ∧ f i = y := by
  refine Classical.byContradiction fun hx => ?_
  have hne : ∀ i, i < n → f i ≠ y := fun i hi e => hx ⟨i, hi, e⟩
  have := fb_holes (n - 1) n (fun i => if f i < y then f i else f i - 1) (by
    intro i hi
    have b1 := h i hi
    have b2 := hne i hi
    by_cases q : f i < y
    · simp only [if_pos q]; omega
    · simp only [if_neg q]; omega) (by
    intro i j hij hj
    have b1 := hne i (by omega)
    have b2 := hne j hj
    have b3 := h2 i j hij hj
    by_cases q : f i < y
    · by_cases r : f j < y
      · simp only [if_pos q, if_pos r]; exact b3
      · simp only [if_pos q, if_neg r]; omega
    · by_cases r : f j < y
      · simp only [if_neg q, if_pos r]; omega
      · simp only [if_neg q, if_neg r]; omega)
  omega
theorem ct_lt {p q : Nat → Bool} : ∀ {n : Nat}, (∀ k, k < n → p k = true → q k = true) → (∃ k, k < n ∧ q k = true ∧ p k = false) → fb_ct p n < fb_ct q n
  | 0, _, h => by obtain ⟨k, hk, _⟩ := h; omega
  | n + 1, h, hx => by
    have h1 := fb_ct_sub (n := n) (p := p) (q := q) (fun k hk => h k (by omega))
    have h2 := h n (by omega)
    rw [fb_ct_succ, fb_ct_succ]
    obtain ⟨k, k1, k2, k3⟩ := hx
    by_cases e : k = n
    · subst e
      rw [k2, k3]
      simp only [if_true, Bool.false_eq_true, if_false]
      omega
    · have h3 := ct_lt (n := n) (fun k hk => h k (by omega)) ⟨k, by omega, k2, k3⟩
      cases hp : p n
      · simp only [Bool.false_eq_true, if_false]; omega
      · rw [h2 hp]; omega
/-- how many books begin below x -/
def bb (h : Nat) (F : NF) (x : Nat) : Nat := fb_ct (fun b => decide (F b < x)) h
theorem bb_mono {h : Nat} {F : NF} {x y : Nat} (hxy : x ≤ y) : bb h F x ≤ bb h F y := fb_ct_sub fun k _ hk => decide_eq_true (Nat.lt_of_lt_of_le (of_decide_eq_true hk) hxy)
theorem bb_lt {h : Nat} {F : NF} {x y b : Nat} (hxy : x ≤ y) (hb : b < h) (h1 : F b < y) (h2 : x ≤ F b) : bb h F x < bb h F y :=
  ct_lt (fun k _ hk => decide_eq_true (Nat.lt_of_lt_of_le (of_decide_eq_true hk) hxy)) ⟨b, hb, decide_eq_true h1, decide_eq_false (by omega)⟩
theorem bb_h {h : Nat} {F : NF} {b : Nat} (hb : b < h) : bb h F (F b) < h := by
  have h1 := fb_ct_le (fun c => decide (F c < F b)) h
  have h2 : ¬ bb h F (F b) = h := fun q => absurd (of_decide_eq_true (fb_ct_all.mp q b hb)) (Nat.lt_irrefl _)
  unfold bb at h2 ⊢
  omega
theorem bb_ne {h : Nat} {F Z : NF} (hB : wB_ h F Z) {a b : Nat} (ha : a < h) (hb : b < h) (hab : a ≠ b) : bb h F (F a) ≠ bb h F (F b) := by
  have h1 := hB.2.2 a b ha hb hab
  have h2 := (hB.2.1 a ha).1
  have h3 := (hB.2.1 b hb).1
  rcases h1 with q | q
  · have := bb_lt (h := h) (F := F) (x := F a) (y := F b) (by omega) ha (by omega) (Nat.le_refl _); omega
  · have := bb_lt (h := h) (F := F) (x := F b) (y := F a) (by omega) hb (by omega) (Nat.le_refl _); omega
def isOrd (h : Nat) (F : NF) (o : NF) : Prop := ∀ r, r < h → o r < h ∧ bb h F (F (o r)) = r
theorem ord_ex {h : Nat} {F Z : NF} (hB : wB_ h F Z) : ∃ o, isOrd h F o := by
  have ex : ∀ r, ∃ b, r < h → b < h ∧ bb h F (F b) = r := fun r => by
    by_cases hr : r < h
    · obtain ⟨b, h1, h2⟩ := fb_onto (n := h) (f := fun b => bb h F (F b)) (fun i hi => bb_h hi) (fun i j hij hj => bb_ne hB (by omega) hj (by omega)) hr
      exact ⟨b, fun _ => ⟨h1, h2⟩⟩
    · exact ⟨0, fun q => absurd q hr⟩
  exact ⟨fun r => Classical.choose (ex r), fun r hr => Classical.choose_spec (ex r) hr⟩
theorem ord_all {h : Nat} {F Z o : NF} (hB : wB_ h F Z) (ho : isOrd h F o) {b : Nat} (hb : b < h) : ∃ r, r < h ∧ o r = b := by
  have h1 := ho (bb h F (F b)) (bb_h hb)
  exact ⟨_, bb_h hb, Decidable.byContradiction fun q => bb_ne hB h1.1 hb q h1.2⟩
theorem ord_lt {h : Nat} {F Z o : NF} (hB : wB_ h F Z) (ho : isOrd h F o) {r r' : Nat} (hr : r < r') (hr' : r' < h) : F (o r) + Z (o r) ≤ F (o r') := by
  have h1 := ho r (by omega)
  have h2 := ho r' hr'
  have h3 : o r ≠ o r' := fun q => by rw [q, h2.2] at h1; omega
  rcases hB.2.2 (o r) (o r') h1.1 h2.1 h3 with q | q
  · exact q
  · have := bb_mono (h := h) (F := F) (show F (o r') ≤ F (o r) by omega); omega
theorem s0_booksBefore {h : Nat} {F Z : NF} {bh : Int32} {bF bZ : Nat → Int32} (hB : wB_ h F Z) (cB : cB_ h F Z bh bF bZ) {x : Nat} (hx : x < 2 ^ 31) : f0_booksBefore bh bF (nI x) = some (nI (bb h F x)) := by
  obtain rfl := cB.1
  have hh := hB.1
  obtain ⟨t, ht⟩ := traj0 (fun b t => f0_booksBefore_l4 (nI h) bF (nI x) t (nI (fb_ct (fun b => decide (F b < x)) b)) (nI b)) h (by omega) (fun b t hb => by
    have h1 := s0_firstOf hB cB hb
    have h2 := (hB.2.1 b hb).2.2
    have h3 := fb_ct_le (fun b => decide (F b < x)) b
    rw [f0_booksBefore_l4, if_neg (nI_ge hb (by omega)), h1, bd1_s, fb_ct_succ]
    by_cases e : F b < x
    · rw [decide_eq_true e]
      simp (disch := omega) only [q_inb, q_isZ0, q_isZ1, q_leT, q_leF, q_ltT, q_ltF, q_eqT, q_eqF, nI_leI, nI_ltI, nI_eq, nI_add, pk_mul, q_sub, pk_sub, q_mod, pk_div, nI_clamp, q_not, q_m1, q_z1, q_n1lt, Nat.add_zero, Nat.zero_add, q_nT, q_nF, ↓reduceIte, bd0_s, bd1_s, bd2_s, bd3_s, bd4_s, bd5_s, bd6_s, bd7_s, bd8_s, bd9_s, lt_s_, qL0, qL1, qL2, qL3, qL4, qL5, qL6, qL7, qL8, qL9, qL10, qL11, qL12, qL13, qL14, qL15, qL16, qL17, qL21, qL25, qL26, qL31, qL33, qL40, qL43, qL45, qL48, qL49, qL57, qL58, qL59, qL60, qL61, qL65, qL90, qL97, qL98, qL99, qL118, qL119, qL126, qL240, qL261, qL501, qL999, qL1000, qL1002, qL2505, qL3006, qL999999, qL1000000]
    · rw [decide_eq_false e]
      simp (disch := omega) only [q_inb, q_isZ0, q_isZ1, q_leT, q_leF, q_ltT, q_ltF, q_eqT, q_eqF, nI_leI, nI_ltI, nI_eq, nI_add, pk_mul, q_sub, pk_sub, q_mod, pk_div, nI_clamp, q_not, q_m1, q_z1, q_n1lt, Nat.add_zero, Nat.zero_add, q_nT, q_nF, ↓reduceIte, bd0_s, bd1_s, bd2_s, bd3_s, bd4_s, bd5_s, bd6_s, bd7_s, bd8_s, bd9_s, lt_s_, qL0, qL1, qL2, qL3, qL4, qL5, qL6, qL7, qL8, qL9, qL10, qL11, qL12, qL13, qL14, qL15, qL16, qL17, qL21, qL25, qL26, qL31, qL33, qL40, qL43, qL45, qL48, qL49, qL57, qL58, qL59, qL60, qL61, qL65, qL90, qL97, qL98, qL99, qL118, qL119, qL126, qL240, qL261, qL501, qL999, qL1000, qL1002, qL2505, qL3006, qL999999, qL1000000]
      rfl)
  unfold f0_booksBefore
  refine Eq.trans ht ?_
  rw [f0_booksBefore_l4, if_pos (nI_le (Nat.le_refl h) (by omega))]
  rfl
theorem s0_bookOfRank {h : Nat} {F Z o : NF} {bh : Int32} {bF bZ : Nat → Int32} (hB : wB_ h F Z) (cB : cB_ h F Z bh bF bZ) (ho : isOrd h F o) {r : Nat} (hr : r < h) : f0_bookOfRank bh bF (nI r) = some (nI (o r)) := by
  have hh := hB.1
  have h0 := ho r hr
  have e := cB.1
  obtain ⟨t, ht⟩ := traj0 (fun b t => f0_bookOfRank_l2 bh bF (nI r) t (nI b)) (o r) (by omega) (fun b t hb => by
    have h1 := s0_firstOf hB cB (show b < h by omega)
    have h2 := (hB.2.1 b (by omega)).2.2
    have h3 := s0_booksBefore hB cB (x := F b) (by omega)
    have h4 := bb_ne hB (show b < h by omega) h0.1 (by omega)
    rw [h0.2] at h4
    have h5 := bb_h (F := F) (show b < h by omega)
    rw [f0_bookOfRank_l2, e, if_neg (nI_ge (show b < h by omega) (by omega)), h1, bd1_s, ← e, h3, bd1_s]
    simp (disch := omega) only [q_inb, q_isZ0, q_isZ1, q_leT, q_leF, q_ltT, q_ltF, q_eqT, q_eqF, nI_leI, nI_ltI, nI_eq, nI_add, pk_mul, q_sub, pk_sub, q_mod, pk_div, nI_clamp, q_not, q_m1, q_z1, q_n1lt, Nat.add_zero, Nat.zero_add, q_nT, q_nF, ↓reduceIte, bd0_s, bd1_s, bd2_s, bd3_s, bd4_s, bd5_s, bd6_s, bd7_s, bd8_s, bd9_s, lt_s_, qL0, qL1, qL2, qL3, qL4, qL5, qL6, qL7, qL8, qL9, qL10, qL11, qL12, qL13, qL14, qL15, qL16, qL17, qL21, qL25, qL26, qL31, qL33, qL40, qL43, qL45, qL48, qL49, qL57, qL58, qL59, qL60, qL61, qL65, qL90, qL97, qL98, qL99, qL118, qL119, qL126, qL240, qL261, qL501, qL999, qL1000, qL1002, qL2505, qL3006, qL999999, qL1000000])
  have h1 := s0_firstOf hB cB h0.1
  have h2 := (hB.2.1 (o r) h0.1).2.2
  have h3 := s0_booksBefore hB cB (x := F (o r)) (by omega)
  unfold f0_bookOfRank
  refine Eq.trans ht ?_
  rw [f0_bookOfRank_l2, e, if_neg (nI_ge h0.1 (by omega)), h1, bd1_s, ← e, h3, bd1_s, h0.2, if_pos rfl]
/-- s is in one of the first n books -/
def inS (F Z : NF) (s : Nat) : Nat → Bool
  | 0 => false
  | n + 1 => inS F Z s n || decide (F n ≤ s ∧ s < F n + Z n)
theorem inS_iff {F Z : NF} {s : Nat} : ∀ {n : Nat}, inS F Z s n = true ↔ ∃ b, inB n F Z s b
  | 0 => ⟨fun h => (by cases h), fun ⟨b, h⟩ => absurd h.1 (Nat.not_lt_zero b)⟩
  | n + 1 => by
    rw [inS, Bool.or_eq_true, inS_iff, decide_eq_true_eq]
    constructor
    · rintro (⟨b, h⟩ | h)
      · exact ⟨b, by have := h.1; omega, h.2⟩
      · exact ⟨n, by omega, h⟩
    · rintro ⟨b, h1, h2⟩
      by_cases e : b = n
      · subst e; exact Or.inr h2
      · exact Or.inl ⟨b, by omega, h2⟩
theorem inS_f {F Z : NF} {s n : Nat} (h : ¬ ∃ b, inB n F Z s b) : inS F Z s n = false := by
  cases hp : inS F Z s n
  · rfl
  · exact absurd (inS_iff.mp hp) h
/-- where the books of an order below r end -/
def en (F Z o : NF) (r : Nat) : Nat := if r = 0 then 0 else F (o (r - 1)) + Z (o (r - 1))
theorem en_gap {h : Nat} {F Z o : NF} (hB : wB_ h F Z) (ho : isOrd h F o) {r s : Nat} (hr : r ≤ h) (h1 : en F Z o r ≤ s) (h2 : r < h → s < F (o r)) : inS F Z s h = false := by
  refine inS_f fun ⟨b, hb⟩ => ?_
  obtain ⟨r', h3, rfl⟩ := ord_all hB ho hb.1
  obtain ⟨-, h4, h5⟩ := hb
  unfold en at h1
  by_cases q : r' < r
  · rw [if_neg (by omega)] at h1
    by_cases e : r' = r - 1
    · subst e; omega
    · have := ord_lt hB ho (show r' < r - 1 by omega) (by omega)
      have := (hB.2.1 _ (ho (r - 1) (by omega)).1).1
      omega
  · have h6 := h2 (by omega)
    by_cases e : r = r'
    · subst e; omega
    · have := ord_lt hB ho (show r < r' by omega) h3
      omega
theorem en_le {h : Nat} {F Z o : NF} (hB : wB_ h F Z) (ho : isOrd h F o) {r : Nat} (hr : r < h) : en F Z o r ≤ F (o r) := by
  unfold en
  by_cases e : r = 0
  · rw [if_pos e]; omega
  · rw [if_neg e]; exact ord_lt hB ho (by omega) hr
theorem en_B {h : Nat} {F Z o : NF} (hB : wB_ h F Z) (ho : isOrd h F o) {r : Nat} (hr : r ≤ h) : en F Z o r ≤ 1000000 := by
  unfold en
  by_cases e : r = 0
  · rw [if_pos e]; omega
  · rw [if_neg e]; exact (hB.2.1 _ (ho (r - 1) (by omega)).1).2.2
/-- how many serials in books stand below s -/
def rk (h : Nat) (F Z : NF) (s : Nat) : Nat := fb_ct (fun x => inS F Z x h) s
theorem rk_first {h : Nat} {F Z o : NF} (hB : wB_ h F Z) (ho : isOrd h F o) {r : Nat} (hr : r < h) : rk h F Z (F (o r)) = rk h F Z (en F Z o r) := ct_gap (en_le hB ho hr) fun _ h1 h2 => en_gap hB ho (by omega) h1 fun _ => h2
theorem rk_in {h : Nat} {F Z : NF} {b j : Nat} (hb : b < h) (hj : j ≤ Z b) : rk h F Z (F b + j) = rk h F Z (F b) + j := by
  have e : fb_ct (fun k => inS F Z (F b + k) h) j = j := fb_ct_all.mpr fun k hk => inS_iff.mpr ⟨b, hb, by omega, by omega⟩
  unfold rk
  rw [fb_ct_split, e]
theorem rk_en {h : Nat} {F Z o : NF} (hB : wB_ h F Z) (ho : isOrd h F o) {r : Nat} (hr : r < h) : rk h F Z (en F Z o (r + 1)) = rk h F Z (en F Z o r) + Z (o r) := by
  rw [← rk_first hB ho hr, ← rk_in (ho r hr).1 (Nat.le_refl _)]
  unfold en
  rw [if_neg (by omega), Nat.add_sub_cancel]
theorem rk_all {h : Nat} {F Z o : NF} (hB : wB_ h F Z) (ho : isOrd h F o) : rk h F Z 1000000 = rk h F Z (en F Z o h) := ct_gap (en_B hB ho (Nat.le_refl h)) fun _ h1 _ => en_gap hB ho (Nat.le_refl h) h1 fun q => absurd q (Nat.lt_irrefl h)
theorem rk_mono {h : Nat} {F Z : NF} {a b : Nat} (hab : a ≤ b) : rk h F Z a ≤ rk h F Z b := fb_ct_mono _ hab
theorem rk_le {h : Nat} {F Z o : NF} (hB : wB_ h F Z) (ho : isOrd h F o) : ∀ r, r ≤ h → rk h F Z (en F Z o r) ≤ 40 * r
  | 0, _ => by
    unfold en
    rw [if_pos rfl]
    exact Nat.le_refl 0
  | r + 1, hr => by
    have h1 := rk_le hB ho r (by omega)
    have h2 := (hB.2.1 _ (ho r (by omega)).1).2.1
    rw [rk_en hB ho (by omega)]
    omega
theorem rk_240 {h : Nat} {F Z : NF} (hB : wB_ h F Z) (s : Nat) (hs : s ≤ 1000000) : rk h F Z s ≤ 240 := by
  obtain ⟨o, ho⟩ := ord_ex hB
  have h1 := rk_le hB ho h (Nat.le_refl h)
  have h2 := rk_mono (h := h) (F := F) (Z := Z) hs
  have h3 := hB.1
  rw [rk_all hB ho] at h2
  omega
theorem s0_serialOfRank_t {h : Nat} {F Z : NF} {bh : Int32} {bF bZ : Nat → Int32} (hB : wB_ h F Z) (cB : cB_ h F Z bh bF bZ) {s b : Nat} (hin : inB h F Z s b) : f0_serialOfRank bh bF bZ (nI (rk h F Z s)) = some (nI s) := by
  obtain rfl := cB.1
  have hh := hB.1
  obtain ⟨o, ho⟩ := ord_ex hB
  have hs := inB_lt hB hin
  have h240 := rk_240 hB s (by omega)
  obtain ⟨r, hr, rfl⟩ := ord_all hB ho hin.1
  obtain ⟨h1, h2, h3⟩ := hin
  have e1 : rk h F Z s = rk h F Z (en F Z o r) + (s - F (o r)) := by
    rw [← rk_first hB ho hr, ← rk_in h1 (show s - F (o r) ≤ Z (o r) by omega), show F (o r) + (s - F (o r)) = s by omega]
  obtain ⟨t, ht⟩ := traj0 (fun i t => f0_serialOfRank_l4 (nI h) bF bZ t (nI (rk h F Z s - rk h F Z (en F Z o i))) (nI i)) r (by omega) (fun i t hi => by
    have k1 := s0_bookOfRank hB cB ho (show i < h by omega)
    have k2 := s0_sizeOf hB cB (ho i (by omega)).1
    have k3 := rk_en hB ho (show i < h by omega)
    have k4 : rk h F Z (en F Z o (i + 1)) ≤ rk h F Z (en F Z o r) := by
      by_cases e : i + 1 = r
      · rw [e]; exact Nat.le_refl _
      · rw [← rk_first hB ho hr]
        refine rk_mono ?_
        have := ord_lt hB ho (show i < r by omega) hr
        unfold en
        rw [if_neg (by omega), Nat.add_sub_cancel]
        exact this
    rw [f0_serialOfRank_l4, if_neg (nI_ge (show i < h by omega) (by omega)), k1, bd1_s, k2, bd1_s, k3]
    simp (disch := omega) only [q_inb, q_isZ0, q_isZ1, q_leT, q_leF, q_ltT, q_ltF, q_eqT, q_eqF, nI_leI, nI_ltI, nI_eq, nI_add, pk_mul, q_sub, pk_sub, q_mod, pk_div, nI_clamp, q_not, q_m1, q_z1, q_n1lt, Nat.add_zero, Nat.zero_add, q_nT, q_nF, ↓reduceIte, bd0_s, bd1_s, bd2_s, bd3_s, bd4_s, bd5_s, bd6_s, bd7_s, bd8_s, bd9_s, lt_s_, qL0, qL1, qL2, qL3, qL4, qL5, qL6, qL7, qL8, qL9, qL10, qL11, qL12, qL13, qL14, qL15, qL16, qL17, qL21, qL25, qL26, qL31, qL33, qL40, qL43, qL45, qL48, qL49, qL57, qL58, qL59, qL60, qL61, qL65, qL90, qL97, qL98, qL99, qL118, qL119, qL126, qL240, qL261, qL501, qL999, qL1000, qL1002, qL2505, qL3006, qL999999, qL1000000]
    rw [Nat.sub_sub])
  have k1 := s0_bookOfRank hB cB ho hr
  have k2 := s0_sizeOf hB cB h1
  have k3 := s0_firstOf hB cB h1
  have k4 := (hB.2.1 _ h1).2.1
  have e0 : rk h F Z (en F Z o 0) = 0 := rfl
  rw [e0, Nat.sub_zero, e1, Nat.add_sub_cancel_left] at ht
  unfold f0_serialOfRank
  rw [e1]
  refine Eq.trans ht ?_
  rw [f0_serialOfRank_l4, if_neg (nI_ge hr (by omega)), k1, bd1_s, k2, bd1_s, if_neg (nI_ge (by omega) (by omega)), k3, bd1_s, nI_add, show F (o r) + (s - F (o r)) = s by omega]
theorem s0_serialOfRank_f {h : Nat} {F Z : NF} {bh : Int32} {bF bZ : Nat → Int32} (hB : wB_ h F Z) (cB : cB_ h F Z bh bF bZ) {k : Nat} (hk : k < 2 ^ 31) (hk2 : rk h F Z 1000000 ≤ k) : f0_serialOfRank bh bF bZ (nI k) = some (-1) := by
  obtain rfl := cB.1
  have hh := hB.1
  obtain ⟨o, ho⟩ := ord_ex hB
  obtain ⟨t, ht⟩ := traj0 (fun i t => f0_serialOfRank_l4 (nI h) bF bZ t (nI (k - rk h F Z (en F Z o i))) (nI i)) h (by omega) (fun i t hi => by
    have k1 := s0_bookOfRank hB cB ho hi
    have k2 := s0_sizeOf hB cB (ho i hi).1
    have k3 := rk_en hB ho hi
    have k4 : rk h F Z (en F Z o (i + 1)) ≤ rk h F Z 1000000 := rk_mono (en_B hB ho (by omega))
    have k5 := (hB.2.1 _ (ho i hi).1).2.1
    rw [f0_serialOfRank_l4, if_neg (nI_ge hi (by omega)), k1, bd1_s, k2, bd1_s, k3]
    simp (disch := omega) only [q_inb, q_isZ0, q_isZ1, q_leT, q_leF, q_ltT, q_ltF, q_eqT, q_eqF, nI_leI, nI_ltI, nI_eq, nI_add, pk_mul, q_sub, pk_sub, q_mod, pk_div, nI_clamp, q_not, q_m1, q_z1, q_n1lt, Nat.add_zero, Nat.zero_add, q_nT, q_nF, ↓reduceIte, bd0_s, bd1_s, bd2_s, bd3_s, bd4_s, bd5_s, bd6_s, bd7_s, bd8_s, bd9_s, lt_s_, qL0, qL1, qL2, qL3, qL4, qL5, qL6, qL7, qL8, qL9, qL10, qL11, qL12, qL13, qL14, qL15, qL16, qL17, qL21, qL25, qL26, qL31, qL33, qL40, qL43, qL45, qL48, qL49, qL57, qL58, qL59, qL60, qL61, qL65, qL90, qL97, qL98, qL99, qL118, qL119, qL126, qL240, qL261, qL501, qL999, qL1000, qL1002, qL2505, qL3006, qL999999, qL1000000]
    rw [Nat.sub_sub])
  have e0 : rk h F Z (en F Z o 0) = 0 := rfl
  rw [e0, Nat.sub_zero] at ht
  unfold f0_serialOfRank
  refine Eq.trans ht ?_
  rw [f0_serialOfRank_l4, if_pos (nI_le (Nat.le_refl h) (by omega))]
