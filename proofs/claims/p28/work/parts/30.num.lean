
/-! ===== pure rows: numbers ===== -/
/-! ===== how many places have a property ===== -/
def fb_ct (p : Nat → Bool) : Nat → Nat
  | 0 => 0
  | n + 1 => fb_ct p n + (if p n then 1 else 0)
theorem fb_ct_succ (p : Nat → Bool) (n : Nat) : fb_ct p (n + 1) = fb_ct p n + (if p n then 1 else 0) := rfl
theorem fb_ct_le (p : Nat → Bool) : ∀ n, fb_ct p n ≤ n
  | 0 => Nat.le_refl _
  | n + 1 => by
    have h := fb_ct_le p n
    rw [fb_ct_succ]
    split <;> omega
theorem fb_ct_step (p : Nat → Bool) (m : Nat) : ∀ n, fb_ct p m ≤ fb_ct p (m + n)
  | 0 => Nat.le_refl _
  | n + 1 => by
    have h := fb_ct_step p m n
    show fb_ct p m ≤ fb_ct p (m + n + 1)
    rw [fb_ct_succ]
    omega
theorem fb_ct_mono (p : Nat → Bool) {m n : Nat} (h : m ≤ n) : fb_ct p m ≤ fb_ct p n := by
  have := fb_ct_step p m (n - m)
  rwa [Nat.add_sub_cancel' h] at this
theorem fb_ct_cong {p q : Nat → Bool} : ∀ {n : Nat}, (∀ k, k < n → p k = q k) → fb_ct p n = fb_ct q n
  | 0, _ => rfl
  | n + 1, h => by
    rw [fb_ct_succ, fb_ct_succ, fb_ct_cong (fun k hk => h k (by omega)), h n (by omega)]
/-- one place changed -/
theorem fb_ct_out (p : Nat → Bool) (b : Bool) {i n : Nat} (h : n ≤ i) : fb_ct (fun k => if k = i then b else p k) n = fb_ct p n :=
  fb_ct_cong fun k hk => if_neg (by omega)
theorem fb_ct_upd (p : Nat → Bool) (b : Bool) {i : Nat} : ∀ {n : Nat}, i < n → fb_ct (fun k => if k = i then b else p k) n + (if p i then 1 else 0) = fb_ct p n + (if b then 1 else 0)
  | 0, h => absurd h (Nat.not_lt_zero i)
  | n + 1, h => by
    rw [fb_ct_succ, fb_ct_succ]
    rcases Nat.lt_or_ge i n with q | q
    · have := fb_ct_upd p b q
      have e : (if n = i then b else p n) = p n := if_neg (by omega)
      rw [e]
      omega
    · have e : i = n := by omega
      subst e
      rw [fb_ct_out p b (Nat.le_refl _)]
      simp only [if_true]
      omega
theorem fb_ct_sub {p q : Nat → Bool} : ∀ {n : Nat}, (∀ k, k < n → p k = true → q k = true) → fb_ct p n ≤ fb_ct q n
  | 0, _ => Nat.le_refl _
  | n + 1, h => by
    have h1 := fb_ct_sub (n := n) (p := p) (q := q) (fun k hk => h k (by omega))
    have h2 := h n (by omega)
    rw [fb_ct_succ, fb_ct_succ]
    cases hp : p n <;> cases hq : q n <;> simp_all <;> omega
theorem fb_ct_or {p q : Nat → Bool} : ∀ {n : Nat}, (∀ k, k < n → ¬ (p k = true ∧ q k = true)) → fb_ct (fun k => p k || q k) n = fb_ct p n + fb_ct q n
  | 0, _ => rfl
  | n + 1, h => by
    have h1 := fb_ct_or (n := n) (p := p) (q := q) (fun k hk => h k (by omega))
    have h2 := h n (by omega)
    rw [fb_ct_succ, fb_ct_succ, fb_ct_succ, h1]
    cases hp : p n <;> cases hq : q n <;> simp_all <;> omega
theorem fb_ct_not (p : Nat → Bool) : ∀ n, fb_ct p n + fb_ct (fun k => !p k) n = n
  | 0 => rfl
  | n + 1 => by
    have h := fb_ct_not p n
    rw [fb_ct_succ, fb_ct_succ]
    cases p n <;> simp <;> omega
theorem fb_ct_split (p : Nat → Bool) (m : Nat) : ∀ n, fb_ct p (m + n) = fb_ct p m + fb_ct (fun k => p (m + k)) n
  | 0 => rfl
  | n + 1 => by
    have h := fb_ct_split p m n
    show fb_ct p (m + n + 1) = _
    rw [fb_ct_succ, fb_ct_succ, h, Nat.add_assoc]
theorem fb_ct_zero {p : Nat → Bool} : ∀ {n : Nat}, fb_ct p n = 0 ↔ ∀ k, k < n → p k = false
  | 0 => ⟨fun _ k hk => absurd hk (Nat.not_lt_zero k), fun _ => rfl⟩
  | n + 1 => by
    have h := fb_ct_zero (p := p) (n := n)
    rw [fb_ct_succ]
    constructor
    · intro e k hk
      have e1 : fb_ct p n = 0 := by omega
      rcases Nat.lt_or_ge k n with q | q
      · exact h.mp e1 k q
      · have ek : k = n := by omega
        subst ek
        cases hp : p k
        · rfl
        · simp [hp] at e
    · intro a
      rw [h.mpr (fun k hk => a k (by omega)), a n (by omega)]
      rfl
theorem fb_ct_pos {p : Nat → Bool} {n : Nat} : 0 < fb_ct p n ↔ ∃ k, k < n ∧ p k = true := by
  constructor
  · intro h
    refine Classical.byContradiction fun hx => ?_
    have := fb_ct_zero.mpr (fun k hk => by
      cases hp : p k
      · rfl
      · exact absurd ⟨k, hk, hp⟩ hx : ∀ k, k < n → p k = false)
    omega
  · rintro ⟨k, hk, hp⟩
    rcases Nat.eq_zero_or_pos (fb_ct p n) with e | e
    · have := fb_ct_zero.mp e k hk
      rw [this] at hp
      cases hp
    · exact e
theorem fb_ct_all {p : Nat → Bool} {n : Nat} : fb_ct p n = n ↔ ∀ k, k < n → p k = true := by
  have h := fb_ct_not p n
  constructor
  · intro e k hk
    have z : fb_ct (fun k => !p k) n = 0 := by omega
    have := fb_ct_zero.mp z k hk
    cases hp : p k
    · simp [hp] at this
    · rfl
  · intro a
    have z : fb_ct (fun k => !p k) n = 0 := fb_ct_zero.mpr (fun k hk => by simp [a k hk])
    omega
/-- the k-th place with the property -/
theorem fb_ct_kth {p : Nat → Bool} {k : Nat} : ∀ {n : Nat}, k < fb_ct p n → ∃ i, i < n ∧ p i = true ∧ fb_ct p i = k
  | 0, h => absurd h (Nat.not_lt_zero k)
  | n + 1, h => by
    rcases Nat.lt_or_ge k (fb_ct p n) with q | q
    · obtain ⟨i, h1, h2⟩ := fb_ct_kth q
      exact ⟨i, by omega, h2⟩
    · rw [fb_ct_succ] at h
      cases hp : p n
      · simp [hp] at h; omega
      · simp [hp] at h
        exact ⟨n, by omega, hp, by omega⟩
theorem fb_ct_kth_one {p : Nat → Bool} {i j : Nat} (hi : p i = true) (hj : p j = true) (e : fb_ct p i = fb_ct p j) : i = j := by
  have key : ∀ a b : Nat, a < b → p a = true → fb_ct p a < fb_ct p b := by
    intro a b hab ha
    have h := fb_ct_mono p (show a + 1 ≤ b from hab)
    rw [fb_ct_succ, ha] at h
    simp at h
    omega
  rcases Nat.lt_trichotomy i j with q | q | q
  · have := key i j q hi; omega
  · exact q
  · have := key j i q hj; omega
/-! ===== sums over a range: one place changed, parts, bounds ===== -/
def fb_sm (f : Nat → Nat) : Nat → Nat
  | 0 => 0
  | n + 1 => fb_sm f n + f n
theorem fb_sm_succ (f : Nat → Nat) (n : Nat) : fb_sm f (n + 1) = fb_sm f n + f n := rfl
theorem fb_sm_cong {f g : Nat → Nat} : ∀ {n : Nat}, (∀ k, k < n → f k = g k) → fb_sm f n = fb_sm g n
  | 0, _ => rfl
  | n + 1, h => by rw [fb_sm_succ, fb_sm_succ, fb_sm_cong (fun k hk => h k (by omega)), h n (by omega)]
theorem fb_sm_out (f : Nat → Nat) (v : Nat) {i n : Nat} (h : n ≤ i) : fb_sm (fun k => if k = i then v else f k) n = fb_sm f n :=
  fb_sm_cong fun k hk => if_neg (by omega)
theorem fb_sm_upd (f : Nat → Nat) (v : Nat) {i : Nat} : ∀ {n : Nat}, i < n → fb_sm (fun k => if k = i then v else f k) n + f i = fb_sm f n + v
  | 0, h => absurd h (Nat.not_lt_zero i)
  | n + 1, h => by
    rw [fb_sm_succ, fb_sm_succ]
    rcases Nat.lt_or_ge i n with q | q
    · have := fb_sm_upd f v q
      have e : (if n = i then v else f n) = f n := if_neg (by omega)
      rw [e]
      omega
    · have e : i = n := by omega
      subst e
      rw [fb_sm_out f v (Nat.le_refl _)]
      simp only [if_true]
      omega
theorem fb_sm_add (f g : Nat → Nat) : ∀ n, fb_sm (fun k => f k + g k) n = fb_sm f n + fb_sm g n
  | 0 => rfl
  | n + 1 => by
    have h := fb_sm_add f g n
    rw [fb_sm_succ, fb_sm_succ, fb_sm_succ, h]
    omega
theorem fb_sm_le {f g : Nat → Nat} : ∀ {n : Nat}, (∀ k, k < n → f k ≤ g k) → fb_sm f n ≤ fb_sm g n
  | 0, _ => Nat.le_refl _
  | n + 1, h => by
    have h1 := fb_sm_le (n := n) (f := f) (g := g) (fun k hk => h k (by omega))
    have h2 := h n (by omega)
    rw [fb_sm_succ, fb_sm_succ]
    omega
theorem fb_sm_const (c : Nat) : ∀ n, fb_sm (fun _ => c) n = n * c
  | 0 => by rw [Nat.zero_mul]; rfl
  | n + 1 => by rw [fb_sm_succ, fb_sm_const c n, Nat.succ_mul]
theorem fb_sm_bound {f : Nat → Nat} {c n : Nat} (h : ∀ k, k < n → f k ≤ c) : fb_sm f n ≤ n * c := by
  rw [← fb_sm_const c n]
  exact fb_sm_le h
theorem fb_sm_mono (f : Nat → Nat) (m : Nat) : ∀ n, fb_sm f m ≤ fb_sm f (m + n)
  | 0 => Nat.le_refl _
  | n + 1 => by
    have h := fb_sm_mono f m n
    show fb_sm f m ≤ fb_sm f (m + n + 1)
    rw [fb_sm_succ]
    omega
theorem fb_sm_part (f : Nat → Nat) {i n : Nat} (h : i < n) : fb_sm f i + f i ≤ fb_sm f n := by
  have := fb_sm_mono f (i + 1) (n - (i + 1))
  rw [fb_sm_succ, show i + 1 + (n - (i + 1)) = n by omega] at this
  exact this
theorem fb_sm_split (f : Nat → Nat) (m : Nat) : ∀ n, fb_sm f (m + n) = fb_sm f m + fb_sm (fun k => f (m + k)) n
  | 0 => rfl
  | n + 1 => by
    have h := fb_sm_split f m n
    show fb_sm f (m + n + 1) = _
    rw [fb_sm_succ, fb_sm_succ, h, Nat.add_assoc]
theorem fb_sm_zero {f : Nat → Nat} {n : Nat} (h : fb_sm f n = 0) : ∀ k, k < n → f k = 0 := fun k hk => by
  have := fb_sm_part f hk
  omega
/-! ===== the least, the first, the best so far; that there is one alone ===== -/
theorem fb_first {p : Nat → Prop} [DecidablePred p] : ∀ {n : Nat}, (∃ i, i < n ∧ p i) → ∃ i, i < n ∧ p i ∧ ∀ j, j < i → ¬ p j
  | 0, h => by obtain ⟨i, hi, -⟩ := h; exact absurd hi (Nat.not_lt_zero i)
  | n + 1, h => by
    by_cases q : ∃ i, i < n ∧ p i
    · obtain ⟨i, h1, h2⟩ := fb_first q
      exact ⟨i, by omega, h2⟩
    · obtain ⟨i, h1, h2⟩ := h
      have e : i = n := by
        rcases Nat.lt_or_ge i n with r | r
        · exact absurd ⟨i, r, h2⟩ q
        · omega
      subst e
      exact ⟨i, by omega, h2, fun j hj hp => q ⟨j, hj, hp⟩⟩
theorem fb_first_one {p : Nat → Prop} {i j : Nat} (hi : p i) (hi2 : ∀ k, k < i → ¬ p k) (hj : p j) (hj2 : ∀ k, k < j → ¬ p k) : i = j := by
  rcases Nat.lt_trichotomy i j with q | q | q
  · exact absurd hi (hj2 i q)
  · exact q
  · exact absurd hj (hi2 j q)
theorem fb_last {p : Nat → Prop} [DecidablePred p] : ∀ {n : Nat}, (∃ i, i < n ∧ p i) → ∃ i, i < n ∧ p i ∧ ∀ j, i < j → j < n → ¬ p j
  | 0, h => by obtain ⟨i, hi, -⟩ := h; exact absurd hi (Nat.not_lt_zero i)
  | n + 1, h => by
    by_cases q : p n
    · exact ⟨n, by omega, q, fun j h1 h2 => by omega⟩
    · obtain ⟨i, h1, h2⟩ := h
      have hi : i < n := by
        rcases Nat.lt_or_ge i n with r | r
        · exact r
        · have e : i = n := by omega
          subst e
          exact absurd h2 q
      obtain ⟨i2, a1, a2, a3⟩ := fb_last (n := n) ⟨i, hi, h2⟩
      refine ⟨i2, by omega, a2, fun j b1 b2 => ?_⟩
      rcases Nat.lt_or_ge j n with r | r
      · exact a3 j b1 r
      · have e : j = n := by omega
        subst e
        exact q
/-! ===== signed ints as whole numbers, within bounds ===== -/
theorem fb_rng (x : Int32) : -2147483648 ≤ x.toInt ∧ x.toInt < 2147483648 := by
  have h1 := Int32.le_toInt x
  have h2 := Int32.toInt_lt x
  omega
theorem fb_bmod {z : Int} (h1 : -2147483648 ≤ z) (h2 : z < 2147483648) : z.bmod (2 ^ 32) = z := by
  rw [Int.bmod_eq_of_le (by omega) (by omega)]
theorem fb_addI {x y : Int32} (h1 : -2147483648 ≤ x.toInt + y.toInt) (h2 : x.toInt + y.toInt < 2147483648) : (x + y).toInt = x.toInt + y.toInt := by
  rw [Int32.toInt_add, fb_bmod h1 h2]
theorem fb_subI {x y : Int32} (h1 : -2147483648 ≤ x.toInt - y.toInt) (h2 : x.toInt - y.toInt < 2147483648) : (x - y).toInt = x.toInt - y.toInt := by
  rw [Int32.toInt_sub, fb_bmod h1 h2]
theorem fb_mulI {x y : Int32} (h1 : -2147483648 ≤ x.toInt * y.toInt) (h2 : x.toInt * y.toInt < 2147483648) : (x * y).toInt = x.toInt * y.toInt := by
  rw [Int32.toInt_mul, fb_bmod h1 h2]
theorem fb_negI {x : Int32} (h : x.toInt ≠ -2147483648) : (-x).toInt = -x.toInt := by
  have := fb_rng x
  rw [Int32.toInt_neg, fb_bmod (by omega) (by omega)]
theorem qL0 : (0 : Int32) = nI 0 := rfl
theorem qL1 : (1 : Int32) = nI 1 := rfl
theorem qL2 : (2 : Int32) = nI 2 := rfl
theorem qL3 : (3 : Int32) = nI 3 := rfl
theorem qL4 : (4 : Int32) = nI 4 := rfl
theorem qL5 : (5 : Int32) = nI 5 := rfl
theorem qL6 : (6 : Int32) = nI 6 := rfl
theorem qL7 : (7 : Int32) = nI 7 := rfl
theorem qL8 : (8 : Int32) = nI 8 := rfl
theorem qL9 : (9 : Int32) = nI 9 := rfl
theorem qL10 : (10 : Int32) = nI 10 := rfl
theorem qL11 : (11 : Int32) = nI 11 := rfl
theorem qL12 : (12 : Int32) = nI 12 := rfl
theorem qL13 : (13 : Int32) = nI 13 := rfl
theorem qL14 : (14 : Int32) = nI 14 := rfl
theorem qL15 : (15 : Int32) = nI 15 := rfl
theorem qL16 : (16 : Int32) = nI 16 := rfl
theorem qL17 : (17 : Int32) = nI 17 := rfl
theorem qL21 : (21 : Int32) = nI 21 := rfl
theorem qL25 : (25 : Int32) = nI 25 := rfl
theorem qL26 : (26 : Int32) = nI 26 := rfl
theorem qL31 : (31 : Int32) = nI 31 := rfl
theorem qL33 : (33 : Int32) = nI 33 := rfl
theorem qL40 : (40 : Int32) = nI 40 := rfl
theorem qL43 : (43 : Int32) = nI 43 := rfl
theorem qL45 : (45 : Int32) = nI 45 := rfl
theorem qL48 : (48 : Int32) = nI 48 := rfl
theorem qL49 : (49 : Int32) = nI 49 := rfl
theorem qL57 : (57 : Int32) = nI 57 := rfl
theorem qL58 : (58 : Int32) = nI 58 := rfl
theorem qL59 : (59 : Int32) = nI 59 := rfl
theorem qL60 : (60 : Int32) = nI 60 := rfl
theorem qL61 : (61 : Int32) = nI 61 := rfl
theorem qL65 : (65 : Int32) = nI 65 := rfl
theorem qL90 : (90 : Int32) = nI 90 := rfl
theorem qL97 : (97 : Int32) = nI 97 := rfl
theorem qL98 : (98 : Int32) = nI 98 := rfl
theorem qL99 : (99 : Int32) = nI 99 := rfl
theorem qL118 : (118 : Int32) = nI 118 := rfl
theorem qL119 : (119 : Int32) = nI 119 := rfl
theorem qL126 : (126 : Int32) = nI 126 := rfl
theorem qL240 : (240 : Int32) = nI 240 := rfl
theorem qL261 : (261 : Int32) = nI 261 := rfl
theorem qL501 : (501 : Int32) = nI 501 := rfl
theorem qL999 : (999 : Int32) = nI 999 := rfl
theorem qL1000 : (1000 : Int32) = nI 1000 := rfl
theorem qL1002 : (1002 : Int32) = nI 1002 := rfl
theorem qL2505 : (2505 : Int32) = nI 2505 := rfl
theorem qL3006 : (3006 : Int32) = nI 3006 := rfl
theorem qL999999 : (999999 : Int32) = nI 999999 := rfl
theorem qL1000000 : (1000000 : Int32) = nI 1000000 := rfl
theorem bd0_s {γ : Type} (u : Unit) (f : Unit → Option γ) : bd0 (some u) f = f () := rfl
theorem bd1_s {α γ : Type} (a : α) (f : α → Option γ) : bd1 (some a) f = f a := rfl
theorem bd2_s {α β γ : Type} (a : α) (b : β) (f : α → β → Option γ) : bd2 (some (a, b)) f = f a b := rfl
theorem bd3_s {α β δ γ : Type} (a : α) (b : β) (d : δ) (f : α → β → δ → Option γ) : bd3 (some (a, b, d)) f = f a b d := rfl
theorem bd4_s {α β δ ε γ : Type} (a : α) (b : β) (d : δ) (e : ε) (f : α → β → δ → ε → Option γ) : bd4 (some (a, b, d, e)) f = f a b d e := rfl
theorem bd5_s {α β δ ε ζ γ : Type} (a : α) (b : β) (d : δ) (e : ε) (z : ζ) (f : α → β → δ → ε → ζ → Option γ) : bd5 (some (a, b, d, e, z)) f = f a b d e z := rfl
theorem bd6_s {α β δ ε ζ η γ : Type} (a : α) (b : β) (d : δ) (e : ε) (z : ζ) (i : η) (f : α → β → δ → ε → ζ → η → Option γ) : bd6 (some (a, b, d, e, z, i)) f = f a b d e z i := rfl
theorem bd7_s {α β δ ε ζ η θ γ : Type} (a : α) (b : β) (d : δ) (e : ε) (z : ζ) (i : η) (j : θ) (f : α → β → δ → ε → ζ → η → θ → Option γ) : bd7 (some (a, b, d, e, z, i, j)) f = f a b d e z i j := rfl
theorem bd8_s {α β δ ε ζ η θ κ γ : Type} (a : α) (b : β) (d : δ) (e : ε) (z : ζ) (i : η) (j : θ) (k : κ) (f : α → β → δ → ε → ζ → η → θ → κ → Option γ) : bd8 (some (a, b, d, e, z, i, j, k)) f = f a b d e z i j k := rfl
theorem bd9_s {α β δ ε ζ η θ κ ν γ : Type} (a : α) (b : β) (d : δ) (e : ε) (z : ζ) (i : η) (j : θ) (k : κ) (v : ν) (f : α → β → δ → ε → ζ → η → θ → κ → ν → Option γ) : bd9 (some (a, b, d, e, z, i, j, k, v)) f = f a b d e z i j k v := rfl
theorem lt_s_ {α β : Type} (a : α) (f : α → β) : lt_ a f = f a := rfl
theorem q_inb {a N : Nat} (h : a < N ∧ N < 2 ^ 31) : inb (nI a) N = True := eq_true (vp_in_nI h.1 h.2)
theorem q_isZ0 : isZ (nI 0) = True := eq_true (Or.inl rfl)
theorem q_isZ1 : isZ (nI 1) = True := eq_true (Or.inr rfl)
theorem q_leT {a b : Nat} (h : a ≤ b) : (a ≤ b) = True := eq_true h
theorem q_leF {a b : Nat} (h : ¬ a ≤ b) : (a ≤ b) = False := eq_false h
theorem q_ltT {a b : Nat} (h : a < b) : (a < b) = True := eq_true h
theorem q_ltF {a b : Nat} (h : ¬ a < b) : (a < b) = False := eq_false h
theorem q_eqT {a b : Nat} (h : a = b) : (a = b) = True := eq_true h
theorem q_eqF {a b : Nat} (h : ¬ a = b) : (a = b) = False := eq_false h
theorem q_not {n : Nat} (h : n < 2 ^ 31) : (nI n = (-nI 1)) = False := eq_false fun e => by
  have h1 := congrArg Int32.toInt e
  rw [nI_toInt h, show (-nI 1 : Int32).toInt = -1 from rfl] at h1
  omega
theorem q_m1 {a : Nat} (h : 1 ≤ a) : nI a + -nI 1 = nI (a - 1) := by
  obtain ⟨b, rfl⟩ : ∃ b, a = b + 1 := ⟨a - 1, by omega⟩
  exact pk_m1 b
theorem q_z1 : nI 0 + -nI 1 = -nI 1 := by decide
theorem q_n1lt : (-nI 1 < nI 0) = True := eq_true (by decide)
theorem q_nT : (¬ True) = False := by simp
theorem q_nF : (¬ False) = True := by simp
theorem q_mod (a d : Nat) : a - a / d * d = a % d := by
  have := Nat.div_add_mod a d
  rw [Nat.mul_comm] at this
  omega
theorem q_sub (a d : Nat) : nI a - nI (a / d * d) = nI (a % d) := by rw [pk_sub (Nat.div_mul_le_self a d), q_mod]
theorem q_nn (x : Int32) : x < 0 ∨ ∃ n : Nat, n < 2 ^ 31 ∧ x = nI n := by
  by_cases h : x < 0
  · exact Or.inl h
  · exact Or.inr (nI_of h)
theorem q_neg {x : Int32} (h : x < 0) {n : Nat} (hn : n < 2 ^ 31) : x < nI n := by
  rw [Int32.lt_iff_toInt_lt] at h ⊢
  rw [nI_toInt hn]
  have : (0 : Int32).toInt = 0 := rfl
  omega
/-- a run of places that each go on to the next one -/
theorem traj {β : Type} (G : Nat → Nat → β) (s : Nat) : ∀ (k : Nat) (_ : ∀ i t, s ≤ i → i < s + k → G i (t + 1) = G (i + 1) t) (t : Nat), G s (t + k) = G (s + k) t := by
  intro k
  induction k with
  | zero => intro _ t; rfl
  | succ k ih =>
    intro h t
    have h1 := ih (fun i t h2 h3 => h i t h2 (by omega)) (t + 1)
    rw [show t + (k + 1) = t + 1 + k by omega, h1, h (s + k) t (by omega) (by omega)]
    rfl
theorem trajf {β : Type} (G : Nat → Nat → β) (s k : Nat) (hk : k < 4000) (h : ∀ i t, s ≤ i → i < s + k → G i (t + 1) = G (i + 1) t) : ∃ t, G s fu = G (s + k) (t + 1) := by
  refine ⟨3999 - k, ?_⟩
  have := traj G s k h (3999 - k + 1)
  rw [show 3999 - k + 1 + k = fu by simp only [fu]; omega] at this
  exact this
theorem traj0 {β : Type} (G : Nat → Nat → β) (k : Nat) (hk : k < 4000) (h : ∀ i t, i < k → G i (t + 1) = G (i + 1) t) : ∃ t, G 0 fu = G k (t + 1) := by
  have := trajf G 0 k hk (fun i t _ h2 => h i t (by omega))
  rwa [Nat.zero_add] at this
theorem upd_eq (f : Nat → Int32) (k : Nat) (x : Int32) (j : Nat) : upd f k x j = if j = k then x else f j := by
  by_cases h : j = k
  · subst h; rw [pk_us, if_pos rfl]
  · rw [pk_un h, if_neg h]
/-- a bit as an int -/
def bI (c : Prop) [Decidable c] : Nat := if c then 1 else 0
theorem bI_t {c : Prop} [Decidable c] (h : c) : bI c = 1 := if_pos h
theorem bI_f {c : Prop} [Decidable c] (h : ¬ c) : bI c = 0 := if_neg h
theorem bI_le (c : Prop) [Decidable c] : bI c ≤ 1 := by unfold bI; split <;> omega
/-! ===== a bank in numbers ===== -/
abbrev NF : Type := Nat → Nat
/-- h books with firsts F and sizes Z; modulus m, weights W; kinds K, amounts M -/
def wW_ (m : Nat) (W : NF) : Prop := 7 ≤ m ∧ m ≤ 26 ∧ ∀ p, p < 6 → 1 ≤ W p ∧ W p ≤ 9
def wB_ (h : Nat) (F Z : NF) : Prop := h ≤ 6 ∧ (∀ b, b < h → 1 ≤ Z b ∧ Z b ≤ 40 ∧ F b + Z b ≤ 1000000) ∧ ∀ a b, a < h → b < h → a ≠ b → F a + Z a ≤ F b ∨ F b + Z b ≤ F a
def wK_ (h : Nat) (Z K M : NF) : Prop := ∀ b j, b < h → j < Z b → K (40 * b + j) ≤ 3 ∧ M (40 * b + j) ≤ 999 ∧ (K (40 * b + j) = 1 → 1 ≤ M (40 * b + j))
def cW_ (m : Nat) (W : NF) (wm : Int32) (wW : Nat → Int32) : Prop := wm = nI m ∧ ∀ p, p < 6 → wW p = nI (W p)
def cB_ (h : Nat) (F Z : NF) (bh : Int32) (bF bZ : Nat → Int32) : Prop := bh = nI h ∧ ∀ b, b < h → bF b = nI (F b) ∧ bZ b = nI (Z b)
def cK_ (h : Nat) (Z K M : NF) (bK bM : Nat → Int32) : Prop := ∀ b j, b < h → j < Z b → bK (40 * b + j) = nI (K (40 * b + j)) ∧ bM (40 * b + j) = nI (M (40 * b + j))
def mW_ (m : Nat) (W : NF) (g : Nat → Int32) : Prop := g 1 = nI m ∧ ∀ p, p < 6 → g (3 + p) = nI (W p)
def mB_ (h : Nat) (F Z : NF) (g : Nat → Int32) : Prop := g 0 = nI h ∧ ∀ b, b < h → g (9 + 2 * b) = nI (F b) ∧ g (9 + 2 * b + 1) = nI (Z b)
def mK_ (h : Nat) (Z K M : NF) (g : Nat → Int32) : Prop := ∀ b j, b < h → j < Z b → g (21 + (40 * b + j)) = nI (K (40 * b + j)) ∧ g (261 + (40 * b + j)) = nI (M (40 * b + j))
theorem e_m0 {h : Nat} {F Z : NF} {g : Nat → Int32} (H : mB_ h F Z g) : g (nI 0).toNatClampNeg = nI h := H.1
theorem e_m1 {m : Nat} {W : NF} {g : Nat → Int32} (H : mW_ m W g) : g (nI 1).toNatClampNeg = nI m := H.1
/-! ===== digits and letters ===== -/
def dg (s p : Nat) : Nat := s / 10 ^ (5 - p) % 10
theorem dg_le (s p : Nat) : dg s p ≤ 9 := by
  have := Nat.mod_lt (s / 10 ^ (5 - p)) (show 0 < 10 by decide)
  unfold dg
  omega
theorem s2_digitAt {s p : Nat} (hs : s < 1000000) (hp : p < 6) : f2_digitAt (nI s) (nI p) = some (nI (dg s p)) := by
  rcases (show p = 0 ∨ p = 1 ∨ p = 2 ∨ p = 3 ∨ p = 4 ∨ p = 5 by omega) with rfl | rfl | rfl | rfl | rfl | rfl <;>
    (simp (disch := omega) only [q_inb, q_isZ0, q_isZ1, q_leT, q_leF, q_ltT, q_ltF, q_eqT, q_eqF, nI_leI, nI_ltI, nI_eq, nI_add, pk_mul, q_sub, pk_sub, q_mod, pk_div, nI_clamp, q_not, q_m1, q_z1, q_n1lt, Nat.add_zero, Nat.zero_add, q_nT, q_nF, ↓reduceIte, bd0_s, bd1_s, bd2_s, bd3_s, bd4_s, bd5_s, bd6_s, bd7_s, bd8_s, bd9_s, lt_s_, qL0, qL1, qL2, qL3, qL4, qL5, qL6, qL7, qL8, qL9, qL10, qL11, qL12, qL13, qL14, qL15, qL16, qL17, qL21, qL25, qL26, qL31, qL33, qL40, qL43, qL45, qL48, qL49, qL57, qL58, qL59, qL60, qL61, qL65, qL90, qL97, qL98, qL99, qL118, qL119, qL126, qL240, qL261, qL501, qL999, qL1000, qL1002, qL2505, qL3006, qL999999, qL1000000, f2_digitAt, f2_digitAt_l4]
     simp only [dg, Nat.reduceSub, Nat.reducePow]
     try (congr 2; omega))
