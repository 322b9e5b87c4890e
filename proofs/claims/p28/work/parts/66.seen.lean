
/-! ===== pure rows of the law: a state is sound; what is seen of it ===== -/
def Ok {α : Type} (Q : α → Prop) (x : Option α) : Prop := ∀ z, x = some z → Q z
section OkRows
variable {α β γ δ ε ζ η θ ι : Type} {Q : α → Prop}
theorem ok_ite {c : Prop} {d : Decidable c} {x y : Option α} (h1 : c → Ok Q x) (h2 : ¬ c → Ok Q y) : Ok Q (@ite _ c d x y) := by
  by_cases h : c
  · rw [if_pos h]; exact h1 h
  · rw [if_neg h]; exact h2 h
theorem ok_none : Ok Q none := fun z h => by cases h
theorem ok_some {z : α} (h : Q z) : Ok Q (some z) := fun w e => by
  cases e
  exact h
theorem ok_bd1 {x : Option β} {f : β → Option α} (h : ∀ a, Ok Q (f a)) : Ok Q (bd1 x f) := by
  cases x with
  | none => exact ok_none
  | some a => exact h a
theorem ok_bd2 {x : Option (β × γ)} {f : β → γ → Option α} (h : ∀ a b, Ok Q (f a b)) : Ok Q (bd2 x f) := by
  cases x with
  | none => exact ok_none
  | some a => exact h _ _
theorem ok_bd3 {x : Option (β × γ × δ)} {f : β → γ → δ → Option α} (h : ∀ a b c, Ok Q (f a b c)) : Ok Q (bd3 x f) := by
  cases x with
  | none => exact ok_none
  | some a => exact h _ _ _
theorem ok_bd4 {x : Option (β × γ × δ × ε)} {f : β → γ → δ → ε → Option α} (h : ∀ a b c d, Ok Q (f a b c d)) : Ok Q (bd4 x f) := by
  cases x with
  | none => exact ok_none
  | some a => exact h _ _ _ _
theorem ok_bd6 {x : Option (β × γ × δ × ε × ζ × η)} {f : β → γ → δ → ε → ζ → η → Option α} (h : ∀ a b c d e z, Ok Q (f a b c d e z)) : Ok Q (bd6 x f) := by
  cases x with
  | none => exact ok_none
  | some a => exact h _ _ _ _ _ _
theorem ok_bd8 {x : Option (β × γ × δ × ε × ζ × η × θ × ι)} {f : β → γ → δ → ε → ζ → η → θ → ι → Option α} (h : ∀ a b c d e z t i, Ok Q (f a b c d e z t i)) : Ok Q (bd8 x f) := by
  cases x with
  | none => exact ok_none
  | some a => exact h _ _ _ _ _ _ _ _
theorem ok_save {kd : Int32} {kA : Nat → SA} {kV : Nat → SV} {sr wm : Int32} {wW : Nat → Int32} {bh : Int32} {bF bZ bK bM : Nat → Int32} {f : Int32 → (Nat → SA) → (Nat → SV) → Option α} (h : ∀ a b c, f1_save kd kA kV sr wm wW bh bF bZ bK bM = some (a, b, c) → Ok Q (f a b c)) : Ok Q (bd3 (f1_save kd kA kV sr wm wW bh bF bZ bK bM) f) := by
  cases e : f1_save kd kA kV sr wm wW bh bF bZ bK bM with
  | none => exact ok_none
  | some z => exact h _ _ _ e
end OkRows
def IV (st : ST) : Prop := ∃ (mN mP : Nat → Int32) (ms : Int32) (mK mI mT : Nat → Int32) (ml : Int32), Inv st.1.1 st.1.2.1 st.1.2.2.1 st.1.2.2.2.1 st.1.2.2.2.2.1 st.1.2.2.2.2.2.1 st.1.2.2.2.2.2.2.1 st.1.2.2.2.2.2.2.2 st.2.1 st.2.2.1 st.2.2.2.1 st.2.2.2.2.1 st.2.2.2.2.2.2.1 st.2.2.2.2.2.2.2 mN mP ms mK mI mT ml
/-- what the letters and books of a state tell -/
def IG (v : SV) (h m : Nat) (W F Z K M : NF) : Prop := wW_ m W ∧ wB_ h F Z ∧ wK_ h Z K M ∧ cW_ m W v.2.1 v.2.2.1 ∧ cB_ h F Z v.2.2.2.1 v.2.2.2.2.1 v.2.2.2.2.2.1 ∧ cK_ h Z K M v.2.2.2.2.2.2.1 v.2.2.2.2.2.2.2
theorem IV_get {st : ST} (hI : IV st) : ∃ (h m : Nat) (W F Z K M : NF) (d : Nat), IG st.1 h m W F Z K M ∧ st.2.2.2.1 = nI d ∧ d ≤ 6 := by
  obtain ⟨mN, mP, ms, mK, mI, mT, ml, hb, ⟨d, hd, e1, -, -⟩, -⟩ := hI
  obtain ⟨h, m, W, F, Z, K, M, hW, hB, hK, cW, cB, cK, -⟩ := hb
  exact ⟨h, m, W, F, Z, K, M, d, ⟨hW, hB, hK, cW, cB, cK⟩, e1, hd⟩
theorem IV_0 : IV st0 := ⟨iN, i0, 0, i0, i0, i0, 0, Inv_new⟩
theorem cnt10 (st : ST) : F_count st (10 : Int32) = some (0, st.2.2.2.1) := rfl
theorem cnt0 (st : ST) : F_count st (0 : Int32) = some (0, st.1.2.2.2.1) := rfl
/-- what is seen of a state: of its letters, books and refusals alone -/
def sc (v : SV) : ST := (v, 0, i0, 0, i0, 0, fun _ => iV, fun _ => iV)
def sn (v : SV) : Int64 := (fL_seen (sc v)).getD 0
theorem cnt_sc (st : ST) {x : Int32} (h1 : ¬ x = 10) (h2 : ¬ x = 11) : F_count st x = F_count (sc st.1) x := by
  unfold F_count f5_count
  simp only [if_neg h1, if_neg h2]
  rfl
theorem seen_l101 (st : ST) : ∀ (n : Nat) (x1 : Int64) (x3 : Int32), fL_seen_l101 st n x1 x3 = fL_seen_l101 (sc st.1) n x1 x3 := by
  intro n
  induction n with
  | zero => intro x1 x3; rfl
  | succ n ih =>
    intro x1 x3
    rw [fL_seen_l101, fL_seen_l101, cnt_sc st (x := 1) (by decide) (by decide)]
    simp only [ih]
    rfl
theorem seen_l61 (st : ST) : ∀ (n : Nat) (x1 : Int64) (x3 : Int32), fL_seen_l61 st n x1 x3 = fL_seen_l61 (sc st.1) n x1 x3 := by
  intro n
  induction n with
  | zero => intro x1 x3; rfl
  | succ n ih =>
    intro x1 x3
    rw [fL_seen_l61, fL_seen_l61, cnt_sc st (x := 0) (by decide) (by decide)]
    simp only [ih, seen_l101 st]
    rfl
theorem seen_l34 (st : ST) : ∀ (n i : Nat) (x1 : Int64), i ≤ 6 → fL_seen_l34 st n x1 (nI (12 + i)) = fL_seen_l34 (sc st.1) n x1 (nI (12 + i)) := by
  intro n
  induction n with
  | zero => intro i x1 hi; rfl
  | succ n ih =>
    intro i x1 hi
    rw [fL_seen_l34, fL_seen_l34]
    by_cases h : i = 6
    · subst h
      rw [if_pos (by decide), if_pos (by decide), seen_l61 st]
    · have c1 : ¬ (18 : Int32) ≤ nI (12 + i) := by rw [show (18 : Int32) = nI 18 from rfl, nI_leI (by decide) (by omega)]; omega
      have c2 : ¬ nI (12 + i) = 10 := by rw [show (10 : Int32) = nI 10 from rfl, nI_eq (by omega) (by decide)]; omega
      have c3 : ¬ nI (12 + i) = 11 := by rw [show (11 : Int32) = nI 11 from rfl, nI_eq (by omega) (by decide)]; omega
      rw [if_neg c1, if_neg c1, cnt_sc st c2 c3]
      have e : nI (12 + i) + 1 = nI (12 + (i + 1)) := by rw [qL1, nI_add]; rfl
      simp only [e, ih (i + 1) _ (by omega)]
theorem seen_l6 (st : ST) : ∀ (n i : Nat) (x1 : Int64), i ≤ 10 → fL_seen_l6 st n x1 (nI i) = fL_seen_l6 (sc st.1) n x1 (nI i) := by
  intro n
  induction n with
  | zero => intro i x1 hi; rfl
  | succ n ih =>
    intro i x1 hi
    rw [fL_seen_l6, fL_seen_l6]
    by_cases h : i = 10
    · subst h
      rw [if_pos (by decide), if_pos (by decide)]
      exact seen_l34 st fu 0 x1 (Nat.zero_le _)
    · have c1 : ¬ (10 : Int32) ≤ nI i := by rw [show (10 : Int32) = nI 10 from rfl, nI_leI (by decide) (by omega)]; omega
      have c2 : ¬ nI i = 10 := by rw [show (10 : Int32) = nI 10 from rfl, nI_eq (by omega) (by decide)]; omega
      have c3 : ¬ nI i = 11 := by rw [show (11 : Int32) = nI 11 from rfl, nI_eq (by omega) (by decide)]; omega
      rw [if_neg c1, if_neg c1, cnt_sc st c2 c3]
      have e : nI i + 1 = nI (i + 1) := by rw [qL1, nI_add]
      simp only [e, ih (i + 1) _ (by omega)]
theorem seen_sc (st : ST) : fL_seen st = fL_seen (sc st.1) := seen_l6 st fu 0 642 (Nat.zero_le _)
/-- each of its calls answers -/
theorem cnt_in {st : ST} (hI : IV st) {w : Nat} (hw : w ≤ 17) : ∃ r, F_count st (nI w) = some (0, r) := by
  obtain ⟨mN, mP, ms, mK, mI, mT, ml, hI⟩ := hI
  obtain ⟨k, r, r6, z, h5, -, hk, -⟩ := T_count hI dA 0 (nI w)
  refine ⟨r, ?_⟩
  rcases hk with ⟨rfl, -⟩ | ⟨rfl, -⟩
  · exact h5
  · exfalso
    have c1 : ¬ nI w < 0 := nI_pos (by omega)
    have c2 : nI w ≤ (17 : Int32) := by rw [qL17]; exact nI_le hw (by decide)
    unfold f5_count at h5
    rw [if_neg c1, if_pos c2] at h5
    refine absurd ((?_ : Ok (fun z : Nat × Int32 => z.1 = 0) _) _ h5) (show ¬ (2 : Nat) = 0 by decide)
    repeat (first | (refine ok_bd1 (fun _ => ?_)) | (refine ok_ite (fun _ => ?_) (fun _ => ?_)) | exact ok_some rfl)
theorem bko_in {st : ST} {h m : Nat} {W F Z K M : NF} (hI : IV st) (hG : IG st.1 h m W F Z K M) {b w : Nat} (hb : b < h) (hw : w ≤ 8) : ∃ r, F_bookOf st (nI b) (nI w) = some (0, r) := by
  obtain ⟨hW, hB, hK, cW, cB, cK⟩ := hG
  have hh := hB.1
  obtain ⟨mN, mP, ms, mK, mI, mT, ml, hI⟩ := hI
  obtain ⟨k, r, r6, z, h5, -⟩ := T_bookOf hI dA 0 (nI b) (nI w)
  refine ⟨r, ?_⟩
  have c1 : ¬ nI b < 0 := nI_pos (by omega)
  have c2 : nI b < st.1.2.2.2.1 := by rw [cB.1]; exact nI_lt hb (by omega)
  have c3 : ¬ nI w < 0 := nI_pos (by omega)
  have c4 : nI w ≤ (8 : Int32) := by rw [qL8]; exact nI_le hw (by decide)
  show f5_bookOf _ _ _ _ _ _ _ = _
  have h6 := h5
  unfold f5_bookOf at h5
  rw [if_neg c1, if_pos c2, if_neg c3, if_pos c4] at h5
  obtain ⟨q, -, h5⟩ := bd1_at h5
  cases h5
  exact h6
theorem rank_in {st : ST} {h m : Nat} {W F Z K M : NF} (hG : IG st.1 h m W F Z K M) {i : Nat} (hi : i < rk h F Z 1000000) : ∃ s b, F_ranked st (nI i) = some (0, nI s) ∧ inB h F Z s b := by
  obtain ⟨hW, hB, hK, cW, cB, cK⟩ := hG
  have h240 := rk_240 (F := F) (Z := Z) hB 1000000 (Nat.le_refl _)
  obtain ⟨s, hs, h1, h2⟩ := fb_ct_kth hi
  have h2 : rk h F Z s = i := h2
  obtain ⟨b, hin⟩ := inS_iff.mp h1
  refine ⟨s, b, ?_, hin⟩
  have h3 := s0_serialOfRank_t hB cB hin
  rw [h2] at h3
  show f5_ranked _ _ _ _ = _
  unfold f5_ranked
  rw [if_pos (nI_pos' (by omega)), h3, bd1_s]
theorem chq_in {st : ST} {h m : Nat} {W F Z K M : NF} (hG : IG st.1 h m W F Z K M) {s b : Nat} (hin : inB h F Z s b) : (∃ r, F_cheque st (nI s) (0 : Int32) = some (0, r)) ∧ ∃ r, F_cheque st (nI s) (1 : Int32) = some (0, r) := by
  obtain ⟨hW, hB, hK, cW, cB, cK⟩ := hG
  obtain ⟨c1, c2, c3, c4⟩ := inB_cell hB hin
  have h4 := s0_cellOf_in hB cB hin
  have h6 := s0_kindAt hB cK c1 c2
  have h7 := s0_amountAt hB cK c1 c2
  have hn : ¬ nI (40 * b + (s - F b)) = (-1 : Int32) := by rw [qL1, q_not (by omega)]; exact id
  refine ⟨⟨nI (K (40 * b + (s - F b))), ?_⟩, ⟨nI (M (40 * b + (s - F b))), ?_⟩⟩
  · show f5_cheque _ _ _ _ _ _ _ = _
    unfold f5_cheque
    rw [h4, bd1_s, if_neg hn, if_pos rfl, h6, bd1_s]
  · show f5_cheque _ _ _ _ _ _ _ = _
    unfold f5_cheque
    rw [h4, bd1_s, if_neg hn, if_neg (by decide), if_pos rfl, h7, bd1_s]
/-- how many cheques there are: the number that is counted is the rank's bound -/
theorem cnt1 {st : ST} {h m : Nat} {W F Z K M : NF} (hG : IG st.1 h m W F Z K M) : F_count st (1 : Int32) = some (0, nI (fb_sm (nbv Z K M 1) h)) := by
  obtain ⟨hW, hB, hK, cW, cB, cK⟩ := hG
  have h1 := s0_numberOfAll hB hK cB cK (what := 1) (by decide) (by decide)
  show f5_count _ _ _ _ _ _ _ _ _ _ _ = _
  unfold f5_count
  rw [if_neg (by decide), if_pos (by decide), if_pos (by decide), if_neg (by decide), if_pos rfl, qL1, h1, bd1_s]
theorem ct_iv {a z N : Nat} (h : a + z ≤ N) : fb_ct (fun x => decide (a ≤ x ∧ x < a + z)) N = z := by
  obtain ⟨r, rfl⟩ := Nat.exists_eq_add_of_le h
  rw [fb_ct_split, fb_ct_split]
  have h1 : fb_ct (fun x => decide (a ≤ x ∧ x < a + z)) a = 0 := fb_ct_zero.mpr fun k hk => decide_eq_false (by omega)
  have h2 : fb_ct (fun k => decide (a ≤ a + k ∧ a + k < a + z)) z = z := fb_ct_all.mpr fun k hk => decide_eq_true (by omega)
  have h3 : fb_ct (fun k => decide (a ≤ a + z + k ∧ a + z + k < a + z)) r = 0 := fb_ct_zero.mpr fun k hk => decide_eq_false (by omega)
  rw [h1, h2, h3]
  omega
theorem rk_sum {h : Nat} {F Z : NF} (hB : wB_ h F Z) : ∀ n, n ≤ h → fb_ct (fun x => inS F Z x n) 1000000 = fb_sm Z n
  | 0, _ => fb_ct_zero.mpr fun _ _ => rfl
  | n + 1, hn => by
    have h1 := hB.2.1 n (by omega)
    have h2 : fb_ct (fun x => inS F Z x n || decide (F n ≤ x ∧ x < F n + Z n)) 1000000 = fb_ct (fun x => inS F Z x n) 1000000 + fb_ct (fun x => decide (F n ≤ x ∧ x < F n + Z n)) 1000000 := fb_ct_or (p := fun x => inS F Z x n) (q := fun x => decide (F n ≤ x ∧ x < F n + Z n)) fun k hk q => by
      obtain ⟨b, hb1, hb2, hb3⟩ := inS_iff.mp q.1
      have q2 := of_decide_eq_true q.2
      have := hB.2.2 b n (by omega) (by omega) (by omega)
      omega
    have h3 := rk_sum hB n (by omega)
    show fb_ct (fun x => inS F Z x n || decide (F n ≤ x ∧ x < F n + Z n)) 1000000 = fb_sm Z n + Z n
    rw [h2, h3, ct_iv h1.2.2]
theorem rk_cnt {h m : Nat} {W F Z K M : NF} {v : SV} (hG : IG v h m W F Z K M) : rk h F Z 1000000 = fb_sm (nbv Z K M 1) h := by
  have e : nbv Z K M 1 = Z := funext fun b => if_pos rfl
  rw [e]
  exact rk_sum hG.2.1 h (Nat.le_refl h)
theorem cnt1_le {h m : Nat} {W F Z K M : NF} {v : SV} (hG : IG v h m W F Z K M) : fb_sm (nbv Z K M 1) h ≤ 240 := by
  rw [← rk_cnt hG]
  exact rk_240 hG.2.1 1000000 (Nat.le_refl _)
theorem some_l101 {st : ST} {h m : Nat} {W F Z K M : NF} (hG : IG st.1 h m W F Z K M) : ∀ (n i : Nat) (x1 : Int64), i ≤ 20 → 20 - i < n → ∃ v, fL_seen_l101 st n x1 (nI i) = some v := by
  have hT := cnt1_le hG
  intro n
  induction n with
  | zero => intro i x1 hi hn; omega
  | succ n ih =>
    intro i x1 hi hn
    rw [fL_seen_l101, cnt1 hG, bd2_s, if_pos rfl]
    by_cases hc : fb_sm (nbv Z K M 1) h ≤ i
    · rw [if_pos (nI_le hc (by omega))]
      exact ⟨_, rfl⟩
    · rw [if_neg (nI_ge (by omega) (by omega))]
      by_cases h20 : i = 20
      · subst h20
        rw [if_pos (by decide)]
        exact ⟨_, rfl⟩
      · have c1 : ¬ (20 : Int32) ≤ nI i := by rw [show (20 : Int32) = nI 20 from rfl, nI_leI (by decide) (by omega)]; omega
        obtain ⟨s, b, r1, r2⟩ := rank_in hG (i := i) (by rw [rk_cnt hG]; omega)
        obtain ⟨⟨r, r3⟩, r', r4⟩ := chq_in hG r2
        rw [if_neg c1, r1, bd2_s, if_pos rfl, bd2_s, if_pos rfl, r3, bd2_s, if_pos rfl, bd2_s, if_pos rfl, r4, bd2_s, if_pos rfl, lt_s_, qL1, nI_add]
        exact ih (i + 1) _ (by omega) (by omega)
theorem some_l61 {st : ST} (hI : IV st) {h m : Nat} {W F Z K M : NF} (hG : IG st.1 h m W F Z K M) : ∀ (n i : Nat) (x1 : Int64), i ≤ 9 * h → 9 * h - i < n → ∃ v, fL_seen_l61 st n x1 (nI i) = some v := by
  have hh := hG.2.1.1
  have hbh : st.1.2.2.2.1 = nI h := hG.2.2.2.2.1.1
  intro n
  induction n with
  | zero => intro i x1 hi hn; omega
  | succ n ih =>
    intro i x1 hi hn
    have e9 : (9 : Int32) * nI h = nI (9 * h) := by rw [qL9, pk_mul]
    rw [fL_seen_l61, cnt0, bd2_s, if_pos rfl, hbh, e9]
    by_cases hc : i = 9 * h
    · rw [if_pos (nI_le (by omega) (by omega))]
      exact some_l101 hG fu 0 x1 (by omega) (by decide)
    · obtain ⟨r, hr⟩ := bko_in hI hG (b := i / 9) (w := i % 9) (by omega) (by omega)
      have e1 : nI i / (9 : Int32) = nI (i / 9) := by simp (disch := omega) only [q_inb, q_isZ0, q_isZ1, q_leT, q_leF, q_ltT, q_ltF, q_eqT, q_eqF, nI_leI, nI_ltI, nI_eq, nI_add, pk_mul, q_sub, pk_sub, q_mod, pk_div, nI_clamp, q_not, q_m1, q_z1, q_n1lt, Nat.add_zero, Nat.zero_add, q_nT, q_nF, ↓reduceIte, bd0_s, bd1_s, bd2_s, bd3_s, bd4_s, bd5_s, bd6_s, bd7_s, bd8_s, bd9_s, lt_s_, qL0, qL1, qL2, qL3, qL4, qL5, qL6, qL7, qL8, qL9, qL10, qL11, qL12, qL13, qL14, qL15, qL16, qL17, qL21, qL25, qL26, qL31, qL33, qL40, qL43, qL45, qL48, qL49, qL57, qL58, qL59, qL60, qL61, qL65, qL90, qL97, qL98, qL99, qL118, qL119, qL126, qL240, qL261, qL501, qL999, qL1000, qL1002, qL2505, qL3006, qL999999, qL1000000]
      have e2 : nI i - nI i / (9 : Int32) * (9 : Int32) = nI (i % 9) := by simp (disch := omega) only [q_inb, q_isZ0, q_isZ1, q_leT, q_leF, q_ltT, q_ltF, q_eqT, q_eqF, nI_leI, nI_ltI, nI_eq, nI_add, pk_mul, q_sub, pk_sub, q_mod, pk_div, nI_clamp, q_not, q_m1, q_z1, q_n1lt, Nat.add_zero, Nat.zero_add, q_nT, q_nF, ↓reduceIte, bd0_s, bd1_s, bd2_s, bd3_s, bd4_s, bd5_s, bd6_s, bd7_s, bd8_s, bd9_s, lt_s_, qL0, qL1, qL2, qL3, qL4, qL5, qL6, qL7, qL8, qL9, qL10, qL11, qL12, qL13, qL14, qL15, qL16, qL17, qL21, qL25, qL26, qL31, qL33, qL40, qL43, qL45, qL48, qL49, qL57, qL58, qL59, qL60, qL61, qL65, qL90, qL97, qL98, qL99, qL118, qL119, qL126, qL240, qL261, qL501, qL999, qL1000, qL1002, qL2505, qL3006, qL999999, qL1000000]
      rw [if_neg (nI_ge (by omega) (by omega)), e2, e1, hr, bd2_s, if_pos rfl, qL1, nI_add]
      exact ih (i + 1) _ (by omega) (by omega)
theorem some_l34 {st : ST} (hI : IV st) {h m : Nat} {W F Z K M : NF} (hG : IG st.1 h m W F Z K M) : ∀ (n i : Nat) (x1 : Int64), i ≤ 6 → 6 - i < n → ∃ v, fL_seen_l34 st n x1 (nI (12 + i)) = some v := by
  have hh := hG.2.1.1
  intro n
  induction n with
  | zero => intro i x1 hi hn; omega
  | succ n ih =>
    intro i x1 hi hn
    rw [fL_seen_l34]
    by_cases h6 : i = 6
    · subst h6
      rw [if_pos (by decide)]
      exact some_l61 hI hG fu 0 x1 (by omega) (by show 9 * h - 0 < 4000; omega)
    · have c1 : ¬ (18 : Int32) ≤ nI (12 + i) := by rw [show (18 : Int32) = nI 18 from rfl, nI_leI (by decide) (by omega)]; omega
      obtain ⟨r, hr⟩ := cnt_in hI (w := 12 + i) (by omega)
      rw [if_neg c1, hr, bd2_s, if_pos rfl, show nI (12 + i) + 1 = nI (12 + (i + 1)) by rw [qL1, nI_add]; rfl]
      exact ih (i + 1) _ (by omega) (by omega)
theorem some_l6 {st : ST} (hI : IV st) {h m : Nat} {W F Z K M : NF} (hG : IG st.1 h m W F Z K M) : ∀ (n i : Nat) (x1 : Int64), i ≤ 10 → 10 - i < n → ∃ v, fL_seen_l6 st n x1 (nI i) = some v := by
  intro n
  induction n with
  | zero => intro i x1 hi hn; omega
  | succ n ih =>
    intro i x1 hi hn
    rw [fL_seen_l6]
    by_cases h6 : i = 10
    · subst h6
      rw [if_pos (by decide)]
      exact some_l34 hI hG fu 0 x1 (by omega) (by decide)
    · have c1 : ¬ (10 : Int32) ≤ nI i := by rw [show (10 : Int32) = nI 10 from rfl, nI_leI (by decide) (by omega)]; omega
      obtain ⟨r, hr⟩ := cnt_in hI (w := i) (by omega)
      rw [if_neg c1, hr, bd2_s, if_pos rfl, qL1, nI_add]
      exact ih (i + 1) _ (by omega) (by omega)
theorem seen_ok {st : ST} (hI : IV st) : fL_seen st = some (sn st.1) := by
  obtain ⟨h, m, W, F, Z, K, M, d, hG, -⟩ := IV_get hI
  obtain ⟨v, hv⟩ := some_l6 hI hG fu 0 642 (Nat.zero_le _) (by decide)
  have h1 : fL_seen st = some v := hv
  have h2 : fL_seen (sc st.1) = some v := (seen_sc st).symm.trans h1
  rw [h1]
  unfold sn
  rw [h2]
  rfl
