
/-! ===== the law, reckoned over every script ===== -/
theorem part_ok (x : Int32) {n : Nat} (h0 : 0 < n) (h : n < 2 ^ 31) : ∃ r, r < n ∧ fL_part x (nI n) = some (nI r) := by
  obtain ⟨j, hj, e⟩ := pk_andE x (m := 2147483647) 31 rfl
  refine ⟨j % n, Nat.mod_lt _ h0, ?_⟩
  unfold fL_part
  have e2 : nI j - nI j / nI n * nI n = nI (j % n) := by simp (disch := omega) only [q_inb, q_isZ0, q_isZ1, q_leT, q_leF, q_ltT, q_ltF, q_eqT, q_eqF, nI_leI, nI_ltI, nI_eq, nI_add, pk_mul, q_sub, pk_sub, q_mod, pk_div, nI_clamp, q_not, q_m1, q_z1, q_n1lt, Nat.add_zero, Nat.zero_add, q_nT, q_nF, ↓reduceIte, bd0_s, bd1_s, bd2_s, bd3_s, bd4_s, bd5_s, bd6_s, bd7_s, bd8_s, bd9_s, lt_s_, qL0, qL1, qL2, qL3, qL4, qL5, qL6, qL7, qL8, qL9, qL10, qL11, qL12, qL13, qL14, qL15, qL16, qL17, qL21, qL25, qL26, qL31, qL33, qL40, qL43, qL45, qL48, qL49, qL57, qL58, qL59, qL60, qL61, qL65, qL90, qL97, qL98, qL99, qL118, qL119, qL126, qL240, qL261, qL501, qL999, qL1000, qL1002, qL2505, qL3006, qL999999, qL1000000]
  rw [if_pos (nI_ne0 h0 h), e, e2]
theorem drawn_ok {L k : Nat} (hL : L ≤ 260) (hk : k < 28) (xs : Nat → Int32) : ∃ r, fL_drawn L xs (nI k) = some r := by
  unfold fL_drawn
  by_cases h0 : L = 0
  · subst h0
    exact ⟨_, if_pos rfl⟩
  · have e : nI k - nI k / Int32.ofNat L * Int32.ofNat L = nI (k % L) := by
      show nI k - nI k / nI L * nI L = nI (k % L)
      simp (disch := omega) only [q_inb, q_isZ0, q_isZ1, q_leT, q_leF, q_ltT, q_ltF, q_eqT, q_eqF, nI_leI, nI_ltI, nI_eq, nI_add, pk_mul, q_sub, pk_sub, q_mod, pk_div, nI_clamp, q_not, q_m1, q_z1, q_n1lt, Nat.add_zero, Nat.zero_add, q_nT, q_nF, ↓reduceIte, bd0_s, bd1_s, bd2_s, bd3_s, bd4_s, bd5_s, bd6_s, bd7_s, bd8_s, bd9_s, lt_s_, qL0, qL1, qL2, qL3, qL4, qL5, qL6, qL7, qL8, qL9, qL10, qL11, qL12, qL13, qL14, qL15, qL16, qL17, qL21, qL25, qL26, qL31, qL33, qL40, qL43, qL45, qL48, qL49, qL57, qL58, qL59, qL60, qL61, qL65, qL90, qL97, qL98, qL99, qL118, qL119, qL126, qL240, qL261, qL501, qL999, qL1000, qL1002, qL2505, qL3006, qL999999, qL1000000]
    rw [if_neg (show ¬ Int32.ofNat L = 0 from nI_ne0 (by omega) (by omega)), e, if_pos (show inb (nI (k % L)) L from vp_in_nI (Nat.mod_lt _ (by omega)) (by omega))]
    exact ⟨_, rfl⟩
theorem save_is {d : Nat} (hd : d ≤ 6) {v : SV} {kV kV' : Nat → SV} {kd' : Int32} {b : Nat → SA} (h : f1_save (nI d) dA kV v.1 v.2.1 v.2.2.1 v.2.2.2.1 v.2.2.2.2.1 v.2.2.2.2.2.1 v.2.2.2.2.2.2.1 v.2.2.2.2.2.2.2 = some (kd', b, kV')) : (d < 6 ∧ kd' = nI (d + 1) ∧ kV' = va_up kV d v) ∨ (d = 6 ∧ kd' = nI 6 ∧ kV' = va_up (rotV kV) 5 v) := by
  unfold f1_save at h
  rcases (show d = 0 ∨ d = 1 ∨ d = 2 ∨ d = 3 ∨ d = 4 ∨ d = 5 ∨ d = 6 by omega) with rfl | rfl | rfl | rfl | rfl | rfl | rfl
  · rw [if_pos (by decide)] at h
    cases h
    exact Or.inl ⟨by decide, rfl, rfl⟩
  · rw [if_neg (by decide), if_pos (by decide)] at h
    cases h
    exact Or.inl ⟨by decide, rfl, rfl⟩
  · rw [if_neg (by decide), if_neg (by decide), if_pos (by decide)] at h
    cases h
    exact Or.inl ⟨by decide, rfl, rfl⟩
  · rw [if_neg (by decide), if_neg (by decide), if_neg (by decide), if_pos (by decide)] at h
    cases h
    exact Or.inl ⟨by decide, rfl, rfl⟩
  · rw [if_neg (by decide), if_neg (by decide), if_neg (by decide), if_neg (by decide), if_pos (by decide)] at h
    cases h
    exact Or.inl ⟨by decide, rfl, rfl⟩
  · rw [if_neg (by decide), if_neg (by decide), if_neg (by decide), if_neg (by decide), if_neg (by decide), if_pos (by decide)] at h
    cases h
    exact Or.inl ⟨by decide, rfl, rfl⟩
  · rw [if_neg (by decide), if_neg (by decide), if_neg (by decide), if_neg (by decide), if_neg (by decide), if_neg (by decide), if_pos (by decide)] at h
    cases h
    exact Or.inr ⟨rfl, rfl, rfl⟩
theorem undo_at {st : ST} {e : Nat} (h1 : 1 ≤ e) (h6 : e ≤ 6) (hkd : st.2.2.2.1 = nI e) : F_undo st = some (0, nI (e - 1), (st.2.2.2.2.2.2.1 (e - 1), st.2.1, st.2.2.1, nI (e - 1), st.2.2.2.2.1, st.2.2.2.2.2.1, st.2.2.2.2.2.2.1, st.2.2.2.2.2.2.2)) := by
  unfold F_undo f5_undo
  rw [hkd, if_pos (show (1 : Int32) ≤ nI e by rw [qL1, nI_leI (by decide) (by omega)]; exact h1)]
  rcases (show e = 1 ∨ e = 2 ∨ e = 3 ∨ e = 4 ∨ e = 5 ∨ e = 6 by omega) with rfl | rfl | rfl | rfl | rfl | rfl <;> rfl
theorem undo_no {st : ST} (hkd : st.2.2.2.1 = nI 0) (x y z : Int32) : FC_undo st x y z = some (-13, st) := by
  unfold FC_undo F_undo f5_undo
  rw [if_neg (by rw [hkd]; decide)]
  rfl
theorem goBack_at {st : ST} (hkd : st.2.2.2.1 = nI 0) (hkf : st.2.2.2.2.1 1 = 1) : F_goBack st (1 : Int32) = some (0, (st.2.2.2.2.2.2.2 1).2.2.2.1, (st.2.2.2.2.2.2.2 1, st.2.1, st.2.2.1, 1, st.2.2.2.2.1, st.2.2.2.2.2.1, va_up st.2.2.2.2.2.2.1 0 st.1, st.2.2.2.2.2.2.2)) := by
  have e1 : f1_isSlotFilled st.2.2.2.2.1 (1 : Int32) = some (nI 1) := by
    have e0 : st.2.2.2.2.1 1 = nI 1 := hkf
    simp (disch := omega) only [q_inb, q_isZ0, q_isZ1, q_leT, q_leF, q_ltT, q_ltF, q_eqT, q_eqF, nI_leI, nI_ltI, nI_eq, nI_add, pk_mul, q_sub, pk_sub, q_mod, pk_div, nI_clamp, q_not, q_m1, q_z1, q_n1lt, Nat.add_zero, Nat.zero_add, q_nT, q_nF, ↓reduceIte, bd0_s, bd1_s, bd2_s, bd3_s, bd4_s, bd5_s, bd6_s, bd7_s, bd8_s, bd9_s, lt_s_, qL0, qL1, qL2, qL3, qL4, qL5, qL6, qL7, qL8, qL9, qL10, qL11, qL12, qL13, qL14, qL15, qL16, qL17, qL21, qL25, qL26, qL31, qL33, qL40, qL43, qL45, qL48, qL49, qL57, qL58, qL59, qL60, qL61, qL65, qL90, qL97, qL98, qL99, qL118, qL119, qL126, qL240, qL261, qL501, qL999, qL1000, qL1002, qL2505, qL3006, qL999999, qL1000000, f1_isSlotFilled, e0]
  unfold F_goBack f5_goBack
  rw [show f5_throwIfNoSlot (1 : Int32) = some 0 from tt_in (Nat.le_refl 1), bd1_s, if_pos rfl, e1, bd1_s, if_neg (by decide), hkd]
  rfl
/-- what holds of a run behind its calls: the last six states are those that were seen -/
def LVr (K : SV) (st : ST) (a : Nat) (wq : Nat → Int64) : Prop := IV st ∧ st.2.1 = 0 ∧ st.2.2.2.2.1 1 = 1 ∧ st.2.2.2.2.2.2.2 1 = K ∧ st.2.2.2.1 = nI (min 6 (3 + a)) ∧ ∀ j, j < a → j < 6 → wq (a - 1 - j) = sn (st.2.2.2.2.2.2.1 (min 6 (3 + a) - 1 - j))
theorem updL_eq (f : Nat → Int64) (k : Nat) (x : Int64) (j : Nat) : vp_updL f k x j = if j = k then x else f j := rfl
theorem rotV_at (kV : Nat → SV) {i : Nat} (hi : i < 5) : rotV kV i = kV (i + 1) := by
  rcases (show i = 0 ∨ i = 1 ∨ i = 2 ∨ i = 3 ∨ i = 4 by omega) with rfl | rfl | rfl | rfl | rfl <;> rfl
theorem up_at (kV : Nat → SV) (k : Nat) (v : SV) : va_up kV k v k = v := if_pos rfl
theorem up_ne (kV : Nat → SV) {k j : Nat} (h : j ≠ k) (v : SV) : va_up kV k v j = kV j := if_neg h
theorem LVr_step {K : SV} {st st' : ST} {a : Nat} {wq : Nat → Int64} (h : LVr K st a wq) (hI : IV st') (hs : Sv st st') : LVr K st' (a + 1) (vp_updL wq a (sn st.1)) := by
  obtain ⟨-, h0, h1, h2, h3, h4⟩ := h
  obtain ⟨⟨b, q1⟩, q2, q3, q4⟩ := hs
  rw [h3] at q1
  have q5 := save_is (v := st.1) (Nat.min_le_left _ _) q1
  refine ⟨hI, by rw [q4]; exact h0, by rw [q2]; exact h1, by rw [q3]; exact h2, ?_, fun j hj1 hj2 => ?_⟩
  · rcases q5 with ⟨d1, d2, -⟩ | ⟨d1, d2, -⟩
    · rw [d2]; exact congrArg nI (by omega)
    · rw [d2]; exact congrArg nI (by omega)
  · rw [updL_eq, show a + 1 - 1 - j = a - j by omega]
    rcases q5 with ⟨d1, -, d3⟩ | ⟨d1, -, d3⟩
    · rw [d3]
      by_cases hj : j = 0
      · subst hj
        rw [if_pos (by omega), show min 6 (3 + (a + 1)) - 1 - 0 = min 6 (3 + a) by omega, up_at]
      · rw [if_neg (by omega), up_ne _ (by omega)]
        have := h4 (j - 1) (by omega) (by omega)
        rw [show a - 1 - (j - 1) = a - j by omega, show min 6 (3 + a) - 1 - (j - 1) = min 6 (3 + (a + 1)) - 1 - j by omega] at this
        exact this
    · rw [d3]
      by_cases hj : j = 0
      · subst hj
        rw [if_pos (by omega), show min 6 (3 + (a + 1)) - 1 - 0 = 5 by omega, up_at]
      · rw [if_neg (by omega), up_ne _ (by omega), rotV_at _ (by omega)]
        have := h4 (j - 1) (by omega) (by omega)
        rw [show a - 1 - (j - 1) = a - j by omega, show min 6 (3 + a) - 1 - (j - 1) = min 6 (3 + (a + 1)) - 1 - j + 1 by omega] at this
        exact this
theorem LVr_same {K : SV} {st : ST} {a : Nat} {wq : Nat → Int64} (h : LVr K st a wq) : LVr K st a (vp_updL wq a (sn st.1)) := by
  obtain ⟨hI, h0, h1, h2, h3, h4⟩ := h
  refine ⟨hI, h0, h1, h2, h3, fun j hj1 hj2 => ?_⟩
  rw [updL_eq, if_neg (by omega)]
  exact h4 j hj1 hj2
/-- the law's turn: one call drawn, what it threw looked at -/
theorem law_390 {K91 : Int32 → Int32 → ST → (Nat → Int64) → Option Int32} {L : Nat} {xs : Nat → Int32} {x4 : Int64} {K : SV} {st : ST} {a k : Nat} {wq : Nat → Int64} (ha : a ≤ k) (hk : k < 28) (h : LVr K st a wq) (hK : ∀ (a' : Nat) (st' : ST) (wq' : Nat → Int64), a' ≤ k + 1 → LVr K st' a' wq' → K91 (nI a') (nI (k + 1)) st' wq' = some 1)
    {X : Option (Int32 × ST)} (hA : Act X st) : bd2 X (fun q u => fL_law_j390 K91 L u (vp_updL wq a (sn st.1)) xs (nI a) x4 (nI k) st.2.2.2.1 q) = some 1 := by
  obtain ⟨r, st', hX, hr⟩ := hA
  have hI := h.1
  rw [hX, bd2_s, fL_law_j390]
  rcases hr with ⟨r1, rfl⟩ | ⟨r1, r2, r3⟩
  · rw [if_neg (Int32.not_le.mpr r1), fL_law_j404, if_neg (by decide), cnt10, bd2_s, if_pos rfl, if_pos rfl, seen_ok hI, bd1_s, if_pos (show inb (nI a) 64 from vp_in_nI (by omega) (by decide)), nI_clamp (by omega), updL_eq, if_pos rfl, lg_self, if_pos rfl, fL_law_j435, if_neg (by decide), fL_law_j446, qL0, qL1, nI_add, nI_add, Nat.add_zero]
    exact hK a _ _ (by omega) (LVr_same h)
  · rw [if_pos (Int32.not_lt.mp r1), fL_law_j404, if_pos rfl, fL_law_j435, if_pos rfl, fL_law_j446, qL1, nI_add, nI_add]
    exact hK (a + 1) _ _ (by omega) (LVr_step h r2 r3)
theorem law_208 {K91 : Int32 → Int32 → ST → (Nat → Int64) → Option Int32} {L : Nat} {xs : Nat → Int32} {x4 : Int64} {K : SV} {st : ST} {a k : Nat} {wq : Nat → Int64} (ha : a ≤ k) (hk : k < 28) (h : LVr K st a wq) (hK : ∀ (a' : Nat) (st' : ST) (wq' : Nat → Int64), a' ≤ k + 1 → LVr K st' a' wq' → K91 (nI a') (nI (k + 1)) st' wq' = some 1)
    (x7 x8 x10 x11 x12 s0 : Int32) : fL_law_j208 K91 L st (vp_updL wq a (sn st.1)) xs (nI a) x4 (nI k) x7 x8 st.2.2.2.1 x10 x11 x12 s0 = some 1 := by
  have hI := h.1
  rw [fL_law_j208]
  split
  · split
    · split
      · split
        · obtain ⟨r1, -, e1⟩ := part_ok (x7 >>> ((5 : Int32) &&& 31)) (n := 60) (by decide) (by decide)
          obtain ⟨r2, -, e2⟩ := part_ok (x7 >>> ((11 : Int32) &&& 31)) (n := 9) (by decide) (by decide)
          rw [show fL_part (x7 >>> ((5 : Int32) &&& 31)) (60 : Int32) = some (nI r1) from e1, bd1_s, show fL_part (x7 >>> ((11 : Int32) &&& 31)) (9 : Int32) = some (nI r2) from e2, bd1_s]
          exact law_390 ha hk h hK (A_book hI _ _ _)
        · split
          · split
            · obtain ⟨r1, -, e1⟩ := part_ok (x7 >>> ((5 : Int32) &&& 31)) (n := 30) (by decide) (by decide)
              rw [show fL_part (x7 >>> ((5 : Int32) &&& 31)) (30 : Int32) = some (nI r1) from e1, bd1_s]
              exact law_390 ha hk h hK (A_modulus hI _ _ _)
            · obtain ⟨r1, -, e1⟩ := part_ok (x7 >>> ((5 : Int32) &&& 31)) (n := 2) (by decide) (by decide)
              rw [show fL_part (x7 >>> ((5 : Int32) &&& 31)) (2 : Int32) = some (nI r1) from e1, bd1_s]
              exact law_390 ha hk h hK (A_goBack hI _ _ _)
          · obtain ⟨r1, -, e1⟩ := part_ok (x7 >>> ((5 : Int32) &&& 31)) (n := 7) (by decide) (by decide)
            obtain ⟨r2, -, e2⟩ := part_ok (x7 >>> ((9 : Int32) &&& 31)) (n := 11) (by decide) (by decide)
            rw [show fL_part (x7 >>> ((5 : Int32) &&& 31)) (7 : Int32) = some (nI r1) from e1, bd1_s, show fL_part (x7 >>> ((9 : Int32) &&& 31)) (11 : Int32) = some (nI r2) from e2, bd1_s]
            exact law_390 ha hk h hK (A_weight hI _ _ _)
      · obtain ⟨r1, -, e1⟩ := part_ok (x7 >>> ((9 : Int32) &&& 31)) (n := 17) (by decide) (by decide)
        rw [show fL_part (x7 >>> ((9 : Int32) &&& 31)) (17 : Int32) = some (nI r1) from e1, bd1_s]
        exact law_390 ha hk h hK (A_voidRun hI _ _ _)
    · exact law_390 ha hk h hK (A_cash hI _ _ _)
  · exact law_390 ha hk h hK (A_write hI _ _ _)
theorem letter_in {st : ST} (hI : IV st) {s : Nat} (hs : s < 1000000) : ∃ r, F_letter st (nI s) = some (0, r) := by
  obtain ⟨h, m, W, F, Z, K, M, d, hG, -⟩ := IV_get hI
  have l1 := s2_letterOf hG.1 hG.2.2.2.1 hs
  refine ⟨nI (ltr m W s), ?_⟩
  show f5_letter _ _ _ = _
  unfold f5_letter
  rw [ts_in (by omega), bd1_s, if_pos rfl, l1, bd1_s]
theorem law_175 {K91 : Int32 → Int32 → ST → (Nat → Int64) → Option Int32} {L : Nat} {xs : Nat → Int32} {x4 : Int64} {K : SV} {st : ST} {a k : Nat} {wq : Nat → Int64} (ha : a ≤ k) (hk : k < 28) (h : LVr K st a wq) (hK : ∀ (a' : Nat) (st' : ST) (wq' : Nat → Int64), a' ≤ k + 1 → LVr K st' a' wq' → K91 (nI a') (nI (k + 1)) st' wq' = some 1)
    (x7 x8 x11 s0 : Int32) {r10 : Nat} (h10 : r10 < 16) : fL_law_j175 K91 L st (vp_updL wq a (sn st.1)) xs (nI a) x4 (nI k) x7 x8 st.2.2.2.1 ((8 : Int32) + nI r10) x11 s0 = some 1 := by
  have hI := h.1
  obtain ⟨r1, -, e1⟩ := part_ok (x7 >>> ((9 : Int32) &&& 31)) (n := 3) (by decide) (by decide)
  rw [fL_law_j175, show fL_part (x7 >>> ((9 : Int32) &&& 31)) (3 : Int32) = some (nI r1) from e1, bd1_s]
  split
  · obtain ⟨r2, -, e2⟩ := part_ok (x7 >>> ((11 : Int32) &&& 31)) (n := 27) (by decide) (by decide)
    rw [show fL_part (x7 >>> ((11 : Int32) &&& 31)) (27 : Int32) = some (nI r2) from e2, bd1_s]
    exact law_208 ha hk h hK _ _ _ _ _ _
  · obtain ⟨r2, e2⟩ := letter_in hI (s := 8 + r10) (by omega)
    rw [show F_letter st ((8 : Int32) + nI r10) = some (0, r2) by rw [show (8 : Int32) = nI 8 from rfl, nI_add]; exact e2, bd2_s, if_pos rfl]
    exact law_208 ha hk h hK _ _ _ _ _ _
/-- the end: nothing left to undo, the snapshot brought back -/
theorem law_569 {L : Nat} {xs : Nat → Int32} {wq : Nat → Int64} {K : SV} {st : ST} (hI : IV st) (h1 : st.2.2.2.2.1 1 = 1) (h2 : st.2.2.2.2.2.2.2 1 = K) (h3 : K.2.2.2.1 = 1) (hkd : st.2.2.2.1 = nI 0) : fL_law_j569 L st wq xs (sn K) = some 1 := by
  have g := goBack_at hkd h1
  obtain ⟨k, r, st', g1, g2⟩ := IV_goBack hI (1 : Int32)
  rw [g] at g1
  cases g1
  have hs := seen_ok g2
  rw [h2] at g hs
  rw [fL_law_j569, undo_no hkd, bd2_s, if_pos rfl, g, bd3_s, if_pos rfl, h3, if_pos rfl, hs, bd1_s, lg_self, if_pos rfl, cnt10, bd2_s, if_pos rfl, if_pos rfl]
theorem law_538 {L : Nat} {xs : Nat → Int32} {wq : Nat → Int64} {K : SV} (h3 : K.2.2.2.1 = 1) : ∀ (n k e : Nat) (st : ST), k + n = 7 → 1 ≤ n → e + k ≤ 6 → IV st → st.2.2.2.2.1 1 = 1 → st.2.2.2.2.2.2.2 1 = K → st.2.2.2.1 = nI e → fL_law_l538 L xs (sn K) n (nI k) st wq = some 1 := by
  intro n
  induction n with
  | zero => intro k e st hk hn; omega
  | succ n ih =>
    intro k e st hk hn he hI h1 h2 hkd
    rw [fL_law_l538]
    by_cases h6 : k = 6
    · subst h6
      obtain rfl : e = 0 := by omega
      rw [if_pos (by decide)]
      exact law_569 hI h1 h2 h3 hkd
    · have c1 : ¬ (6 : Int32) ≤ nI k := by rw [show (6 : Int32) = nI 6 from rfl, nI_leI (by decide) (by omega)]; omega
      rw [if_neg c1, cnt10, bd2_s, if_pos rfl, hkd]
      by_cases h0 : e = 0
      · subst h0
        rw [if_pos (by decide)]
        exact law_569 hI h1 h2 h3 hkd
      · have g := undo_at (e := e) (by omega) (by omega) hkd
        obtain ⟨k', r, st', g1, g2⟩ := IV_undo hI
        rw [g] at g1
        cases g1
        rw [if_neg (show ¬ nI e ≤ (0 : Int32) from nI_ge (a := 0) (b := e) (by omega) (by omega)), g, bd3_s, if_pos rfl, if_pos (nI_pos' (by omega)), qL1, nI_add]
        exact ih (k + 1) (e - 1) _ (by omega) (by omega) (by omega) g2 h1 h2 rfl
theorem law_473 {L : Nat} {xs : Nat → Int32} {K : SV} (h3 : K.2.2.2.1 = 1) {a : Nat} (ha : a ≤ 28) {wq : Nat → Int64} : ∀ (n k : Nat) (st : ST), k + n = 30 → k ≤ a → k ≤ min 6 (3 + a) → IV st → st.2.2.2.2.1 1 = 1 → st.2.2.2.2.2.2.2 1 = K → st.2.2.2.1 = nI (min 6 (3 + a) - k) → wq (a - k) = sn st.1 → (∀ j, j < a → j < 6 → wq (a - 1 - j) = sn (st.2.2.2.2.2.2.1 (min 6 (3 + a) - 1 - j))) → fL_law_l473 L xs (nI a) (sn K) n (nI k) st wq = some 1 := by
  intro n
  induction n with
  | zero => intro k st hk hka hkd; omega
  | succ n ih =>
    intro k st hk hka hkd hI h1 h2 hd hw hj
    rw [fL_law_l473, cnt10, bd2_s, if_pos rfl, hd]
    by_cases h0 : min 6 (3 + a) - k = 0
    · rw [h0, if_pos (by decide)]
      rw [h0] at hd
      exact law_538 h3 7 0 0 st rfl (by decide) (by omega) hI h1 h2 hd
    · rw [if_neg (show ¬ nI (min 6 (3 + a) - k) ≤ (0 : Int32) from nI_ge (a := 0) (b := min 6 (3 + a) - k) (by omega) (by omega))]
      by_cases hak : k = a
      · subst hak
        rw [if_pos (nI_le (Nat.le_refl _) (by omega))]
        exact law_538 h3 7 0 _ st rfl (by decide) (by omega) hI h1 h2 hd
      · have g := undo_at (e := min 6 (3 + a) - k) (by omega) (by omega) hd
        obtain ⟨k', r, st', g1, g2⟩ := IV_undo hI
        rw [g] at g1
        cases g1
        have c1 : ¬ (5 : Int32) < nI k := by rw [show (5 : Int32) = nI 5 from rfl, nI_ltI (by decide) (by omega)]; omega
        rw [if_neg (nI_ge (by omega) (by omega)), bd2_s, if_pos rfl, if_neg c1, seen_ok hI, bd1_s, pk_sub hka, if_pos (show inb (nI (a - k)) 64 from vp_in_nI (by omega) (by decide)), nI_clamp (by omega), hw, lg_self, if_pos rfl, g, bd3_s, if_pos rfl, qL1, pk_sub (by omega), if_pos rfl, nI_add]
        refine ih (k + 1) _ (by omega) (by omega) (by omega) g2 h1 h2 (congrArg nI (by omega)) ?_ hj
        have := hj k (by omega) (by omega)
        rw [show a - (k + 1) = a - 1 - k by omega, show min 6 (3 + a) - k - 1 = min 6 (3 + a) - 1 - k by omega]
        exact this
theorem law_91 {L : Nat} (hL : L ≤ 260) (xs : Nat → Int32) {K : SV} (h3 : K.2.2.2.1 = 1) : ∀ (n k a : Nat) (st : ST) (wq : Nat → Int64), k + n = 30 → k ≤ 28 → a ≤ k → LVr K st a wq → fL_law_l91 L xs (sn K) n (nI a) (nI k) st wq = some 1 := by
  intro n
  induction n with
  | zero => intro k a st wq hk hk2; omega
  | succ n ih =>
    intro k a st wq hk hk2 ha h
    have hI := h.1
    rw [fL_law_l91]
    by_cases h28 : k = 28
    · subst h28
      rw [if_pos (by decide), seen_ok hI, bd1_s, if_pos (show inb (nI a) 64 from vp_in_nI (by omega) (by decide)), refused_ok hI h.2.1, bd2_s, if_neg (by decide), nI_clamp (by omega)]
      obtain ⟨-, h0, h1, h2, h4, h5⟩ := LVr_same h
      exact law_473 h3 ha 30 0 st rfl (Nat.zero_le _) (Nat.zero_le _) hI h1 h2 h4 (by rw [updL_eq]; exact if_pos rfl) h5
    · have c1 : ¬ (28 : Int32) ≤ nI k := by rw [show (28 : Int32) = nI 28 from rfl, nI_leI (by decide) (by omega)]; omega
      obtain ⟨x7, e7⟩ := drawn_ok hL (show k < 28 by omega) xs
      obtain ⟨r8, -, e8⟩ := part_ok x7 (n := 18) (by decide) (by decide)
      obtain ⟨r10, q10, e10⟩ := part_ok (x7 >>> ((5 : Int32) &&& 31)) (n := 16) (by decide) (by decide)
      obtain ⟨r11, -, e11⟩ := part_ok (x7 >>> ((9 : Int32) &&& 31)) (n := 1001) (by decide) (by decide)
      have hK : ∀ (a' : Nat) (st' : ST) (wq' : Nat → Int64), a' ≤ k + 1 → LVr K st' a' wq' → fL_law_l91 L xs (sn K) n (nI a') (nI (k + 1)) st' wq' = some 1 := fun a' st' wq' h1 h2 => ih (k + 1) a' st' wq' (by omega) (by omega) h1 h2
      rw [if_neg c1, e7, bd1_s, show fL_part x7 (18 : Int32) = some (nI r8) from e8, bd1_s, seen_ok hI, bd1_s, if_pos (show inb (nI a) 64 from vp_in_nI (by omega) (by decide)), cnt10, bd2_s, if_pos rfl, show fL_part (x7 >>> ((5 : Int32) &&& 31)) (16 : Int32) = some (nI r10) from e10, bd1_s, show fL_part (x7 >>> ((9 : Int32) &&& 31)) (1001 : Int32) = some (nI r11) from e11, bd1_s, nI_clamp (by omega)]
      split
      · rw [fL_law_j174]
        exact law_175 ha (by omega) h hK _ _ _ _ q10
      · split
        · rw [fL_law_j174]
          exact law_175 ha (by omega) h hK _ _ _ _ q10
        · exact law_175 ha (by omega) h hK _ _ _ _ q10
/-- the law's first four calls -/
def sA : ST := ((F_book st0 (10 : Int32) (6 : Int32)).getD (0, 0, st0)).2.2
def sB : ST := ((F_write sA (12 : Int32) (90 : Int32)).getD (0, 0, st0)).2.2
def sC : ST := ((F_cash sB (13 : Int32) (9 : Int32)).getD (0, 0, st0)).2.2
def sD : ST := ((F_keep sC (1 : Int32)).getD (0, 0, st0)).2.2
theorem get_of {x : Option (Nat × Int32 × ST)} {r : Int32} (h : x.map (fun z => (z.1, z.2.1)) = some (0, r)) : x = some (0, r, (x.getD (0, 0, st0)).2.2) := by
  cases x with
  | none => cases h
  | some z =>
    obtain ⟨k, q, s⟩ := z
    cases h
    rfl
set_option maxRecDepth 100000 in
theorem first_A : F_book st0 (10 : Int32) (6 : Int32) = some (0, 0, sA) := get_of (by decide +kernel)
set_option maxRecDepth 100000 in
theorem first_B : F_write sA (12 : Int32) (90 : Int32) = some (0, 6, sB) := get_of (by decide +kernel)
set_option maxRecDepth 100000 in
theorem first_C : F_cash sB (13 : Int32) (9 : Int32) = some (0, -1, sC) := get_of (by decide +kernel)
set_option maxRecDepth 100000 in
theorem first_D : F_keep sC (1 : Int32) = some (0, 1, sD) := get_of (by decide +kernel)
theorem IV_A : IV sA := by
  obtain ⟨k, r, st', h1, h2⟩ := IV_book IV_0 (10 : Int32) (6 : Int32)
  rw [first_A] at h1
  cases h1
  exact h2
theorem IV_B : IV sB := by
  obtain ⟨k, r, st', h1, h2⟩ := IV_write IV_A (12 : Int32) (90 : Int32)
  rw [first_B] at h1
  cases h1
  exact h2
theorem IV_C : IV sC := by
  obtain ⟨k, r, st', h1, h2⟩ := IV_cash IV_B (13 : Int32) (9 : Int32)
  rw [first_C] at h1
  cases h1
  exact h2
theorem IV_D : IV sD := by
  obtain ⟨k, r, st', h1, h2⟩ := IV_keep IV_C (1 : Int32)
  rw [first_D] at h1
  cases h1
  exact h2
set_option maxRecDepth 100000 in
theorem sD_now : sD.2.2.2.2.2.2.2 1 = sD.1 := by
  have h := first_D
  unfold F_keep f5_keep at h
  rw [show f5_throwIfNoSlot (1 : Int32) = some 0 from tt_in (Nat.le_refl 1), bd1_s, if_pos rfl, show f1_putIntoSlot sC.2.2.2.2.1 sC.2.2.2.2.2.2.2 sC.1.1 sC.1.2.1 sC.1.2.2.1 sC.1.2.2.2.1 sC.1.2.2.2.2.1 sC.1.2.2.2.2.2.1 sC.1.2.2.2.2.2.2.1 sC.1.2.2.2.2.2.2.2 (1 : Int32) = some (upd sC.2.2.2.2.1 1 1, va_up sC.2.2.2.2.2.2.2 1 sC.1) from rfl, bd2_s, bd4_s] at h
  have h2 := congrArg (fun z => (z.2.2 : ST)) (Option.some.inj h)
  dsimp only at h2
  rw [← h2]
  show va_up sC.2.2.2.2.2.2.2 1 sC.1 1 = sC.1
  exact up_at _ _ _
theorem law_pure {L : Nat} (hL : L ≤ 260) (xs : Nat → Int32) : fL_lawB L st0 (fun _ => 0) xs = some (1 : Int32) := by
  have h3 : sD.1.2.2.2.1 = 1 := by decide +kernel
  have h4 : LVr sD.1 sD 0 (fun _ => 0) := ⟨IV_D, by decide +kernel, by decide +kernel, sD_now, by decide +kernel, fun j hj => by omega⟩
  rw [fL_lawB, first_A, bd3_s, if_pos rfl, if_pos rfl, first_B, bd3_s, if_pos rfl, if_pos rfl, first_C, bd3_s, if_pos rfl, if_pos rfl, first_D, bd3_s, if_pos rfl, if_pos rfl, seen_ok IV_D, bd1_s]
  exact law_91 hL xs h3 30 0 0 sD _ rfl (by decide) (Nat.le_refl _) h4
