
/-! ===== pure rows: the cheques that a reading can have meant ===== -/
/-- s is in a book and can have been read as r, l -/
def mq (h m : Nat) (W F Z : NF) (r l s : Nat) : Bool := inS F Z s h && decide (slv m W s r l ≠ -1)
theorem mq_in {h m : Nat} {W F Z : NF} {r l : Nat} (s : Nat) (hp : mq h m W F Z r l s = true) : inS F Z s h = true := (Bool.and_eq_true _ _ ▸ hp : _ ∧ _).1
theorem mq_of {h m : Nat} {W F Z : NF} {r l s : Nat} (hs : inS F Z s h = true) : mq h m W F Z r l s = decide (slv m W s r l ≠ -1) := by
  unfold mq
  rw [hs, Bool.true_and]
/-- which of them, or how many -/
def mres (P : Nat → Bool) (x : Int32) (r : Int32) : Prop := (x = -1 ∧ r = nI (fb_ct P 1000000)) ∨ (∃ k, k < 2 ^ 31 ∧ x = nI k ∧ ((∃ s, s < 1000000 ∧ P s = true ∧ fb_ct P s = k ∧ r = nI s) ∨ (fb_ct P 1000000 ≤ k ∧ r = -1)))
theorem mres_one {P : Nat → Bool} {x r r' : Int32} (h1 : mres P x r) (h2 : mres P x r') : r = r' := by
  have key : ∀ k, k < 2 ^ 31 → ¬ nI k = (-1 : Int32) := fun k hk q => by
    rw [show (-1 : Int32) = -nI 1 from rfl, q_not hk] at q
    exact q
  have lt : ∀ s, s < 1000000 → P s = true → fb_ct P s < fb_ct P 1000000 := fun s hs hp => by
    have h3 := fb_ct_mono P (show s + 1 ≤ 1000000 by omega)
    rw [fb_ct_succ, hp] at h3
    simp only [if_true] at h3
    omega
  rcases h1 with ⟨e1, f1⟩ | ⟨k, hk, e1, f1⟩
  · rcases h2 with ⟨e2, f2⟩ | ⟨k', hk', e2, f2⟩
    · rw [f1, f2]
    · exact absurd (e2.symm.trans e1) (key k' hk')
  · rcases h2 with ⟨e2, f2⟩ | ⟨k', hk', e2, f2⟩
    · exact absurd (e1.symm.trans e2) (key k hk)
    · have hkk : k = k' := (nI_eq hk hk').mp (e1.symm.trans e2)
      subst hkk
      rcases f1 with ⟨s, s1, s2, s3, s4⟩ | ⟨s1, s2⟩ <;> rcases f2 with ⟨s', s1', s2', s3', s4'⟩ | ⟨s1', s2'⟩
      · rw [s4, s4', fb_ct_kth_one s2 s2' (s3.trans s3'.symm)]
      · have := lt s s1 s2; omega
      · have := lt s' s1' s2'; omega
      · rw [s2, s2']
/-- where a walk over the serials below n stops: at none, or at the one of the rank x -/
theorem stop_case (P : Nat → Bool) (x : Int32) (hx : x = -1 ∨ ∃ k, k < 2 ^ 31 ∧ x = nI k) : (∃ s, s < 1000000 ∧ P s = true ∧ nI (fb_ct P s) = x ∧ mres P x (nI s) ∧ ∀ s', s' < s → P s' = true → ¬ nI (fb_ct P s') = x) ∨ ((∀ s, s < 1000000 → P s = true → ¬ nI (fb_ct P s) = x) ∧ mres P x (if x = -1 then nI (fb_ct P 1000000) else -1)) := by
  have hle : ∀ s, s ≤ 1000000 → fb_ct P s < 2 ^ 31 := fun s hs => Nat.lt_of_le_of_lt (fb_ct_le P s) (by omega)
  have key : ∀ k, k < 2 ^ 31 → ¬ nI k = (-1 : Int32) := fun k hk q => by
    rw [show (-1 : Int32) = -nI 1 from rfl, q_not hk] at q
    exact q
  rcases hx with rfl | ⟨k, hk, rfl⟩
  · refine Or.inr ⟨fun s hs _ => key _ (hle s (by omega)), Or.inl ⟨rfl, if_pos rfl⟩⟩
  · by_cases q : k < fb_ct P 1000000
    · obtain ⟨s, s1, s2, s3⟩ := fb_ct_kth q
      refine Or.inl ⟨s, s1, s2, by rw [s3], Or.inr ⟨k, hk, rfl, Or.inl ⟨s, s1, s2, s3, rfl⟩⟩, fun s' h1 h2 h3 => ?_⟩
      have h4 := (nI_eq (hle s' (by omega)) hk).mp h3
      have := fb_ct_kth_one h2 s2 (h4.trans s3.symm)
      omega
    · refine Or.inr ⟨fun s hs hp h3 => ?_, Or.inr ⟨k, hk, rfl, Or.inr ⟨by omega, if_neg (key k hk)⟩⟩⟩
      have h4 := (nI_eq (hle s (by omega)) hk).mp h3
      have h5 := fb_ct_mono P (show s + 1 ≤ 1000000 by omega)
      rw [fb_ct_succ, hp] at h5
      simp only [if_true] at h5
      omega
theorem s6_meantBy {h m : Nat} {W F Z : NF} {g : Nat → Int32} (hW : wW_ m W) (hB : wB_ h F Z) (mW : mW_ m W g) (mB : mB_ h F Z g) {r l : Nat} (hr : r < 1000000) (hl : l < 26) {x : Int32} (hx : x = -1 ∨ ∃ k, k < 2 ^ 31 ∧ x = nI k) : ∃ v, f6_meantBy g (nI r) (nI l) x = some v ∧ mres (mq h m W F Z r l) x v := by
  generalize hP : mq h m W F Z r l = P
  have hPi : ∀ s, P s = true → inS F Z s h = true := fun s hp => by rw [← hP] at hp; exact mq_in s hp
  have hPd : ∀ s, inS F Z s h = true → P s = decide (slv m W s r l ≠ -1) := fun s hs => by rw [← hP]; exact mq_of hs
  have h1 : f6_next g (-1) = some (eI (us h F Z 0)) := s6_next hB mB (n := 0) (Or.inl ⟨rfl, rfl⟩)
  have hc : ∀ i, fb_ct P (us h F Z i) < 2 ^ 31 := fun i => Nat.lt_of_le_of_lt (fb_ct_le P _) (by have := us_le h F Z i; omega)
  have hu0 := us_ct0 hB hPi
  have step : ∀ t i, us h F Z i < 1000000 → ¬ (P (us h F Z i) = true ∧ nI (fb_ct P (us h F Z i)) = x) → f6_meantBy_l10 g (nI r) (nI l) x (t + 1) (nI (fb_ct P (us h F Z i))) (eI (us h F Z i)) = f6_meantBy_l10 g (nI r) (nI l) x t (nI (fb_ct P (us h F Z (i + 1)))) (eI (us h F Z (i + 1))) := fun t i hi hno => by
    have k1 := us_is hi
    have k2 := s6_slipOf hW mW hi hr hl
    have k3 := s6_next_us hB mB hi
    have k4 := us_ct hB hPi hi
    have k5 := hPd _ k1
    rw [f6_meantBy_l10, eI_s hi, if_neg (by rw [qL1, q_not (by omega)]; exact id), k2, bd1_s, k4]
    by_cases c1 : slv m W (us h F Z i) r l = -1
    · rw [decide_eq_false (not_not_intro c1)] at k5
      rw [if_pos c1, k5]
      unfold f6_meantBy_j33 f6_meantBy_j49 f6_meantBy_j61
      rw [k3]
      simp (disch := omega) only [q_inb, q_isZ0, q_isZ1, q_leT, q_leF, q_ltT, q_ltF, q_eqT, q_eqF, nI_leI, nI_ltI, nI_eq, nI_add, pk_mul, q_sub, pk_sub, q_mod, pk_div, nI_clamp, q_not, q_m1, q_z1, q_n1lt, Nat.add_zero, Nat.zero_add, q_nT, q_nF, ↓reduceIte, bd0_s, bd1_s, bd2_s, bd3_s, bd4_s, bd5_s, bd6_s, bd7_s, bd8_s, bd9_s, lt_s_, qL0, qL1, qL2, qL3, qL4, qL5, qL6, qL7, qL8, qL9, qL10, qL11, qL12, qL13, qL14, qL15, qL16, qL17, qL21, qL25, qL26, qL31, qL33, qL40, qL43, qL45, qL48, qL49, qL57, qL58, qL59, qL60, qL61, qL65, qL90, qL97, qL98, qL99, qL118, qL119, qL126, qL240, qL261, qL501, qL999, qL1000, qL1002, qL2505, qL3006, qL999999, qL1000000]
      rfl
    · rw [decide_eq_true c1] at k5
      have k6 : ¬ nI (fb_ct P (us h F Z i)) = x := fun q => hno ⟨k5, q⟩
      rw [if_neg c1, k5]
      unfold f6_meantBy_j33 f6_meantBy_j49 f6_meantBy_j61
      rw [if_neg (by decide), if_neg k6, k3]
      simp (disch := omega) only [q_inb, q_isZ0, q_isZ1, q_leT, q_leF, q_ltT, q_ltF, q_eqT, q_eqF, nI_leI, nI_ltI, nI_eq, nI_add, pk_mul, q_sub, pk_sub, q_mod, pk_div, nI_clamp, q_not, q_m1, q_z1, q_n1lt, Nat.add_zero, Nat.zero_add, q_nT, q_nF, ↓reduceIte, bd0_s, bd1_s, bd2_s, bd3_s, bd4_s, bd5_s, bd6_s, bd7_s, bd8_s, bd9_s, lt_s_, qL0, qL1, qL2, qL3, qL4, qL5, qL6, qL7, qL8, qL9, qL10, qL11, qL12, qL13, qL14, qL15, qL16, qL17, qL21, qL25, qL26, qL31, qL33, qL40, qL43, qL45, qL48, qL49, qL57, qL58, qL59, qL60, qL61, qL65, qL90, qL97, qL98, qL99, qL118, qL119, qL126, qL240, qL261, qL501, qL999, qL1000, qL1002, qL2505, qL3006, qL999999, qL1000000]
  unfold f6_meantBy
  rw [h1, bd1_s]
  rcases stop_case P x hx with ⟨s, s1, s2, s3, s4, s5⟩ | ⟨s1, s2⟩
  · -- s is one of the row
    have hex : ∃ j, j < 241 ∧ s ≤ us h F Z j := ⟨240, by decide, by rw [us_end hB]; omega⟩
    obtain ⟨j, j1, j2, j3⟩ := fb_first hex
    have j4 : us h F Z j = s := by
      refine Nat.le_antisymm ?_ j2
      cases j with
      | zero => exact nx_low hB (hPi s s2) (Nat.zero_le s)
      | succ j =>
        have k1 := j3 j (by omega)
        rw [us_one (show us h F Z j < 1000000 by omega)]
        exact nx_low hB (hPi s s2) (by omega)
    obtain ⟨t, ht⟩ := traj0 (fun i t => f6_meantBy_l10 g (nI r) (nI l) x t (nI (fb_ct P (us h F Z i))) (eI (us h F Z i))) j (by omega) (fun i t hi => by
      have k1 := j3 i hi
      exact step t i (by omega) fun q => s5 _ (by omega) q.1 q.2)
    refine ⟨nI s, ?_, s4⟩
    rw [hu0] at ht
    refine Eq.trans ht ?_
    have k2 := s6_slipOf hW mW s1 hr hl
    have k5 := hPd s (hPi s s2)
    rw [s2] at k5
    have k6 := of_decide_eq_true k5.symm
    rw [f6_meantBy_l10, j4, eI_s s1, if_neg (by rw [qL1, q_not (by omega)]; exact id), k2, bd1_s, if_neg k6]
    unfold f6_meantBy_j33
    rw [if_neg (by decide), if_pos s3]
  · have hex : ∃ j, j < 241 ∧ us h F Z j = 1000000 := ⟨240, by decide, us_end hB⟩
    obtain ⟨j, j1, j2, j3⟩ := fb_first hex
    obtain ⟨t, ht⟩ := traj0 (fun i t => f6_meantBy_l10 g (nI r) (nI l) x t (nI (fb_ct P (us h F Z i))) (eI (us h F Z i))) j (by omega) (fun i t hi => by
      have k1 := j3 i hi
      have k2 := us_le h F Z i
      exact step t i (by omega) fun q => s1 _ (by omega) q.1 q.2)
    refine ⟨_, ?_, s2⟩
    rw [hu0] at ht
    refine Eq.trans ht ?_
    rw [f6_meantBy_l10, j2, eI_n, if_pos (show -nI 1 = (-1 : Int32) from rfl)]
theorem s4_meantCheques {h m : Nat} {W F Z : NF} {wm : Int32} {wW : Nat → Int32} {bh : Int32} {bF bZ : Nat → Int32} (hW : wW_ m W) (hB : wB_ h F Z) (cW : cW_ m W wm wW) (cB : cB_ h F Z bh bF bZ) {r l : Nat} (hr : r < 1000000) (hl : l < 26) {x : Int32} (hx : x = -1 ∨ ∃ k, k < 2 ^ 31 ∧ x = nI k) : ∃ v, f4_meantCheques wm wW bh bF bZ (nI r) (nI l) x = some v ∧ mres (mq h m W F Z r l) x v := by
  generalize hP : mq h m W F Z r l = P
  have hPi : ∀ s, P s = true → inS F Z s h = true := fun s hp => by rw [← hP] at hp; exact mq_in s hp
  have hPd : ∀ s, inS F Z s h = true → P s = decide (slv m W s r l ≠ -1) := fun s hs => by rw [← hP]; exact mq_of hs
  have hc : ∀ s, s ≤ 1000000 → fb_ct P s < 2 ^ 31 := fun s hs => Nat.lt_of_le_of_lt (fb_ct_le P _) (by omega)
  obtain rfl := cB.1
  have hh := hB.1
  obtain ⟨o, ho⟩ := ord_ex hB
  have gap : ∀ i, i < h → fb_ct P (F (o i)) = fb_ct P (en F Z o i) := fun i hi => ct_gap (en_le hB ho hi) fun s h1 h2 => by
    cases hp : P s
    · rfl
    · have := en_gap hB ho (show i ≤ h by omega) h1 fun _ => h2
      rw [hPi s hp] at this
      cases this
  -- one serial in a book
  have one : ∀ (k6 : Int32 → Int32 → Option Int32) (t i s : Nat), i < h → F (o i) ≤ s → s < F (o i) + Z (o i) → ¬ (P s = true ∧ nI (fb_ct P s) = x) → f4_meantCheques_l61 k6 wm wW (nI h) bF bZ (nI r) (nI l) x (nI i) (nI (F (o i) + Z (o i))) (t + 1) (nI (fb_ct P s)) (nI s) = f4_meantCheques_l61 k6 wm wW (nI h) bF bZ (nI r) (nI l) x (nI i) (nI (F (o i) + Z (o i))) t (nI (fb_ct P (s + 1))) (nI (s + 1)) := fun k6 t i s hi h1 h2 hno => by
    have k0 := (hB.2.1 _ (ho i hi).1).2.2
    have k2 := s2_slipKind hW cW (show s < 1000000 by omega) hr hl
    have k5 := hPd s (inS_iff.mpr ⟨o i, (ho i hi).1, h1, h2⟩)
    rw [f4_meantCheques_l61, if_neg (nI_ge h2 (by omega)), k2, bd1_s, fb_ct_succ]
    by_cases c1 : slv m W s r l = -1
    · rw [decide_eq_false (not_not_intro c1)] at k5
      rw [if_pos c1, k5, nI_1]
      rfl
    · rw [decide_eq_true c1] at k5
      have k6 : ¬ nI (fb_ct P s) = x := fun q => hno ⟨k5, q⟩
      rw [if_neg c1, if_neg k6, k5, nI_1, nI_1]
      rfl
  -- a book without a stop
  have book : ∀ t i, i < h → (∀ s, F (o i) ≤ s → s < F (o i) + Z (o i) → ¬ (P s = true ∧ nI (fb_ct P s) = x)) → f4_meantCheques_l6 wm wW (nI h) bF bZ (nI r) (nI l) x (t + 1) (nI (fb_ct P (en F Z o i))) (nI i) = f4_meantCheques_l6 wm wW (nI h) bF bZ (nI r) (nI l) x t (nI (fb_ct P (en F Z o (i + 1)))) (nI (i + 1)) := fun t i hi hno => by
    have k1 := s0_bookOfRank hB cB ho hi
    have k2 := s0_firstOf hB cB (ho i hi).1
    have k3 := s0_sizeOf hB cB (ho i hi).1
    have k4 := hB.2.1 _ (ho i hi).1
    rw [f4_meantCheques_l6, if_neg (nI_ge hi (by omega)), k1, bd1_s, k2, bd1_s, k3, bd1_s, bd1_s, nI_add]
    generalize f4_meantCheques_l6 wm wW (nI h) bF bZ (nI r) (nI l) x t = k6
    obtain ⟨t2, ht2⟩ := trajf (fun s t => f4_meantCheques_l61 k6 wm wW (nI h) bF bZ (nI r) (nI l) x (nI i) (nI (F (o i) + Z (o i))) t (nI (fb_ct P s)) (nI s)) (F (o i)) (Z (o i)) (by omega) (fun s t h1 h2 => one k6 t i s hi h1 h2 (hno s h1 h2))
    rw [gap i hi] at ht2
    refine Eq.trans ht2 ?_
    have e : en F Z o (i + 1) = F (o i) + Z (o i) := by
      unfold en
      rw [if_neg (by omega), Nat.add_sub_cancel]
    rw [f4_meantCheques_l61, if_pos (nI_le (Nat.le_refl _) (by omega)), nI_1, e]
  unfold f4_meantCheques
  rcases stop_case P x hx with ⟨s, s1, s2, s3, s4, s5⟩ | ⟨s1, s2⟩
  · obtain ⟨b, hb⟩ := inS_iff.mp (hPi s s2)
    obtain ⟨i, hi, rfl⟩ := ord_all hB ho hb.1
    obtain ⟨-, h1, h2⟩ := hb
    obtain ⟨t, ht⟩ := traj0 (fun i t => f4_meantCheques_l6 wm wW (nI h) bF bZ (nI r) (nI l) x t (nI (fb_ct P (en F Z o i))) (nI i)) i (by omega) (fun j t hj => book t j (by omega) fun s' h3 h4 q => by
      have := ord_lt hB ho hj hi
      exact s5 s' (by omega) q.1 q.2)
    refine ⟨nI s, ?_, s4⟩
    refine Eq.trans ht ?_
    have k1 := s0_bookOfRank hB cB ho hi
    have k2 := s0_firstOf hB cB (ho i hi).1
    have k3 := s0_sizeOf hB cB (ho i hi).1
    have k4 := hB.2.1 _ (ho i hi).1
    rw [f4_meantCheques_l6, if_neg (nI_ge hi (by omega)), k1, bd1_s, k2, bd1_s, k3, bd1_s, bd1_s, nI_add]
    generalize f4_meantCheques_l6 wm wW (nI h) bF bZ (nI r) (nI l) x t = k6
    obtain ⟨t2, ht2⟩ := trajf (fun s t => f4_meantCheques_l61 k6 wm wW (nI h) bF bZ (nI r) (nI l) x (nI i) (nI (F (o i) + Z (o i))) t (nI (fb_ct P s)) (nI s)) (F (o i)) (s - F (o i)) (by omega) (fun s' t h3 h4 => one k6 t i s' hi h3 (by omega) fun q => s5 s' (by omega) q.1 q.2)
    rw [gap i hi, show F (o i) + (s - F (o i)) = s by omega] at ht2
    refine Eq.trans ht2 ?_
    have k2 := s2_slipKind hW cW s1 hr hl
    have k5 := hPd s (hPi s s2)
    rw [s2] at k5
    have k7 := of_decide_eq_true k5.symm
    rw [f4_meantCheques_l61, if_neg (nI_ge h2 (by omega)), k2, bd1_s, if_neg k7, if_pos s3]
  · obtain ⟨t, ht⟩ := traj0 (fun i t => f4_meantCheques_l6 wm wW (nI h) bF bZ (nI r) (nI l) x t (nI (fb_ct P (en F Z o i))) (nI i)) h (by omega) (fun j t hj => book t j hj fun s' h3 h4 q => by
      have := (hB.2.1 _ (ho j hj).1).2.2
      exact s1 s' (by omega) q.1 q.2)
    refine ⟨_, ?_, s2⟩
    refine Eq.trans ht ?_
    have e : fb_ct P 1000000 = fb_ct P (en F Z o h) := ct_gap (en_B hB ho (Nat.le_refl h)) fun s h1 h2 => by
      cases hp : P s
      · rfl
      · have := en_gap hB ho (Nat.le_refl h) h1 fun q => absurd q (Nat.lt_irrefl h)
        rw [hPi s hp] at this
        cases this
    rw [f4_meantCheques_l6, if_pos (nI_le (Nat.le_refl h) (by omega)), e]
theorem op_meant {h m : Nat} {W F Z : NF} {wm : Int32} {wW : Nat → Int32} {bh : Int32} {bF bZ g : Nat → Int32} (hW : wW_ m W) (hB : wB_ h F Z) (cW : cW_ m W wm wW) (cB : cB_ h F Z bh bF bZ) (mW : mW_ m W g) (mB : mB_ h F Z g) {r l : Nat} (hr : r < 1000000) (hl : l < 26) {x : Int32} (hx : x = -1 ∨ ∃ k, k < 2 ^ 31 ∧ x = nI k) : ∃ v, f4_meantCheques wm wW bh bF bZ (nI r) (nI l) x = some v ∧ f6_meantBy g (nI r) (nI l) x = some v := by
  obtain ⟨v, h1, h2⟩ := s4_meantCheques hW hB cW cB hr hl hx
  obtain ⟨v', h3, h4⟩ := s6_meantBy hW hB mW mB hr hl hx
  rw [mres_one h4 h2] at h3
  exact ⟨v, h1, h3⟩
