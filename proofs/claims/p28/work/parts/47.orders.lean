
/-! ===== pure rows: an order, read twice ===== -/
/-- the q-th order stands from s up to e, and is told so in D -/
def ordOK (oS : Nat → Int32) (n : Nat) (T : NF) (D : Nat → Int32) (q s e : Nat) : Prop :=
  s + 8 ≤ e ∧ e ≤ n ∧ ∃ a b, a < 1000000 ∧ D (3 * q) = nI (T s) ∧ D (3 * q + 1) = nI a ∧ D (3 * q + 2) = nI b ∧ f3_numberIn (nI n) oS (nI (s + 1)) (nI (s + 7)) = some (nI a) ∧
    ((T s = 98 ∧ 1 ≤ b ∧ b ≤ 40 ∧ f3_numberIn (nI n) oS (nI (s + 8)) (nI e) = some (nI b)) ∨ (T s = 119 ∧ 1 ≤ b ∧ b ≤ 999 ∧ f3_numberIn (nI n) oS (nI (s + 8)) (nI e) = some (nI b)) ∨
     (T s = 118 ∧ b < 1000000 ∧ f3_numberIn (nI n) oS (nI (s + 8)) (nI e) = some (nI b)) ∨ (T s = 99 ∧ b < 26 ∧ e = s + 8 ∧ T (s + 7) = b + 65 ∧ f3_numberIn (nI n) oS (nI (s + 8)) (nI e) = some (nI 0)))
/-- what is known where the reference has gone through an order from s, to e -/
def ordW (oS mT : Nat → Int32) (n : Nat) (T : NF) (D : Nat → Int32) (q s : Nat) (ok e : Nat) (D' : Nat → Int32) : Prop :=
  ok ≤ 1 ∧ f6_isOrder (nI n) (nI s) (nI q) mT D = some (nI ok, nI e, D') ∧ s ≤ e ∧ e ≤ n ∧ (∀ a, s ≤ a → a < e → T a ≠ 59 ∧ f3_fits (nI n) oS (nI s) (nI a) = some (nI 1)) ∧ (e < n → (ok = 0 ∨ T e ≠ 59) → f3_fits (nI n) oS (nI s) (nI e) = some (nI 0)) ∧ (ok = 0 → s = n ∨ ¬ whl (T s) (e - s)) ∧ (ok = 1 → s < n ∧ whl (T s) (e - s) ∧ ordOK oS n T D' q s e) ∧ ∀ j, j < 3 * q → D' j = D j
theorem lt_split {s d a : Nat} {P : Nat → Prop} (h0 : P s) (h : ∀ i, i < d → P (s + 1 + i)) (h1 : s ≤ a) (h2 : a < s + 1 + d) : P a := by
  by_cases q : a = s
  · subst q; exact h0
  · have := h (a - (s + 1)) (by omega)
    rwa [show s + 1 + (a - (s + 1)) = a by omega] at this
theorem order_walk {n : Nat} {T : NF} {oS mT : Nat → Int32} (H : cT_ n T oS) (G : cT_ n T mT) {s q : Nat} (hs : s ≤ n) (hq : q ≤ 6) (D : Nat → Int32) : ∃ ok e D', ordW oS mT n T D q s ok e D' := by
  have hn := H.1
  by_cases c0 : s < n ∧ ltrs (T s)
  rotate_left
  · -- no order begins here
    have c1 : s = n ∨ ¬ ltrs (T s) := by
      by_cases z : s < n
      · exact Or.inr fun w => c0 ⟨z, w⟩
      · exact Or.inl (by omega)
    refine ⟨0, s, D, by omega, ?_, Nat.le_refl s, hs, fun a h1 h2 => by omega, fun h1 _ => s3_fits0_f H h1 (c1.resolve_left (by omega)), fun _ => ?_, fun z => by omega, fun _ _ => rfl⟩
    · have h1 := s6_sees_f G hs (lo := 98) (hi := 99) (by decide) (by decide) (by unfold ltrs at c1; omega)
      have h2 := s6_sees_f G hs (lo := 118) (hi := 119) (by decide) (by decide) (by unfold ltrs at c1; omega)
      simp (disch := omega) only [q_inb, q_isZ0, q_isZ1, q_leT, q_leF, q_ltT, q_ltF, q_eqT, q_eqF, nI_leI, nI_ltI, nI_eq, nI_add, pk_mul, q_sub, pk_sub, q_mod, pk_div, nI_clamp, q_not, q_m1, q_z1, q_n1lt, Nat.add_zero, Nat.zero_add, q_nT, q_nF, ↓reduceIte, bd0_s, bd1_s, bd2_s, bd3_s, bd4_s, bd5_s, bd6_s, bd7_s, bd8_s, bd9_s, lt_s_, qL0, qL1, qL2, qL3, qL4, qL5, qL6, qL7, qL8, qL9, qL10, qL11, qL12, qL13, qL14, qL15, qL16, qL17, qL21, qL25, qL26, qL31, qL33, qL40, qL43, qL45, qL48, qL49, qL57, qL58, qL59, qL60, qL61, qL65, qL90, qL97, qL98, qL99, qL118, qL119, qL126, qL240, qL261, qL501, qL999, qL1000, qL1002, qL2505, qL3006, qL999999, qL1000000, f6_isOrder, h1, h2]
    · rcases c1 with z | z
      · exact Or.inl z
      · exact Or.inr (by unfold whl; unfold ltrs at z; omega)
  · obtain ⟨c1, c2⟩ := c0
    have ts := G.2 s c1
    have fit0 := s3_fits0_t H c1 c2
    have no59 : T s ≠ 59 := by unfold ltrs at c2; omega
    have e0 : f6_isOrder (nI n) (nI s) (nI q) mT D = f6_isOrder_j24 (nI n) (nI s) (nI q) mT D := by
      by_cases z : 98 ≤ T s ∧ T s ≤ 99
      · have h1 := s6_sees_t G c1 (lo := 98) (hi := 99) (by decide) z
        simp (disch := omega) only [q_inb, q_isZ0, q_isZ1, q_leT, q_leF, q_ltT, q_ltF, q_eqT, q_eqF, nI_leI, nI_ltI, nI_eq, nI_add, pk_mul, q_sub, pk_sub, q_mod, pk_div, nI_clamp, q_not, q_m1, q_z1, q_n1lt, Nat.add_zero, Nat.zero_add, q_nT, q_nF, ↓reduceIte, bd0_s, bd1_s, bd2_s, bd3_s, bd4_s, bd5_s, bd6_s, bd7_s, bd8_s, bd9_s, lt_s_, qL0, qL1, qL2, qL3, qL4, qL5, qL6, qL7, qL8, qL9, qL10, qL11, qL12, qL13, qL14, qL15, qL16, qL17, qL21, qL25, qL26, qL31, qL33, qL40, qL43, qL45, qL48, qL49, qL57, qL58, qL59, qL60, qL61, qL65, qL90, qL97, qL98, qL99, qL118, qL119, qL126, qL240, qL261, qL501, qL999, qL1000, qL1002, qL2505, qL3006, qL999999, qL1000000, f6_isOrder, h1]
      · have h1 := s6_sees_f G hs (lo := 98) (hi := 99) (by decide) (by decide) (Or.inr z)
        have h2 := s6_sees_t G c1 (lo := 118) (hi := 119) (by decide) (by unfold ltrs at c2; omega)
        simp (disch := omega) only [q_inb, q_isZ0, q_isZ1, q_leT, q_leF, q_ltT, q_ltF, q_eqT, q_eqF, nI_leI, nI_ltI, nI_eq, nI_add, pk_mul, q_sub, pk_sub, q_mod, pk_div, nI_clamp, q_not, q_m1, q_z1, q_n1lt, Nat.add_zero, Nat.zero_add, q_nT, q_nF, ↓reduceIte, bd0_s, bd1_s, bd2_s, bd3_s, bd4_s, bd5_s, bd6_s, bd7_s, bd8_s, bd9_s, lt_s_, qL0, qL1, qL2, qL3, qL4, qL5, qL6, qL7, qL8, qL9, qL10, qL11, qL12, qL13, qL14, qL15, qL16, qL17, qL21, qL25, qL26, qL31, qL33, qL40, qL43, qL45, qL48, qL49, qL57, qL58, qL59, qL60, qL61, qL65, qL90, qL97, qL98, qL99, qL118, qL119, qL126, qL240, qL261, qL501, qL999, qL1000, qL1002, qL2505, qL3006, qL999999, qL1000000, f6_isOrder, h1, h2]
    have out : ∀ (D1 : Nat → Int32) (k : Nat) (x : Int32), 3 * q ≤ k → (∀ j, j < 3 * q → D1 j = D j) → ∀ j, j < 3 * q → upd D1 k x j = D j := fun D1 k x hk h j hj => by rw [pk_un (by omega)]; exact h j hj
    have d0 : ∀ j, j < 3 * q → upd D (3 * q) (nI (T s)) j = D j := out D (3 * q) _ (Nat.le_refl _) fun _ _ => rfl
    have six_fits : ∀ d, d ≤ 6 → s + 1 + d ≤ n → (∀ i, i < d → dgt (T (s + 1 + i))) → ∀ a, s ≤ a → a < s + 1 + d → T a ≠ 59 ∧ f3_fits (nI n) oS (nI s) (nI a) = some (nI 1) := fun d hd hdn hdd a h1 h2 =>
      lt_split (P := fun a => T a ≠ 59 ∧ f3_fits (nI n) oS (nI s) (nI a) = some (nI 1)) ⟨no59, fit0⟩ (fun i hi => ⟨by have := hdd i hi; unfold dgt at this; omega, s3_fits6_t H (by omega) (by omega) (hdd i hi)⟩) h1 h2
    rcases six_case G (p := s + 1) (u := q) (pl := 1) (by omega) (by omega) (upd D (3 * q) (nI (T s))) with ⟨h1, h2, h3⟩ | ⟨d, d1, d2, d3, d4, h3⟩
    rotate_left
    · -- the six digits end too early
      refine ⟨0, s + 1 + d, upd D (3 * q) (nI (T s)), by omega, ?_, by omega, d2, six_fits d (by omega) d2 d3, fun h4 _ => s3_fits6_f H h4 (by omega) (d4.resolve_left (by omega)), fun _ => Or.inr (by unfold whl; omega), fun z => by omega, d0⟩
      rw [e0]
      simp (disch := omega) only [q_inb, q_isZ0, q_isZ1, q_leT, q_leF, q_ltT, q_ltF, q_eqT, q_eqF, nI_leI, nI_ltI, nI_eq, nI_add, pk_mul, q_sub, pk_sub, q_mod, pk_div, nI_clamp, q_not, q_m1, q_z1, q_n1lt, Nat.add_zero, Nat.zero_add, q_nT, q_nF, ↓reduceIte, bd0_s, bd1_s, bd2_s, bd3_s, bd4_s, bd5_s, bd6_s, bd7_s, bd8_s, bd9_s, lt_s_, qL0, qL1, qL2, qL3, qL4, qL5, qL6, qL7, qL8, qL9, qL10, qL11, qL12, qL13, qL14, qL15, qL16, qL17, qL21, qL25, qL26, qL31, qL33, qL40, qL43, qL45, qL48, qL49, qL57, qL58, qL59, qL60, qL61, qL65, qL90, qL97, qL98, qL99, qL118, qL119, qL126, qL240, qL261, qL501, qL999, qL1000, qL1002, qL2505, qL3006, qL999999, qL1000000, f6_isOrder_j24, ts.1, h3]
    · rw [show s + 1 + 6 = s + 7 by omega] at h3
      have h1' : s + 7 ≤ n := by omega
      have fit7 : ∀ a, s ≤ a → a < s + 7 → T a ≠ 59 ∧ f3_fits (nI n) oS (nI s) (nI a) = some (nI 1) := fun a h4 h5 => six_fits 6 (Nat.le_refl 6) h1 h2 a h4 (by omega)
      have hnum := s3_numberIn H (a := s + 1) (k := 6) (by decide) h1 h2
      rw [show s + 1 + 6 = s + 7 by omega] at hnum
      have hnumv : vl T (s + 1) 6 < 1000000 := vl_lt h2
      -- D as it stands behind the six digits
      have t0 : ∀ D2 : Nat → Int32, (∀ j, j < 3 * q + 2 → D2 j = upd (upd D (3 * q) (nI (T s))) (3 * q + 1) (nI (vl T (s + 1) 6)) j) → D2 (3 * q) = nI (T s) ∧ D2 (3 * q + 1) = nI (vl T (s + 1) 6) ∧ ∀ j, j < 3 * q → D2 j = D j := fun D2 hD => by
        refine ⟨?_, ?_, fun j hj => ?_⟩
        · rw [hD _ (by omega), pk_un (by omega), pk_us]
        · rw [hD _ (by omega), pk_us]
        · rw [hD _ (by omega), pk_un (by omega)]; exact d0 j hj
      generalize hD1 : upd (upd D (3 * q) (nI (T s))) (3 * q + 1) (nI (vl T (s + 1) 6)) = D1 at h3 t0
      obtain ⟨-, -, t3⟩ := t0 D1 fun _ _ => rfl
      have hl := c2
      unfold ltrs at hl
      by_cases hh : s + 7 < n ∧ hdd (T s) (T (s + 7))
      rotate_left
      · -- the sign behind the digits isn't right
        have hh' : s + 7 = n ∨ ¬ hdd (T s) (T (s + 7)) := by
          by_cases z : s + 7 < n
          · exact Or.inr fun w => hh ⟨z, w⟩
          · exact Or.inl (by omega)
        refine ⟨0, s + 7, D1, by omega, ?_, by omega, h1', fit7, fun h4 _ => s3_fits7_f H h4 c2 (hh'.resolve_left (by omega)), fun _ => Or.inr (by unfold whl; omega), fun z => by omega, t3⟩
        rw [e0]
        unfold hdd at hh'
        rcases hl with z | z | z | z
        · have k1 := s6_takes_f G (q := s + 7) (c := 43) h1' (by decide) (by omega)
          simp (disch := omega) only [q_inb, q_isZ0, q_isZ1, q_leT, q_leF, q_ltT, q_ltF, q_eqT, q_eqF, nI_leI, nI_ltI, nI_eq, nI_add, pk_mul, q_sub, pk_sub, q_mod, pk_div, nI_clamp, q_not, q_m1, q_z1, q_n1lt, Nat.add_zero, Nat.zero_add, q_nT, q_nF, ↓reduceIte, bd0_s, bd1_s, bd2_s, bd3_s, bd4_s, bd5_s, bd6_s, bd7_s, bd8_s, bd9_s, lt_s_, qL0, qL1, qL2, qL3, qL4, qL5, qL6, qL7, qL8, qL9, qL10, qL11, qL12, qL13, qL14, qL15, qL16, qL17, qL21, qL25, qL26, qL31, qL33, qL40, qL43, qL45, qL48, qL49, qL57, qL58, qL59, qL60, qL61, qL65, qL90, qL97, qL98, qL99, qL118, qL119, qL126, qL240, qL261, qL501, qL999, qL1000, qL1002, qL2505, qL3006, qL999999, qL1000000, f6_isOrder_j24, ts.1, h3, k1]
        · have k1 := s6_takes_f G (q := s + 7) (c := 61) h1' (by decide) (by omega)
          simp (disch := omega) only [q_inb, q_isZ0, q_isZ1, q_leT, q_leF, q_ltT, q_ltF, q_eqT, q_eqF, nI_leI, nI_ltI, nI_eq, nI_add, pk_mul, q_sub, pk_sub, q_mod, pk_div, nI_clamp, q_not, q_m1, q_z1, q_n1lt, Nat.add_zero, Nat.zero_add, q_nT, q_nF, ↓reduceIte, bd0_s, bd1_s, bd2_s, bd3_s, bd4_s, bd5_s, bd6_s, bd7_s, bd8_s, bd9_s, lt_s_, qL0, qL1, qL2, qL3, qL4, qL5, qL6, qL7, qL8, qL9, qL10, qL11, qL12, qL13, qL14, qL15, qL16, qL17, qL21, qL25, qL26, qL31, qL33, qL40, qL43, qL45, qL48, qL49, qL57, qL58, qL59, qL60, qL61, qL65, qL90, qL97, qL98, qL99, qL118, qL119, qL126, qL240, qL261, qL501, qL999, qL1000, qL1002, qL2505, qL3006, qL999999, qL1000000, f6_isOrder_j24, ts.1, h3, k1]
        · have k1 := s6_sees_f G (q := s + 7) (lo := 65) (hi := 90) h1' (by decide) (by decide) (by omega)
          simp (disch := omega) only [q_inb, q_isZ0, q_isZ1, q_leT, q_leF, q_ltT, q_ltF, q_eqT, q_eqF, nI_leI, nI_ltI, nI_eq, nI_add, pk_mul, q_sub, pk_sub, q_mod, pk_div, nI_clamp, q_not, q_m1, q_z1, q_n1lt, Nat.add_zero, Nat.zero_add, q_nT, q_nF, ↓reduceIte, bd0_s, bd1_s, bd2_s, bd3_s, bd4_s, bd5_s, bd6_s, bd7_s, bd8_s, bd9_s, lt_s_, qL0, qL1, qL2, qL3, qL4, qL5, qL6, qL7, qL8, qL9, qL10, qL11, qL12, qL13, qL14, qL15, qL16, qL17, qL21, qL25, qL26, qL31, qL33, qL40, qL43, qL45, qL48, qL49, qL57, qL58, qL59, qL60, qL61, qL65, qL90, qL97, qL98, qL99, qL118, qL119, qL126, qL240, qL261, qL501, qL999, qL1000, qL1002, qL2505, qL3006, qL999999, qL1000000, f6_isOrder_j24, ts.1, h3, f6_isSign, k1]
        · have k1 := s6_takes_f G (q := s + 7) (c := 45) h1' (by decide) (by omega)
          simp (disch := omega) only [q_inb, q_isZ0, q_isZ1, q_leT, q_leF, q_ltT, q_ltF, q_eqT, q_eqF, nI_leI, nI_ltI, nI_eq, nI_add, pk_mul, q_sub, pk_sub, q_mod, pk_div, nI_clamp, q_not, q_m1, q_z1, q_n1lt, Nat.add_zero, Nat.zero_add, q_nT, q_nF, ↓reduceIte, bd0_s, bd1_s, bd2_s, bd3_s, bd4_s, bd5_s, bd6_s, bd7_s, bd8_s, bd9_s, lt_s_, qL0, qL1, qL2, qL3, qL4, qL5, qL6, qL7, qL8, qL9, qL10, qL11, qL12, qL13, qL14, qL15, qL16, qL17, qL21, qL25, qL26, qL31, qL33, qL40, qL43, qL45, qL48, qL49, qL57, qL58, qL59, qL60, qL61, qL65, qL90, qL97, qL98, qL99, qL118, qL119, qL126, qL240, qL261, qL501, qL999, qL1000, qL1002, qL2505, qL3006, qL999999, qL1000000, f6_isOrder_j24, ts.1, h3, k1]
      · obtain ⟨hh1, hh2⟩ := hh
        have fit8 : ∀ a, s ≤ a → a < s + 8 → T a ≠ 59 ∧ f3_fits (nI n) oS (nI s) (nI a) = some (nI 1) := fun a h4 h5 => by
          by_cases z : a = s + 7
          · subst z
            exact ⟨by unfold hdd at hh2; omega, s3_fits7_t H hh1 hh2⟩
          · exact fit7 a h4 (by omega)
        -- an order with a number: 'b' and 'w'
        have num : ∀ most, 9 ≤ most → most ≤ 999 → ((T s = 98 ∧ most = 40) ∨ (T s = 119 ∧ most = 999)) → (∀ ok e (D2 : Nat → Int32), f6_isNumber (nI n) (nI (s + 8)) (nI q) mT D1 (nI most) = some (nI ok, nI e, D2) → ok ≤ 1 → f6_isOrder (nI n) (nI s) (nI q) mT D = some (nI ok, nI e, D2)) → ∃ ok e D', ordW oS mT n T D q s ok e D' := fun most m1 m2 hm hrun => by
          rcases number_case G (p := s + 8) (u := q) (by omega) (by omega) m1 m2 D1 with ⟨k1, k2⟩ | ⟨k, k1, k2, k3, k4, k5, k6⟩
          · refine ⟨0, s + 8, D1, by omega, hrun 0 (s + 8) D1 k2 (by omega), by omega, by omega, fit8, fun h4 _ => ?_, fun _ => Or.inr (by unfold whl; omega), fun z => by omega, t3⟩
            have k3 := k1.resolve_left (by omega)
            by_cases z : T (s + 8) = 59
            · exact s3_fits_semi_f H h4 (by omega) z (by unfold whl; omega)
            · by_cases w : dgt (T (s + 8))
              · have k4 := s3_fits8_d H (s := s) (k := 0) (by omega) (by decide) (fun i hi => by rw [show i = 0 by omega]; exact w) c2
                have v1 : vl T (s + 8) 1 = 0 := by
                  rw [vl, vl]
                  show 0 * 10 + (T (s + 8 + 0) - 48) = 0
                  rw [Nat.add_zero]
                  omega
                rw [Nat.zero_add, v1, Nat.add_zero, if_neg (by omega)] at k4
                exact k4
              · exact s3_fits8_nd H h4 (by omega) z w
          · have hnum2 := s3_numberIn H (a := s + 8) (k := k) (by omega) k3 fun i hi => (k4 i hi).1
            have hv := (k4 (k - 1) (by omega)).2
            rw [show k - 1 + 1 = k by omega] at hv
            obtain ⟨u1, u2, u3⟩ := t0 (upd D1 (3 * q + 2) (nI (vl T (s + 8) k))) fun j hj => by rw [pk_un (by omega)]
            refine ⟨1, s + 8 + k, upd D1 (3 * q + 2) (nI (vl T (s + 8) k)), by omega, hrun 1 _ _ k6 (by omega), by omega, k3, fun a h4 h5 => ?_, fun h4 h5 => ?_, fun z => by omega, fun _ => ⟨c1, by unfold whl; omega, by omega, k3, _, _, hnumv, u1, u2, pk_us, hnum, ?_⟩, u3⟩
            · by_cases z : a < s + 8
              · exact fit8 a h4 z
              · obtain ⟨i, rfl⟩ : ∃ i, a = s + 8 + i := ⟨a - (s + 8), by omega⟩
                have w := k4 i (by omega)
                have k7 := s3_fits8_d H (s := s) (k := i) (by omega) (by omega) (fun j hj => (k4 j (by omega)).1) c2
                rw [if_pos (by omega)] at k7
                exact ⟨by have := w.1; unfold dgt at this; omega, k7⟩
            · have h6 := h5.resolve_left (by omega)
              by_cases w : dgt (T (s + 8 + k))
              · have k7 := s3_fits8_d H (s := s) (k := k) (by omega) (by omega) (fun j hj => by
                  by_cases z : j = k
                  · subst z; exact w
                  · exact (k4 j (by omega)).1) c2
                have k8 : most < vl T (s + 8) (k + 1) := by
                  rcases k5 with z | z | z
                  · omega
                  · exact absurd w z
                  · exact z
                rw [if_neg (by omega)] at k7
                exact k7
              · exact s3_fits8_nd H h4 (by omega) h6 w
            · rcases hm with ⟨z, rfl⟩ | ⟨z, rfl⟩
              · exact Or.inl ⟨z, hv.1, hv.2, hnum2⟩
              · exact Or.inr (Or.inl ⟨z, hv.1, hv.2, hnum2⟩)
        have h8 : s + 7 + 1 = s + 8 := by omega
        unfold hdd at hh2
        rcases hl with z | z | z | z
        · refine num 40 (by decide) (by decide) (Or.inl ⟨z, rfl⟩) fun ok e D2 hr hok => ?_
          have k1 := s6_takes_t G (q := s + 7) (c := 43) hh1 (by omega)
          rw [h8] at k1
          rw [e0]
          rcases (show ok = 0 ∨ ok = 1 by omega) with rfl | rfl
          · simp (disch := omega) only [q_inb, q_isZ0, q_isZ1, q_leT, q_leF, q_ltT, q_ltF, q_eqT, q_eqF, nI_leI, nI_ltI, nI_eq, nI_add, pk_mul, q_sub, pk_sub, q_mod, pk_div, nI_clamp, q_not, q_m1, q_z1, q_n1lt, Nat.add_zero, Nat.zero_add, q_nT, q_nF, ↓reduceIte, bd0_s, bd1_s, bd2_s, bd3_s, bd4_s, bd5_s, bd6_s, bd7_s, bd8_s, bd9_s, lt_s_, qL0, qL1, qL2, qL3, qL4, qL5, qL6, qL7, qL8, qL9, qL10, qL11, qL12, qL13, qL14, qL15, qL16, qL17, qL21, qL25, qL26, qL31, qL33, qL40, qL43, qL45, qL48, qL49, qL57, qL58, qL59, qL60, qL61, qL65, qL90, qL97, qL98, qL99, qL118, qL119, qL126, qL240, qL261, qL501, qL999, qL1000, qL1002, qL2505, qL3006, qL999999, qL1000000, f6_isOrder_j24, ts.1, h3, k1, hr]
          · simp (disch := omega) only [q_inb, q_isZ0, q_isZ1, q_leT, q_leF, q_ltT, q_ltF, q_eqT, q_eqF, nI_leI, nI_ltI, nI_eq, nI_add, pk_mul, q_sub, pk_sub, q_mod, pk_div, nI_clamp, q_not, q_m1, q_z1, q_n1lt, Nat.add_zero, Nat.zero_add, q_nT, q_nF, ↓reduceIte, bd0_s, bd1_s, bd2_s, bd3_s, bd4_s, bd5_s, bd6_s, bd7_s, bd8_s, bd9_s, lt_s_, qL0, qL1, qL2, qL3, qL4, qL5, qL6, qL7, qL8, qL9, qL10, qL11, qL12, qL13, qL14, qL15, qL16, qL17, qL21, qL25, qL26, qL31, qL33, qL40, qL43, qL45, qL48, qL49, qL57, qL58, qL59, qL60, qL61, qL65, qL90, qL97, qL98, qL99, qL118, qL119, qL126, qL240, qL261, qL501, qL999, qL1000, qL1002, qL2505, qL3006, qL999999, qL1000000, f6_isOrder_j24, ts.1, h3, k1, hr]
        · refine num 999 (by decide) (by decide) (Or.inr ⟨z, rfl⟩) fun ok e D2 hr hok => ?_
          have k1 := s6_takes_t G (q := s + 7) (c := 61) hh1 (by omega)
          rw [h8] at k1
          rw [e0]
          rcases (show ok = 0 ∨ ok = 1 by omega) with rfl | rfl
          · simp (disch := omega) only [q_inb, q_isZ0, q_isZ1, q_leT, q_leF, q_ltT, q_ltF, q_eqT, q_eqF, nI_leI, nI_ltI, nI_eq, nI_add, pk_mul, q_sub, pk_sub, q_mod, pk_div, nI_clamp, q_not, q_m1, q_z1, q_n1lt, Nat.add_zero, Nat.zero_add, q_nT, q_nF, ↓reduceIte, bd0_s, bd1_s, bd2_s, bd3_s, bd4_s, bd5_s, bd6_s, bd7_s, bd8_s, bd9_s, lt_s_, qL0, qL1, qL2, qL3, qL4, qL5, qL6, qL7, qL8, qL9, qL10, qL11, qL12, qL13, qL14, qL15, qL16, qL17, qL21, qL25, qL26, qL31, qL33, qL40, qL43, qL45, qL48, qL49, qL57, qL58, qL59, qL60, qL61, qL65, qL90, qL97, qL98, qL99, qL118, qL119, qL126, qL240, qL261, qL501, qL999, qL1000, qL1002, qL2505, qL3006, qL999999, qL1000000, f6_isOrder_j24, ts.1, h3, k1, hr]
          · simp (disch := omega) only [q_inb, q_isZ0, q_isZ1, q_leT, q_leF, q_ltT, q_ltF, q_eqT, q_eqF, nI_leI, nI_ltI, nI_eq, nI_add, pk_mul, q_sub, pk_sub, q_mod, pk_div, nI_clamp, q_not, q_m1, q_z1, q_n1lt, Nat.add_zero, Nat.zero_add, q_nT, q_nF, ↓reduceIte, bd0_s, bd1_s, bd2_s, bd3_s, bd4_s, bd5_s, bd6_s, bd7_s, bd8_s, bd9_s, lt_s_, qL0, qL1, qL2, qL3, qL4, qL5, qL6, qL7, qL8, qL9, qL10, qL11, qL12, qL13, qL14, qL15, qL16, qL17, qL21, qL25, qL26, qL31, qL33, qL40, qL43, qL45, qL48, qL49, qL57, qL58, qL59, qL60, qL61, qL65, qL90, qL97, qL98, qL99, qL118, qL119, qL126, qL240, qL261, qL501, qL999, qL1000, qL1002, qL2505, qL3006, qL999999, qL1000000, f6_isOrder_j24, ts.1, h3, k1, hr]
        · -- 'c'
          have z7 : 65 ≤ T (s + 7) ∧ T (s + 7) ≤ 90 := by omega
          have k1 := s6_sees_t G (q := s + 7) (lo := 65) (hi := 90) hh1 (by decide) z7
          have k2 := G.2 _ hh1
          obtain ⟨u1, u2, u3⟩ := t0 (upd D1 (3 * q + 2) (nI (T (s + 7) - 65))) fun j hj => by rw [pk_un (by omega)]
          have hnum2 := s3_numberIn H (a := s + 8) (k := 0) (by decide) (by omega) fun i hi => by omega
          refine ⟨1, s + 8, upd D1 (3 * q + 2) (nI (T (s + 7) - 65)), by omega, ?_, by omega, by omega, fit8, fun h4 h5 => ?_, fun z => by omega, fun _ => ⟨c1, by unfold whl; omega, Nat.le_refl _, by omega, _, _, hnumv, u1, u2, pk_us, hnum, Or.inr (Or.inr (Or.inr ⟨z, by omega, rfl, by omega, hnum2⟩))⟩, u3⟩
          · rw [e0]
            simp (disch := omega) only [q_inb, q_isZ0, q_isZ1, q_leT, q_leF, q_ltT, q_ltF, q_eqT, q_eqF, nI_leI, nI_ltI, nI_eq, nI_add, pk_mul, q_sub, pk_sub, q_mod, pk_div, nI_clamp, q_not, q_m1, q_z1, q_n1lt, Nat.add_zero, Nat.zero_add, q_nT, q_nF, ↓reduceIte, bd0_s, bd1_s, bd2_s, bd3_s, bd4_s, bd5_s, bd6_s, bd7_s, bd8_s, bd9_s, lt_s_, qL0, qL1, qL2, qL3, qL4, qL5, qL6, qL7, qL8, qL9, qL10, qL11, qL12, qL13, qL14, qL15, qL16, qL17, qL21, qL25, qL26, qL31, qL33, qL40, qL43, qL45, qL48, qL49, qL57, qL58, qL59, qL60, qL61, qL65, qL90, qL97, qL98, qL99, qL118, qL119, qL126, qL240, qL261, qL501, qL999, qL1000, qL1002, qL2505, qL3006, qL999999, qL1000000, f6_isOrder_j24, ts.1, h3, f6_isSign, k1, k2.1]
          · have h6 := h5.resolve_left (by omega)
            by_cases w : dgt (T (s + 8))
            · have k4 := s3_fits8_d H (s := s) (k := 0) (by omega) (by decide) (fun i hi => by rw [show i = 0 by omega]; exact w) c2
              rw [if_neg (by omega)] at k4
              exact k4
            · exact s3_fits8_nd H h4 (by omega) h6 w
        · -- 'v'
          have k1 := s6_takes_t G (q := s + 7) (c := 45) hh1 (by omega)
          rw [h8] at k1
          rcases six_case G (p := s + 8) (u := q) (pl := 2) (by omega) (by omega) D1 with ⟨g1, g2, g3⟩ | ⟨d, g1, g2, g3, g4, g5⟩
          · obtain ⟨u1, u2, u3⟩ := t0 (upd D1 (3 * q + 2) (nI (vl T (s + 8) 6))) fun j hj => by rw [pk_un (by omega)]
            have hnum2 := s3_numberIn H (a := s + 8) (k := 6) (by decide) g1 g2
            refine ⟨1, s + 8 + 6, upd D1 (3 * q + 2) (nI (vl T (s + 8) 6)), by omega, ?_, by omega, g1, fun a h4 h5 => ?_, fun h4 h5 => ?_, fun z => by omega, fun _ => ⟨c1, by unfold whl; omega, by omega, g1, _, _, hnumv, u1, u2, pk_us, hnum, Or.inr (Or.inr (Or.inl ⟨z, vl_lt g2, hnum2⟩))⟩, u3⟩
            · rw [e0]
              simp (disch := omega) only [q_inb, q_isZ0, q_isZ1, q_leT, q_leF, q_ltT, q_ltF, q_eqT, q_eqF, nI_leI, nI_ltI, nI_eq, nI_add, pk_mul, q_sub, pk_sub, q_mod, pk_div, nI_clamp, q_not, q_m1, q_z1, q_n1lt, Nat.add_zero, Nat.zero_add, q_nT, q_nF, ↓reduceIte, bd0_s, bd1_s, bd2_s, bd3_s, bd4_s, bd5_s, bd6_s, bd7_s, bd8_s, bd9_s, lt_s_, qL0, qL1, qL2, qL3, qL4, qL5, qL6, qL7, qL8, qL9, qL10, qL11, qL12, qL13, qL14, qL15, qL16, qL17, qL21, qL25, qL26, qL31, qL33, qL40, qL43, qL45, qL48, qL49, qL57, qL58, qL59, qL60, qL61, qL65, qL90, qL97, qL98, qL99, qL118, qL119, qL126, qL240, qL261, qL501, qL999, qL1000, qL1002, qL2505, qL3006, qL999999, qL1000000, f6_isOrder_j24, ts.1, h3, k1, g3]
            · by_cases y : a < s + 8
              · exact fit8 a h4 y
              · obtain ⟨i, rfl⟩ : ∃ i, a = s + 8 + i := ⟨a - (s + 8), by omega⟩
                have w := g2 i (by omega)
                have k7 := s3_fits8_d H (s := s) (k := i) (by omega) (by omega) (fun j hj => g2 j (by omega)) c2
                rw [if_pos (by omega)] at k7
                exact ⟨by unfold dgt at w; omega, k7⟩
            · have h6 := h5.resolve_left (by omega)
              by_cases w : dgt (T (s + 8 + 6))
              · have k7 := s3_fits8_d H (s := s) (k := 6) (by omega) (by decide) (fun j hj => by
                  by_cases y : j = 6
                  · subst y; exact w
                  · exact g2 j (by omega)) c2
                rw [if_neg (by omega)] at k7
                exact k7
              · exact s3_fits8_nd H h4 (by omega) h6 w
          · refine ⟨0, s + 8 + d, D1, by omega, ?_, by omega, g2, fun a h4 h5 => ?_, fun h4 _ => ?_, fun _ => Or.inr (by unfold whl; omega), fun z => by omega, t3⟩
            · rw [e0]
              simp (disch := omega) only [q_inb, q_isZ0, q_isZ1, q_leT, q_leF, q_ltT, q_ltF, q_eqT, q_eqF, nI_leI, nI_ltI, nI_eq, nI_add, pk_mul, q_sub, pk_sub, q_mod, pk_div, nI_clamp, q_not, q_m1, q_z1, q_n1lt, Nat.add_zero, Nat.zero_add, q_nT, q_nF, ↓reduceIte, bd0_s, bd1_s, bd2_s, bd3_s, bd4_s, bd5_s, bd6_s, bd7_s, bd8_s, bd9_s, lt_s_, qL0, qL1, qL2, qL3, qL4, qL5, qL6, qL7, qL8, qL9, qL10, qL11, qL12, qL13, qL14, qL15, qL16, qL17, qL21, qL25, qL26, qL31, qL33, qL40, qL43, qL45, qL48, qL49, qL57, qL58, qL59, qL60, qL61, qL65, qL90, qL97, qL98, qL99, qL118, qL119, qL126, qL240, qL261, qL501, qL999, qL1000, qL1002, qL2505, qL3006, qL999999, qL1000000, f6_isOrder_j24, ts.1, h3, k1, g5]
            · by_cases y : a < s + 8
              · exact fit8 a h4 y
              · obtain ⟨i, rfl⟩ : ∃ i, a = s + 8 + i := ⟨a - (s + 8), by omega⟩
                have w := g3 i (by omega)
                have k7 := s3_fits8_d H (s := s) (k := i) (by omega) (by omega) (fun j hj => g3 j (by omega)) c2
                rw [if_pos (by omega)] at k7
                exact ⟨by unfold dgt at w; omega, k7⟩
            · have w := g4.resolve_left (by omega)
              by_cases y : T (s + 8 + d) = 59
              · exact s3_fits_semi_f H h4 (by omega) y (by unfold whl; omega)
              · exact s3_fits8_nd H h4 (by omega) y w
