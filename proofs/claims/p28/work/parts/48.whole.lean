
/-! ===== pure rows: the whole text, read twice ===== -/
/-- k orders from the q-th on, from s to the end of the text -/
def ordL (oS : Nat → Int32) (n : Nat) (T : NF) (D : Nat → Int32) : Nat → Nat → Nat → Prop
  | 0, _, _ => False
  | k + 1, q, s => ∃ e, ordOK oS n T D q s e ∧ (∀ a, s ≤ a → a < e → T a ≠ 59) ∧ ((k = 0 ∧ e = n) ∨ (e < n ∧ T e = 59 ∧ ordL oS n T D k (q + 1) (e + 1)))
theorem ordOK_same {oS : Nat → Int32} {n : Nat} {T : NF} {D D' : Nat → Int32} {q s e : Nat} (h : ordOK oS n T D q s e) (hD : ∀ j, j < 3 * (q + 1) → D' j = D j) : ordOK oS n T D' q s e := by
  obtain ⟨h1, h2, a, b, h3, h4, h5, h6, h7⟩ := h
  exact ⟨h1, h2, a, b, h3, by rw [hD _ (by omega)]; exact h4, by rw [hD _ (by omega)]; exact h5, by rw [hD _ (by omega)]; exact h6, h7⟩
/-- what both find from the q-th order on, that begins at s -/
def wholeW (oS mT : Nat → Int32) (n : Nat) (T : NF) (q s : Nat) (D : Nat → Int32) (r e k : Nat) (D' : Nat → Int32) (w : Nat) : Prop :=
  r ≤ 1 ∧ e ≤ n ∧ q + k ≤ 7 ∧ (∀ t, w < t → f6_isWhole_l12 (nI n) mT (t + 1) (nI 1) (nI s) (nI q) D = some (nI r, nI e, nI (q + k), D')) ∧ (∀ t, w < t → f3_errorIndex_l4 (nI n) oS t (nI s) (nI s) = some (nI (if r = 1 then n else e))) ∧
  ((r = 1 ∨ e = n) → ∀ t, w < t → f3_isComplete_l17 (nI n) oS t (nI s) (nI s) = some (nI r)) ∧ (r = 1 → ordL oS n T D' k q s) ∧ ∀ j, j < 3 * q → D' j = D j
theorem whole_walk {n : Nat} {T : NF} {oS mT : Nat → Int32} (H : cT_ n T oS) (G : cT_ n T mT) : ∀ (w s q : Nat) (D : Nat → Int32), n - s ≤ w → s ≤ n → 9 * q ≤ s → ∃ r e k D', wholeW oS mT n T q s D r e k D' w := by
  intro w
  induction w using Nat.strongRecOn with
  | _ w ih =>
    intro s q D hw hs hq
    have hn := H.1
    obtain ⟨ok, e, D', o1, o2, o3, o4, o5, o6, o7, o8, o9⟩ := order_walk H G hs (show q ≤ 6 by omega) D
    -- both of the class's walks come to e
    have go1 : ∀ t, f3_errorIndex_l4 (nI n) oS (t + (e - s)) (nI s) (nI s) = f3_errorIndex_l4 (nI n) oS t (nI s) (nI e) := fun t => by
      have := traj (fun i t => f3_errorIndex_l4 (nI n) oS t (nI s) (nI i)) s (e - s) (fun i t h1 h2 => by
        obtain ⟨p1, p2⟩ := o5 i h1 (by omega)
        have p3 := s3_signAt_in H (show i < n by omega)
        have p4 := H.2 i (by omega)
        rw [f3_errorIndex_l4, if_neg (nI_ge (by omega) (by omega)), p2, bd1_s, if_neg (by decide), p3, bd1_s, if_neg (by rw [qL59, nI_eq (by omega) (by decide)]; exact p1), nI_1]) t
      rwa [show s + (e - s) = e by omega] at this
    have go2 : ∀ t, f3_isComplete_l17 (nI n) oS (t + (e - s)) (nI s) (nI s) = f3_isComplete_l17 (nI n) oS t (nI s) (nI e) := fun t => by
      have := traj (fun i t => f3_isComplete_l17 (nI n) oS t (nI s) (nI i)) s (e - s) (fun i t h1 h2 => by
        obtain ⟨p1, p2⟩ := o5 i h1 (by omega)
        have p3 := s3_signAt_in H (show i < n by omega)
        have p4 := H.2 i (by omega)
        rw [f3_isComplete_l17, if_neg (nI_ge (by omega) (by omega)), p3, bd1_s, if_neg (by rw [qL59, nI_eq (by omega) (by decide)]; exact p1), nI_1]) t
      rwa [show s + (e - s) = e by omega] at this
    have tt : ∀ t, w < t → ∃ u, t = (u + 1) + (e - s) ∧ w - (e - s) < u + 1 := fun t ht => ⟨t - (e - s) - 1, by omega, by omega⟩
    rcases (show ok = 0 ∨ ok = 1 by omega) with rfl | rfl
    · refine ⟨0, e, 0, D', by omega, o4, by omega, fun t ht => ?_, fun t ht => ?_, fun h1 t ht => ?_, fun z => by omega, o9⟩
      · rw [f6_isWhole_l12, if_neg (by decide), o2, bd3_s, if_pos (show nI 0 = (0 : Int32) from rfl)]
        rfl
      · obtain ⟨u, rfl, -⟩ := tt t ht
        rw [go1, if_neg (show ¬ (0 : Nat) = 1 by decide), f3_errorIndex_l4]
        by_cases z : e = n
        · rw [if_pos (nI_le (by omega) (by omega)), z]
        · rw [if_neg (nI_ge (by omega) (by omega)), o6 (by omega) (Or.inl rfl), bd1_s, if_pos (show nI 0 = (0 : Int32) from rfl)]
      · obtain ⟨u, rfl, -⟩ := tt t ht
        have z : e = n := h1.resolve_left (by decide)
        have h2 := s3_isWhole_f H (s := s) (e := n) (by omega) (by rw [z] at o7; exact o7 rfl)
        rw [go2, f3_isComplete_l17, if_pos (nI_le (by omega) (by omega)), h2, bd1_s, if_pos (show isZ (nI 0) from Or.inl rfl)]
    · obtain ⟨a1, a2, a3⟩ := o8 rfl
      have a4 := a3.1
      by_cases c : e < n ∧ T e = 59
      · -- another order is to come
        obtain ⟨c1, c2⟩ := c
        have hlt : w - (e - s) - 1 < w := by omega
        obtain ⟨r, e2, k, D2, b1, b2, b3, b4, b5, b6, b7, b8⟩ := ih (w - (e - s) - 1) hlt (e + 1) (q + 1) D' (by omega) (by omega) (by omega)
        have h1 := s6_takes_t G (q := e) (c := 59) c1 c2
        have h2 := s3_fits_semi H (s := s) c1 o3 c2 a2
        have h3 := s3_signAt_in H c1
        rw [c2] at h3
        have k1 : q + 1 + k = q + (k + 1) := by omega
        refine ⟨r, e2, k + 1, D2, b1, b2, by omega, fun t ht => ?_, fun t ht => ?_, fun h4 t ht => ?_, fun h4 => ⟨e, ordOK_same a3 b8, fun a p1 p2 => (o5 a p1 p2).1, Or.inr ⟨c1, c2, b7 h4⟩⟩, fun j hj => by rw [b8 j (by omega)]; exact o9 j hj⟩
        · obtain ⟨u, rfl⟩ : ∃ u, t = u + 1 := ⟨t - 1, by omega⟩
          have h5 := b4 u (by omega)
          rw [f6_isWhole_l12, if_neg (by decide), o2, bd3_s, if_neg (by decide), show (59 : Int32) = nI 59 from rfl, h1, bd2_s, nI_1, h5, k1]
        · obtain ⟨u, rfl, hu⟩ := tt t ht
          rw [go1, f3_errorIndex_l4, if_neg (nI_ge c1 (by omega)), h2, bd1_s, if_neg (by decide), h3, bd1_s, if_pos (show nI 59 = (59 : Int32) from rfl), nI_1]
          exact b5 u (by omega)
        · obtain ⟨u, rfl, hu⟩ := tt t ht
          rw [go2, f3_isComplete_l17, if_neg (nI_ge c1 (by omega)), h3, bd1_s, if_pos (show nI 59 = (59 : Int32) from rfl), nI_1]
          exact b6 h4 u (by omega)
      · have c' : e = n ∨ T e ≠ 59 := by
          by_cases z : e = n
          · exact Or.inl z
          · exact Or.inr fun y => c ⟨by omega, y⟩
        have h1 := s6_takes_f G (q := e) (c := 59) o4 (by decide) c'
        refine ⟨if e = n then 1 else 0, e, 1, D', by split <;> omega, o4, by omega, fun t ht => ?_, fun t ht => ?_, fun h4 t ht => ?_, fun h4 => ?_, o9⟩
        · obtain ⟨u, rfl⟩ : ∃ u, t = u + 1 := ⟨t - 1, by omega⟩
          rw [f6_isWhole_l12, if_neg (by decide), o2, bd3_s, if_neg (by decide), show (59 : Int32) = nI 59 from rfl, h1, bd2_s, nI_1, f6_isWhole_l12, if_pos (show nI 0 = (0 : Int32) from rfl)]
          by_cases z : e = n
          · rw [if_pos z, if_pos (by rw [z])]
            rfl
          · rw [if_neg z, if_neg (fun y => z ((nI_eq (by omega) (by omega)).mp y))]
            rfl
        · obtain ⟨u, rfl, hu⟩ := tt t ht
          rw [go1, f3_errorIndex_l4]
          by_cases z : e = n
          · rw [if_pos z, if_pos (show (1 : Nat) = 1 from rfl), if_pos (nI_le (show n ≤ e by omega) (by omega))]
          · rw [if_neg z, if_neg (show ¬ (0 : Nat) = 1 by decide), if_neg (nI_ge (show e < n by omega) (by omega)), o6 (by omega) (Or.inr (c'.resolve_left z)), bd1_s, if_pos (show nI 0 = (0 : Int32) from rfl)]
        · obtain ⟨u, rfl, hu⟩ := tt t ht
          have z : e = n := by
            rcases h4 with y | y
            · refine Decidable.byContradiction fun x => ?_
              rw [if_neg x] at y
              exact absurd y (by decide)
            · exact y
          have h2 := s3_isWhole_t H (s := s) (e := n) a1 (by omega) (by rw [← z]; exact a2)
          rw [go2, f3_isComplete_l17, if_pos (nI_le (by omega) (by omega)), h2, bd1_s, if_pos (show isZ (nI 1) from Or.inr rfl), if_pos z]
        · have z : e = n := by
            refine Decidable.byContradiction fun x => ?_
            rw [if_neg x] at h4
            exact absurd h4 (by decide)
          exact ⟨e, a3, fun a p1 p2 => (o5 a p1 p2).1, Or.inl ⟨rfl, z⟩⟩
/-- the text from its first sign on -/
theorem op_text {n : Nat} {T : NF} {oS mT : Nat → Int32} (H : cT_ n T oS) (G : cT_ n T mT) (mq mu : Int32) (D : Nat → Int32) : ∃ r e k D', r ≤ 1 ∧ e ≤ n ∧ k ≤ 7 ∧ f6_isWhole (nI n) mq mu mT D = some (nI r, nI e, nI k, D') ∧ f3_errorIndex (nI n) oS = some (nI (if r = 1 then n else e)) ∧ f3_isComplete (nI n) oS = some (nI r) ∧ (r = 1 → ordL oS n T D' k 0 0) := by
  have hn := H.1
  obtain ⟨r, e, k, D', b1, b2, b3, b4, b5, b6, b7, b8⟩ := whole_walk H G 60 0 0 D (by omega) (Nat.zero_le n) (Nat.le_refl 0)
  rw [Nat.zero_add] at b3
  have h1 : f3_errorIndex (nI n) oS = some (nI (if r = 1 then n else e)) := b5 4000 (by decide)
  refine ⟨r, e, k, D', b1, b2, b3, ?_, h1, ?_, b7⟩
  · have := b4 3999 (by decide)
    rwa [Nat.zero_add] at this
  · unfold f3_isComplete
    rw [h1, bd1_s]
    by_cases z : r = 1 ∨ e = n
    · have h2 := b6 z 4000 (by decide)
      rw [if_pos (nI_le (by split <;> omega) (by split <;> omega))]
      exact h2
    · have z1 : ¬ r = 1 := fun q => z (Or.inl q)
      have z2 : ¬ e = n := fun q => z (Or.inr q)
      rw [if_neg z1, if_neg (nI_ge (by omega) (by omega)), show r = 0 by omega]
      rfl
