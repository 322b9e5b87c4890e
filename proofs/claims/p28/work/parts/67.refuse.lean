
/-! ===== pure rows of the law: what is refused leaves all as it is ===== -/
theorem far_out {k lo hi : Nat} (hk : k < 4) (hlo : lo < 2 ^ 31) (hhi : hi < 2147483647) : ∃ x, fL_far (nI k) (nI lo) (nI hi) = some x ∧ outR lo hi x := by
  rcases (show k = 0 ∨ k = 1 ∨ k = 2 ∨ k = 3 by omega) with rfl | rfl | rfl | rfl
  · refine ⟨nI lo - 1, rfl, ?_⟩
    by_cases h : lo = 0
    · subst h
      exact Or.inl (by decide)
    · refine Or.inr ⟨lo - 1, by omega, by omega, ?_⟩
      rw [qL1, pk_sub (by omega)]
  · refine ⟨nI hi + 1, rfl, Or.inr ⟨hi + 1, by omega, by omega, ?_⟩⟩
    rw [qL1, nI_add]
  · exact ⟨-2147483648, rfl, Or.inl (by decide)⟩
  · exact ⟨2147483647, rfl, Or.inr ⟨2147483647, by omega, by decide, rfl⟩⟩
theorem far_book {k h : Nat} (hk : k < 4) (hh : h ≤ 6) : ∃ x, fL_far (nI k) (nI 0) (nI h - nI 1) = some x ∧ (x < 0 ∨ ∃ n, h ≤ n ∧ n < 2 ^ 31 ∧ x = nI n) := by
  rcases (show k = 0 ∨ k = 1 ∨ k = 2 ∨ k = 3 by omega) with rfl | rfl | rfl | rfl
  · exact ⟨nI 0 - 1, rfl, Or.inl (by decide)⟩
  · refine ⟨nI h - nI 1 + 1, rfl, Or.inr ⟨h, Nat.le_refl h, by omega, ?_⟩⟩
    rw [qL1, Int32.sub_add_cancel]
  · exact ⟨-2147483648, rfl, Or.inl (by decide)⟩
  · exact ⟨2147483647, rfl, Or.inr ⟨2147483647, by omega, by decide, rfl⟩⟩
theorem no_cell {h : Nat} {F Z : NF} (hB : wB_ h F Z) {x : Int32} (o : outR 0 999999 x) : x < 0 ∨ ∃ s, s < 2 ^ 31 ∧ x = nI s ∧ ∀ b, ¬ inB h F Z s b := by
  rcases o with o | ⟨n, h1, h2, h3⟩
  · exact Or.inl o
  · refine Or.inr ⟨n, h2, h3, fun b hb => ?_⟩
    have := inB_lt hB hb
    omega
section Refused
variable {st : ST} {x y z w : Int32}
theorem R_weight1 (o : outR 0 5 x) : FC_weight st x y z = some (-11, st) := by
  unfold FC_weight F_weight f5_weight
  rw [tp_out o]
  rfl
theorem R_weight2 (o : outR 1 9 y) : FC_weight st (5 : Int32) y z = some (-12, st) := by
  unfold FC_weight F_weight f5_weight
  rw [show (5 : Int32) = nI 5 from rfl, tp_in (Nat.le_refl 5), bd1_s, if_pos rfl, ite_out (a := 1) (b := 9) rfl rfl (by decide) (by decide) o]
  rfl
theorem R_modulus (o : outR 7 26 x) : FC_modulus st x y z = some (-12, st) := by
  unfold FC_modulus F_modulus f5_modulus
  rw [ite_out (a := 7) (b := 26) rfl rfl (by decide) (by decide) o]
  rfl
theorem R_book1 (o : outR 0 999999 x) : FC_book st x y z = some (-11, st) := by
  have i1 := s5_isSerial_f (out_ser o)
  unfold FC_book F_book f5_book f5_faultOfBook
  rw [i1]
  rfl
theorem R_book2 (o : outR 1 40 y) : FC_book st (999999 : Int32) y z = some (-12, st) := by
  have i1 := s5_isSerial_t (show 999999 < 1000000 by omega)
  unfold FC_book F_book f5_book f5_faultOfBook
  rw [show (999999 : Int32) = nI 999999 from rfl, i1, bd1_s, if_neg (by decide), ite_out (a := 1) (b := 40) rfl rfl (by decide) (by decide) o]
  rfl
theorem R_book3 {k : Nat} (hk : k < 4) : FC_book st (nI 999999 - nI k) (nI 2 + nI k) z = some (-11, st) := by
  have i1 := s5_isSerial_t (show 999999 - k < 1000000 by omega)
  have i2 := s5_isSerial_f (x := nI 1000000) (Or.inr ⟨1000000, Nat.le_refl _, by decide, rfl⟩)
  have e : nI (999999 - k) + nI (2 + k) - (1 : Int32) = nI 1000000 := by
    rw [nI_add, qL1, pk_sub (by omega)]
    exact congrArg nI (by omega)
  unfold FC_book F_book f5_book f5_faultOfBook
  rw [pk_sub (by omega), nI_add, i1, bd1_s, if_neg (by decide), if_neg (by rw [qL1, nI_ltI (by omega) (by decide)]; omega), if_pos (by rw [show (40 : Int32) = nI 40 from rfl, nI_leI (by omega) (by decide)]; omega), e, i2]
  rfl
theorem R_write1 {h m : Nat} {W F Z K M : NF} (hG : IG st.1 h m W F Z K M) (o : outR 0 999999 x) : FC_write st x y z = some (-11, st) := by
  have h4 := s0_cellOf_no hG.2.1 hG.2.2.2.2.1 (no_cell hG.2.1 o)
  unfold FC_write F_write f5_write f5_faultOfWriting
  rw [h4]
  rfl
theorem R_write2 {h m : Nat} {W F Z K M : NF} (hG : IG st.1 h m W F Z K M) {s b : Nat} (hin : inB h F Z s b) (o : outR 1 999 y) : FC_write st (nI s) y z = some (-12, st) := by
  obtain ⟨c1, c2, c3, c4⟩ := inB_cell hG.2.1 hin
  have h4 := s0_cellOf_in hG.2.1 hG.2.2.2.2.1 hin
  unfold FC_write F_write f5_write f5_faultOfWriting
  rw [h4, bd1_s, if_neg (by rw [qL1, q_not (by omega)]; exact id), ite_out (a := 1) (b := 999) rfl rfl (by decide) (by decide) o]
  rfl
theorem R_cash1 (o : outR 0 999999 x) : FC_cash st x y z = some (-11, st) := by
  unfold FC_cash F_cash f5_cash
  rw [ts_out o]
  rfl
theorem R_cash2 (o : outR 0 25 y) : FC_cash st (0 : Int32) y z = some (-12, st) := by
  unfold FC_cash F_cash f5_cash
  rw [show (0 : Int32) = nI 0 from rfl, ts_in (Nat.zero_le _), bd1_s, if_pos rfl, tl_out o]
  rfl
theorem R_void1 (o : outR 0 999999 x) : FC_voidRun st x y z = some (-11, st) := by
  have i1 := s5_isSerial_f (out_ser o)
  unfold FC_voidRun F_voidRun f5_voidRun f5_faultOfRun
  rw [i1]
  rfl
theorem R_void2 (o : outR 0 999999 y) : FC_voidRun st (999999 : Int32) y z = some (-11, st) := by
  have i0 := s5_isSerial_t (show 999999 < 1000000 by omega)
  have i1 := s5_isSerial_f (out_ser o)
  unfold FC_voidRun F_voidRun f5_voidRun f5_faultOfRun
  rw [show (999999 : Int32) = nI 999999 from rfl, i0, bd1_s, if_neg (by decide), i1]
  rfl
theorem R_void3 {k : Nat} (hk : k < 4) : FC_voidRun st (999999 : Int32) (nI 999998 - nI k) z = some (-12, st) := by
  have i0 := s5_isSerial_t (show 999999 < 1000000 by omega)
  have i1 := s5_isSerial_t (show 999998 - k < 1000000 by omega)
  unfold FC_voidRun F_voidRun f5_voidRun f5_faultOfRun
  rw [show (999999 : Int32) = nI 999999 from rfl, pk_sub (by omega), i0, bd1_s, if_neg (by decide), i1, bd1_s, if_neg (by decide), if_neg (nI_ge (by omega) (by decide))]
  rfl
theorem R_append (o : outR 33 126 x) : FC_append st x y z = some (-12, st) := by
  unfold FC_append F_append f5_append
  rw [ite_out (a := 33) (b := 126) rfl rfl (by decide) (by decide) o]
  rfl
theorem R_execute (h0 : st.2.1 = 0) : FC_execute st x y z = some (-12, st) := by
  have e : f3_isComplete (0 : Int32) st.2.2.1 = some 0 := rfl
  unfold FC_execute F_execute f5_execute
  rw [h0, e]
  show some (cv 2 0, ((st.1.1, st.1.2.1, st.1.2.2.1, st.1.2.2.2.1, st.1.2.2.2.2.1, st.1.2.2.2.2.2.1, st.1.2.2.2.2.2.2.1, st.1.2.2.2.2.2.2.2), (0 : Int32), st.2.2.1, st.2.2.2.1, st.2.2.2.2.1, st.2.2.2.2.2.1, st.2.2.2.2.2.2.1, st.2.2.2.2.2.2.2)) = _
  rw [← h0]
  rfl
theorem R_keep (o : outR 0 1 x) : FC_keep st x y z = some (-12, st) := by
  unfold FC_keep F_keep f5_keep
  rw [tt_out o]
  rfl
theorem R_goBack (o : outR 0 1 x) : FC_goBack st x y z = some (-12, st) := by
  unfold FC_goBack F_goBack f5_goBack
  rw [tt_out o]
  rfl
theorem R_letter (o : outR 0 999999 x) : FC_letter st x y z = some (-11) := by
  unfold FC_letter F_letter f5_letter
  rw [ts_out o]
  rfl
theorem R_cheque1 {h m : Nat} {W F Z K M : NF} (hG : IG st.1 h m W F Z K M) (o : outR 0 999999 x) : FC_cheque st x y z = some (-11) := by
  have h4 := s0_cellOf_no hG.2.1 hG.2.2.2.2.1 (no_cell hG.2.1 o)
  unfold FC_cheque F_cheque f5_cheque
  rw [h4]
  rfl
theorem out_ne {lo hi n : Nat} (o : outR lo hi y) (h1 : lo ≤ n) (h2 : n ≤ hi) (h3 : n < 2 ^ 31) : ¬ y = nI n := by
  rcases o with o | ⟨j, q1, q2, rfl⟩
  · exact q_nege o h3
  · rw [nI_eq q2 h3]
    omega
theorem R_cheque2 {h m : Nat} {W F Z K M : NF} (hG : IG st.1 h m W F Z K M) {s b : Nat} (hin : inB h F Z s b) (o : outR 0 4 y) : FC_cheque st (nI s) y z = some (-12) := by
  obtain ⟨c1, c2, c3, c4⟩ := inB_cell hG.2.1 hin
  have h4 := s0_cellOf_in hG.2.1 hG.2.2.2.2.1 hin
  unfold FC_cheque F_cheque f5_cheque
  rw [h4, bd1_s, if_neg (by rw [qL1, q_not (by omega)]; exact id), if_neg (show ¬ y = (0 : Int32) from out_ne o (n := 0) (by omega) (by omega) (by decide)), if_neg (show ¬ y = (1 : Int32) from out_ne o (n := 1) (by omega) (by omega) (by decide)), if_neg (show ¬ y = (2 : Int32) from out_ne o (n := 2) (by omega) (by omega) (by decide)), if_neg (show ¬ y = (3 : Int32) from out_ne o (n := 3) (by omega) (by omega) (by decide)), if_neg (show ¬ y = (4 : Int32) from out_ne o (n := 4) (by omega) (by omega) (by decide))]
  rfl
theorem R_bookOf1 {h m : Nat} {W F Z K M : NF} (hG : IG st.1 h m W F Z K M) (o : x < 0 ∨ ∃ n, h ≤ n ∧ n < 2 ^ 31 ∧ x = nI n) : FC_bookOf st x y z = some (-11) := by
  have hbh : st.1.2.2.2.1 = nI h := hG.2.2.2.2.1.1
  unfold FC_bookOf F_bookOf f5_bookOf
  rcases o with o | ⟨n, h1, h2, rfl⟩
  · rw [if_pos o]
    rfl
  · rw [if_neg (nI_pos h2), hbh, if_neg (nI_nlt h1 h2)]
    rfl
theorem R_bookOf2 {h m : Nat} {W F Z K M : NF} (hG : IG st.1 h m W F Z K M) (h0 : 0 < h) (o : outR 0 8 y) : FC_bookOf st (0 : Int32) y z = some (-12) := by
  have hh := hG.2.1.1
  have hbh : st.1.2.2.2.1 = nI h := hG.2.2.2.2.1.1
  unfold FC_bookOf F_bookOf f5_bookOf
  rw [if_neg (by decide), hbh, if_pos (show (0 : Int32) < nI h from nI_lt h0 (by omega)), ite_out (a := 0) (b := 8) rfl rfl (by decide) (by decide) o]
  rfl
theorem R_count (o : outR 0 17 x) : FC_count st x y z = some (-12) := by
  unfold FC_count F_count f5_count
  rw [ite_out (a := 0) (b := 17) rfl rfl (by decide) (by decide) o]
  rfl
theorem R_ranked (o : x < 0) : FC_ranked st x y z = some (-12) := by
  unfold FC_ranked F_ranked f5_ranked
  rw [if_neg (show ¬ (0 : Int32) ≤ x from q_negn o (n := 0) (by decide))]
  rfl
theorem R_missed1 (o : outR 0 999999 x) : FC_missed st x y z = some (-11) := by
  unfold FC_missed F_missed f5_missed
  rw [ts_out o]
  rfl
theorem R_missed2 (o : outR 0 2 y) : FC_missed st (0 : Int32) y z = some (-12) := by
  unfold FC_missed F_missed f5_missed
  rw [show (0 : Int32) = nI 0 from rfl, ts_in (Nat.zero_le _), bd1_s, if_pos rfl, tk_out o]
  rfl
theorem R_weak1 (o : outR 0 5 x) : FC_weak st x (0 : Int32) z = some (-11) := by
  have e : f5_positionsOf (0 : Int32) = some (nI 6) := rfl
  unfold FC_weak F_weak f5_weak
  rcases o with o | ⟨n, h1, h2, rfl⟩
  · rw [if_pos o]
    rfl
  · rw [if_neg (nI_pos h2), e, bd1_s, if_neg (nI_nlt (by omega) h2)]
    rfl
theorem R_weak2 (o : outR 0 4 x) : FC_weak st x (1 : Int32) z = some (-11) := by
  have e : f5_positionsOf (1 : Int32) = some (nI 5) := rfl
  unfold FC_weak F_weak f5_weak
  rcases o with o | ⟨n, h1, h2, rfl⟩
  · rw [if_pos o]
    rfl
  · rw [if_neg (nI_pos h2), e, bd1_s, if_neg (nI_nlt (by omega) h2)]
    rfl
theorem R_weak3 (o : outR 0 1 y) : FC_weak st (5 : Int32) y z = some (-12) := by
  have e : f5_positionsOf y = some (nI 6) := by
    unfold f5_positionsOf
    rw [if_neg (show ¬ y = (1 : Int32) from out_ne o (n := 1) (by omega) (by omega) (by decide))]
    rfl
  unfold FC_weak F_weak f5_weak
  rw [if_neg (by decide), e, bd1_s, if_pos (by decide)]
  rcases o with o | ⟨n, h1, h2, rfl⟩
  · rw [if_pos o]
    rfl
  · rw [if_neg (nI_pos h2), if_pos (by rw [qL1, nI_ltI (by decide) h2]; omega)]
    rfl
theorem R_weak4 (o : outR 0 1 z) : FC_weak st (4 : Int32) (1 : Int32) z = some (-12) := by
  have e : f5_positionsOf (1 : Int32) = some (nI 5) := rfl
  unfold FC_weak F_weak f5_weak
  rw [if_neg (by decide), e, bd1_s, if_pos (by decide), if_neg (by decide), if_neg (by decide), ite_out (a := 0) (b := 1) rfl rfl (by decide) (by decide) o]
  rfl
theorem R_bestWeight (o : outR 0 5 x) : FC_bestWeight st x y z = some (-11) := by
  have e : f5_bestWeight st.1.2.1 st.1.2.2.1 x = some (1, 0) := s5_bestWeightX (by
    rcases o with o | ⟨n, h1, h2, h3⟩
    · exact Or.inl o
    · exact Or.inr ⟨n, by omega, h2, h3⟩)
  unfold FC_bestWeight F_bestWeight
  rw [e]
  rfl
theorem R_finds (o : outR 0 2 x) : FC_finds st x y z = some (-12) := by
  unfold FC_finds F_finds f5_finds
  rw [tk_out o]
  rfl
theorem R_meant1 (o : outR 0 999999 x) : FC_meant st x y z = some (-11) := by
  unfold FC_meant F_meant f5_meant
  rw [ts_out o]
  rfl
theorem R_meant2 (o : outR 0 25 y) : FC_meant st (0 : Int32) y z = some (-12) := by
  unfold FC_meant F_meant f5_meant
  rw [show (0 : Int32) = nI 0 from rfl, ts_in (Nat.zero_le _), bd1_s, if_pos rfl, tl_out o]
  rfl
theorem R_meant3 (o : z < -1) : FC_meant st (0 : Int32) (25 : Int32) z = some (-12) := by
  unfold FC_meant F_meant f5_meant
  rw [show (0 : Int32) = nI 0 from rfl, show (25 : Int32) = nI 25 from rfl, ts_in (Nat.zero_le _), bd1_s, if_pos rfl, tl_in (Nat.le_refl _), bd1_s, if_pos rfl, if_neg (q_ltn o)]
  rfl
theorem R_slip1 (o : outR 0 999999 x) : FC_slip st x y z = some (-11) := by
  unfold FC_slip F_slip f5_slip
  rw [ts_out o]
  rfl
theorem R_slip2 (o : outR 0 999999 y) : FC_slip st (0 : Int32) y z = some (-11) := by
  unfold FC_slip F_slip f5_slip
  rw [show (0 : Int32) = nI 0 from rfl, ts_in (Nat.zero_le _), bd1_s, if_pos rfl, ts_out o]
  rfl
theorem R_slip3 (o : outR 0 25 z) : FC_slip st (0 : Int32) (0 : Int32) z = some (-12) := by
  unfold FC_slip F_slip f5_slip
  rw [show (0 : Int32) = nI 0 from rfl, ts_in (Nat.zero_le _), bd1_s, if_pos rfl, bd1_s, if_pos rfl, tl_out o]
  rfl
end Refused
theorem ref_670 {st : ST} {x2 x3 s0 : Int32} (o2 : outR 0 999999 x2) (o3 : outR 0 25 x3) (o : s0 < -1) : fL_refusesOne_j670 st x2 x3 s0 = some (1, st) := by
  rw [fL_refusesOne_j670, R_meant3 o, bd1_s, if_pos rfl, R_slip1 o2, bd1_s, if_pos rfl, R_slip2 o2, bd1_s, if_pos rfl, R_slip3 o3, bd1_s, if_pos rfl]
theorem ref_552 {st : ST} {k : Nat} {x2 x3 s0 : Int32} (hk : k < 4) (o2 : outR 0 999999 x2) (o3 : outR 0 25 x3) (o : outR 0 1 s0) : fL_refusesOne_j552 st (nI k) x2 x3 s0 = some (1, st) := by
  obtain ⟨a1, e1, p1⟩ := far_out hk (lo := 0) (hi := 1) (by decide) (by decide)
  obtain ⟨a2, e2, p2⟩ := far_out hk (lo := 0) (hi := 5) (by decide) (by decide)
  obtain ⟨a3, e3, p3⟩ := far_out hk (lo := 0) (hi := 2) (by decide) (by decide)
  rw [fL_refusesOne_j552, R_weak3 o, bd1_s, if_pos rfl, show fL_far (nI k) (0 : Int32) (1 : Int32) = some a1 from e1, bd1_s, R_weak4 p1, bd1_s, if_pos rfl, show fL_far (nI k) (0 : Int32) (5 : Int32) = some a2 from e2, bd1_s, R_bestWeight p2, bd1_s, if_pos rfl, show fL_far (nI k) (0 : Int32) (2 : Int32) = some a3 from e3, bd1_s, R_finds p3, bd1_s, if_pos rfl, R_meant1 o2, bd1_s, if_pos rfl, R_meant2 o3, bd1_s, if_pos rfl]
  rcases (show k = 0 ∨ k = 1 ∨ k = 2 ∨ k = 3 by omega) with rfl | rfl | rfl | rfl
  · exact ref_670 o2 o3 (by decide)
  · exact ref_670 o2 o3 (by decide)
  · exact ref_670 o2 o3 (by decide)
  · exact ref_670 o2 o3 (by decide)
theorem ref_461 {st : ST} {k : Nat} {x2 x3 : Int32} (hk : k < 4) (o2 : outR 0 999999 x2) (o3 : outR 0 25 x3) : fL_refusesOne_j461 st (nI k) x2 x3 = some (1, st) := by
  obtain ⟨a1, e1, p1⟩ := far_out hk (lo := 0) (hi := 2) (by decide) (by decide)
  obtain ⟨a2, e2, p2⟩ := far_out hk (lo := 0) (hi := 5) (by decide) (by decide)
  obtain ⟨a3, e3, p3⟩ := far_out hk (lo := 0) (hi := 4) (by decide) (by decide)
  obtain ⟨a4, e4, p4⟩ := far_out hk (lo := 2) (hi := 3) (by decide) (by decide)
  rw [fL_refusesOne_j461, R_missed1 o2, bd1_s, if_pos rfl, show fL_far (nI k) (0 : Int32) (2 : Int32) = some a1 from e1, bd1_s, R_missed2 p1, bd1_s, if_pos rfl, show fL_far (nI k) (0 : Int32) (5 : Int32) = some a2 from e2, bd1_s, R_weak1 p2, bd1_s, if_pos rfl, show fL_far (nI k) (0 : Int32) (4 : Int32) = some a3 from e3, bd1_s, R_weak2 p3, bd1_s, if_pos rfl]
  by_cases h0 : k = 0
  · subst h0
    rw [if_pos (show nI 0 = (0 : Int32) from rfl)]
    exact ref_552 (by decide) o2 o3 (Or.inl (by decide))
  · rw [if_neg (nI_ne0 (by omega) (by omega)), show fL_far (nI k) (2 : Int32) (3 : Int32) = some a4 from e4, bd1_s]
    refine ref_552 hk o2 o3 ?_
    rcases (show k = 1 ∨ k = 2 ∨ k = 3 by omega) with rfl | rfl | rfl
    · cases e4
      exact Or.inr ⟨4, by omega, by decide, rfl⟩
    · cases e4
      exact Or.inl (by decide)
    · cases e4
      exact Or.inr ⟨2147483647, by omega, by decide, rfl⟩
theorem ref_372 {st : ST} {h m : Nat} {W F Z K M : NF} (hG : IG st.1 h m W F Z K M) {k : Nat} {x2 x3 s0 : Int32} (hk : k < 4) (o2 : outR 0 999999 x2) (o3 : outR 0 25 x3) (o : s0 < 0) : fL_refusesOne_j372 st (nI k) x2 x3 s0 = some (1, st) := by
  have hh := hG.2.1.1
  have hbh : st.1.2.2.2.1 = nI h := hG.2.2.2.2.1.1
  rw [fL_refusesOne_j372, R_ranked o, bd1_s, if_pos rfl, cnt0, bd2_s, if_pos rfl, hbh]
  by_cases h0 : h = 0
  · subst h0
    rw [if_pos (by decide)]
    exact ref_461 hk o2 o3
  · obtain ⟨a1, e1, p1⟩ := far_out hk (lo := 0) (hi := 4) (by decide) (by decide)
    obtain ⟨a2, e2, p2⟩ := far_out hk (lo := 0) (hi := 8) (by decide) (by decide)
    obtain ⟨a3, e3, p3⟩ := far_out hk (lo := 1) (hi := 999) (by decide) (by decide)
    have hT : 0 < rk h F Z 1000000 := by
      have h1 := hG.2.1.2.1 0 (by omega)
      refine fb_ct_pos.mpr ⟨F 0, by omega, inS_iff.mpr ⟨0, by omega, Nat.le_refl _, by omega⟩⟩
    obtain ⟨s, b, r1, r2⟩ := rank_in hG hT
    rw [if_neg (show ¬ nI h ≤ (0 : Int32) from nI_ge (a := 0) (b := h) (by omega) (by omega)), show F_ranked st (0 : Int32) = some (0, nI s) from r1, bd2_s, if_pos rfl, show fL_far (nI k) (0 : Int32) (4 : Int32) = some a1 from e1, bd1_s, R_cheque2 hG r2 p1, bd1_s, if_pos rfl, show fL_far (nI k) (0 : Int32) (8 : Int32) = some a2 from e2, bd1_s, R_bookOf2 hG (by omega) p2, bd1_s, if_pos rfl, bd2_s, if_pos rfl, show fL_far (nI k) (1 : Int32) (999 : Int32) = some a3 from e3, bd1_s, R_write2 hG r2 p3, bd2_s, if_pos rfl]
    exact ref_461 hk o2 o3
theorem refusesOne_ok {st : ST} (hI : IV st) (h0 : st.2.1 = 0) {k : Nat} (hk : k < 4) : fL_refusesOne st (nI k) = some (1, st) := by
  obtain ⟨h, m, W, F, Z, K, M, d, hG, -⟩ := IV_get hI
  have hh := hG.2.1.1
  have hbh : st.1.2.2.2.1 = nI h := hG.2.2.2.2.1.1
  obtain ⟨x2, e2, o2⟩ := far_out hk (lo := 0) (hi := 999999) (by decide) (by decide)
  obtain ⟨x3, e3, o3⟩ := far_out hk (lo := 0) (hi := 25) (by decide) (by decide)
  obtain ⟨a1, f1, p1⟩ := far_out hk (lo := 0) (hi := 5) (by decide) (by decide)
  obtain ⟨a2, f2, p2⟩ := far_out hk (lo := 1) (hi := 9) (by decide) (by decide)
  obtain ⟨a3, f3, p3⟩ := far_out hk (lo := 7) (hi := 26) (by decide) (by decide)
  obtain ⟨a4, f4, p4⟩ := far_out hk (lo := 1) (hi := 40) (by decide) (by decide)
  obtain ⟨a5, f5, p5⟩ := far_out hk (lo := 33) (hi := 126) (by decide) (by decide)
  obtain ⟨a6, f6, p6⟩ := far_out hk (lo := 0) (hi := 1) (by decide) (by decide)
  obtain ⟨a7, f7, p7⟩ := far_book hk hh
  obtain ⟨a8, f8, p8⟩ := far_out hk (lo := 0) (hi := 17) (by decide) (by decide)
  rw [fL_refusesOne, show fL_far (nI k) (0 : Int32) (999999 : Int32) = some x2 from e2, bd1_s, show fL_far (nI k) (0 : Int32) (25 : Int32) = some x3 from e3, bd1_s, show fL_far (nI k) (0 : Int32) (5 : Int32) = some a1 from f1, bd1_s, R_weight1 p1, bd2_s, if_pos rfl,
    show fL_far (nI k) (1 : Int32) (9 : Int32) = some a2 from f2, bd1_s, R_weight2 p2, bd2_s, if_pos rfl, show fL_far (nI k) (7 : Int32) (26 : Int32) = some a3 from f3, bd1_s, R_modulus p3, bd2_s, if_pos rfl, R_book1 o2, bd2_s, if_pos rfl,
    show fL_far (nI k) (1 : Int32) (40 : Int32) = some a4 from f4, bd1_s, R_book2 p4, bd2_s, if_pos rfl, show FC_book st ((999999 : Int32) - nI k) ((2 : Int32) + nI k) (0 : Int32) = some (-11, st) from R_book3 hk, bd2_s, if_pos rfl, R_write1 hG o2, bd2_s, if_pos rfl, R_cash1 o2, bd2_s, if_pos rfl, R_cash2 o3, bd2_s, if_pos rfl,
    R_void1 o2, bd2_s, if_pos rfl, R_void2 o2, bd2_s, if_pos rfl, show FC_voidRun st (999999 : Int32) ((999998 : Int32) - nI k) (0 : Int32) = some (-12, st) from R_void3 hk, bd2_s, if_pos rfl, show fL_far (nI k) (33 : Int32) (126 : Int32) = some a5 from f5, bd1_s, R_append p5, bd2_s, if_pos rfl, R_execute h0, bd2_s, if_pos rfl,
    show fL_far (nI k) (0 : Int32) (1 : Int32) = some a6 from f6, bd1_s, R_keep p6, bd2_s, if_pos rfl, bd1_s, R_goBack p6, bd2_s, if_pos rfl, R_letter o2, bd1_s, if_pos rfl, R_cheque1 hG o2, bd1_s, if_pos rfl, cnt0, bd2_s, if_pos rfl, hbh,
    show fL_far (nI k) (0 : Int32) (nI h - (1 : Int32)) = some a7 from f7, bd1_s, R_bookOf1 hG p7, bd1_s, if_pos rfl, show fL_far (nI k) (0 : Int32) (17 : Int32) = some a8 from f8, bd1_s, R_count p8, bd1_s, if_pos rfl]
  rcases (show k = 0 ∨ k = 1 ∨ k = 2 ∨ k = 3 by omega) with rfl | rfl | rfl | rfl
  · exact ref_372 hG hk o2 o3 (by decide)
  · exact ref_372 hG hk o2 o3 (by decide)
  · exact ref_372 hG hk o2 o3 (by decide)
  · exact ref_372 hG hk o2 o3 (by decide)
theorem lg_self (x : Int64) : lg_cmp x x = 0 := by simp [lg_cmp]
theorem refused_l {st : ST} (hI : IV st) (h0 : st.2.1 = 0) : ∀ (n k : Nat), k + n = 5 → 1 ≤ n → fL_refused_l15 (sn st.1) st.2.2.2.1 n (nI k) st = some (1, st) := by
  intro n
  induction n with
  | zero => intro k hk hn; omega
  | succ n ih =>
    intro k hk hn
    rw [fL_refused_l15]
    by_cases h4 : k = 4
    · subst h4
      rw [if_pos (by decide), seen_ok hI, bd1_s, lg_self, if_pos rfl, cnt10, bd2_s, if_pos rfl, if_pos rfl]
    · have c1 : ¬ (4 : Int32) ≤ nI k := by rw [show (4 : Int32) = nI 4 from rfl, nI_leI (by decide) (by omega)]; omega
      rw [if_neg c1, refusesOne_ok hI h0 (by omega), bd2_s, if_neg (by decide), qL1, nI_add]
      exact ih (k + 1) (by omega) (by omega)
theorem refused_ok {st : ST} (hI : IV st) (h0 : st.2.1 = 0) : fL_refused st = some (1, st) := by
  rw [fL_refused, seen_ok hI, bd1_s, cnt10, bd2_s, if_pos rfl]
  exact refused_l hI h0 5 0 rfl (by decide)
