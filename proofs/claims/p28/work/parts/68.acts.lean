
/-! ===== pure rows of the law: the calls that it draws ===== -/
/-- one state saved on the way to another -/
def Sv (st st' : ST) : Prop := (∃ b, f1_save st.2.2.2.1 dA st.2.2.2.2.2.2.1 st.1.1 st.1.2.1 st.1.2.2.1 st.1.2.2.2.1 st.1.2.2.2.2.1 st.1.2.2.2.2.2.1 st.1.2.2.2.2.2.2.1 st.1.2.2.2.2.2.2.2 = some (st'.2.2.2.1, b, st'.2.2.2.2.2.2.1)) ∧ st'.2.2.2.2.1 = st.2.2.2.2.1 ∧ st'.2.2.2.2.2.2.2 = st.2.2.2.2.2.2.2 ∧ st'.2.1 = st.2.1
theorem IV_weight {st : ST} (hI : IV st) (x1 : Int32) (x2 : Int32) : ∃ (k : Nat) (r : Int32) (st' : ST), F_weight st x1 x2 = some (k, r, st') ∧ IV st' := by
  obtain ⟨mN, mP, ms, mK, mI, mT, ml, hI⟩ := hI
  obtain ⟨k, r, z_wW, z_kd, z_kA, z_kV, r6, z_ms, z_mt, z_mN, z_mP, h5, -, -, -, -, h⟩ := T_weight hI dA 0 x1 x2
  refine ⟨k, r, ((st.1.1, st.1.2.1, z_wW, st.1.2.2.2.1, st.1.2.2.2.2.1, st.1.2.2.2.2.2.1, st.1.2.2.2.2.2.2.1, st.1.2.2.2.2.2.2.2), st.2.1, st.2.2.1, z_kd, st.2.2.2.2.1, (if k = 0 ∧ st.2.2.2.1 = 6 then st.2.2.2.2.2.1 + 1 else st.2.2.2.2.2.1), z_kV, st.2.2.2.2.2.2.2), ?_, _, _, _, _, _, _, _, h⟩
  unfold F_weight
  rw [h5]
  rfl
theorem IV_modulus {st : ST} (hI : IV st) (x1 : Int32) : ∃ (k : Nat) (r : Int32) (st' : ST), F_modulus st x1 = some (k, r, st') ∧ IV st' := by
  obtain ⟨mN, mP, ms, mK, mI, mT, ml, hI⟩ := hI
  obtain ⟨k, r, z_wm, z_kd, z_kA, z_kV, r6, z_ms, z_mt, z_mN, z_mP, h5, -, -, -, -, h⟩ := T_modulus hI dA 0 x1
  refine ⟨k, r, ((st.1.1, z_wm, st.1.2.2.1, st.1.2.2.2.1, st.1.2.2.2.2.1, st.1.2.2.2.2.2.1, st.1.2.2.2.2.2.2.1, st.1.2.2.2.2.2.2.2), st.2.1, st.2.2.1, z_kd, st.2.2.2.2.1, (if k = 0 ∧ st.2.2.2.1 = 6 then st.2.2.2.2.2.1 + 1 else st.2.2.2.2.2.1), z_kV, st.2.2.2.2.2.2.2), ?_, _, _, _, _, _, _, _, h⟩
  unfold F_modulus
  rw [h5]
  rfl
theorem IV_book {st : ST} (hI : IV st) (x1 : Int32) (x2 : Int32) : ∃ (k : Nat) (r : Int32) (st' : ST), F_book st x1 x2 = some (k, r, st') ∧ IV st' := by
  obtain ⟨mN, mP, ms, mK, mI, mT, ml, hI⟩ := hI
  obtain ⟨k, r, z_bh, z_bF, z_bZ, z_bK, z_bM, z_kd, z_kA, z_kV, r6, z_ms, z_mt, z_mN, z_mP, h5, -, -, -, -, h⟩ := T_book hI dA 0 x1 x2
  refine ⟨k, r, ((st.1.1, st.1.2.1, st.1.2.2.1, z_bh, z_bF, z_bZ, z_bK, z_bM), st.2.1, st.2.2.1, z_kd, st.2.2.2.2.1, (if k = 0 ∧ st.2.2.2.1 = 6 then st.2.2.2.2.2.1 + 1 else st.2.2.2.2.2.1), z_kV, st.2.2.2.2.2.2.2), ?_, _, _, _, _, _, _, _, h⟩
  unfold F_book
  rw [h5]
  rfl
theorem IV_write {st : ST} (hI : IV st) (x1 : Int32) (x2 : Int32) : ∃ (k : Nat) (r : Int32) (st' : ST), F_write st x1 x2 = some (k, r, st') ∧ IV st' := by
  obtain ⟨mN, mP, ms, mK, mI, mT, ml, hI⟩ := hI
  obtain ⟨k, r, z_bK, z_bM, z_kd, z_kA, z_kV, r6, z_ms, z_mt, z_mN, z_mP, h5, -, -, -, -, h⟩ := T_write hI dA 0 x1 x2
  refine ⟨k, r, ((st.1.1, st.1.2.1, st.1.2.2.1, st.1.2.2.2.1, st.1.2.2.2.2.1, st.1.2.2.2.2.2.1, z_bK, z_bM), st.2.1, st.2.2.1, z_kd, st.2.2.2.2.1, (if k = 0 ∧ st.2.2.2.1 = 6 then st.2.2.2.2.2.1 + 1 else st.2.2.2.2.2.1), z_kV, st.2.2.2.2.2.2.2), ?_, _, _, _, _, _, _, _, h⟩
  unfold F_write
  rw [h5]
  rfl
theorem IV_cash {st : ST} (hI : IV st) (x1 : Int32) (x2 : Int32) : ∃ (k : Nat) (r : Int32) (st' : ST), F_cash st x1 x2 = some (k, r, st') ∧ IV st' := by
  obtain ⟨mN, mP, ms, mK, mI, mT, ml, hI⟩ := hI
  obtain ⟨k, r, z_sr, z_bK, z_bM, z_kd, z_kA, z_kV, r6, z_ms, z_mt, z_mN, z_mP, h5, -, -, -, -, h⟩ := T_cash hI dA 0 x1 x2
  refine ⟨k, r, ((z_sr, st.1.2.1, st.1.2.2.1, st.1.2.2.2.1, st.1.2.2.2.2.1, st.1.2.2.2.2.2.1, z_bK, z_bM), st.2.1, st.2.2.1, z_kd, st.2.2.2.2.1, (if k = 0 ∧ st.2.2.2.1 = 6 then st.2.2.2.2.2.1 + 1 else st.2.2.2.2.2.1), z_kV, st.2.2.2.2.2.2.2), ?_, _, _, _, _, _, _, _, h⟩
  unfold F_cash
  rw [h5]
  rfl
theorem IV_voidRun {st : ST} (hI : IV st) (x1 : Int32) (x2 : Int32) : ∃ (k : Nat) (r : Int32) (st' : ST), F_voidRun st x1 x2 = some (k, r, st') ∧ IV st' := by
  obtain ⟨mN, mP, ms, mK, mI, mT, ml, hI⟩ := hI
  obtain ⟨k, r, z_bK, z_bM, z_kd, z_kA, z_kV, r6, z_ms, z_mt, z_mN, z_mP, h5, -, -, -, -, h⟩ := T_voidRun hI dA 0 x1 x2
  refine ⟨k, r, ((st.1.1, st.1.2.1, st.1.2.2.1, st.1.2.2.2.1, st.1.2.2.2.2.1, st.1.2.2.2.2.2.1, z_bK, z_bM), st.2.1, st.2.2.1, z_kd, st.2.2.2.2.1, (if k = 0 ∧ st.2.2.2.1 = 6 then st.2.2.2.2.2.1 + 1 else st.2.2.2.2.2.1), z_kV, st.2.2.2.2.2.2.2), ?_, _, _, _, _, _, _, _, h⟩
  unfold F_voidRun
  rw [h5]
  rfl
theorem IV_goBack {st : ST} (hI : IV st) (x1 : Int32) : ∃ (k : Nat) (r : Int32) (st' : ST), F_goBack st x1 = some (k, r, st') ∧ IV st' := by
  obtain ⟨mN, mP, ms, mK, mI, mT, ml, hI⟩ := hI
  obtain ⟨k, r, z_sr, z_wm, z_wW, z_bh, z_bF, z_bZ, z_bK, z_bM, z_kd, z_kA, z_kV, r6, z_ms, z_mt, z_mN, z_mP, h5, -, -, -, -, h⟩ := T_goBack hI dA 0 x1
  refine ⟨k, r, ((z_sr, z_wm, z_wW, z_bh, z_bF, z_bZ, z_bK, z_bM), st.2.1, st.2.2.1, z_kd, st.2.2.2.2.1, (if k = 0 ∧ st.2.2.2.1 = 6 then st.2.2.2.2.2.1 + 1 else st.2.2.2.2.2.1), z_kV, st.2.2.2.2.2.2.2), ?_, _, _, _, _, _, _, _, h⟩
  unfold F_goBack
  rw [h5]
  rfl
theorem IV_undo {st : ST} (hI : IV st) : ∃ (k : Nat) (r : Int32) (st' : ST), F_undo st = some (k, r, st') ∧ IV st' := by
  obtain ⟨mN, mP, ms, mK, mI, mT, ml, hI⟩ := hI
  obtain ⟨k, r, z_sr, z_wm, z_wW, z_bh, z_bF, z_bZ, z_bK, z_bM, z_kd, r6, z_ms, z_mt, z_mN, h5, -, -, -, h⟩ := T_undo hI dA 0
  refine ⟨k, r, ((z_sr, z_wm, z_wW, z_bh, z_bF, z_bZ, z_bK, z_bM), st.2.1, st.2.2.1, z_kd, st.2.2.2.2.1, st.2.2.2.2.2.1, st.2.2.2.2.2.2.1, st.2.2.2.2.2.2.2), ?_, _, _, _, _, _, _, _, h⟩
  unfold F_undo
  rw [h5]
  rfl
theorem IV_keep {st : ST} (hI : IV st) (x1 : Int32) : ∃ (k : Nat) (r : Int32) (st' : ST), F_keep st x1 = some (k, r, st') ∧ IV st' := by
  obtain ⟨mN, mP, ms, mK, mI, mT, ml, hI⟩ := hI
  obtain ⟨k, r, z_kf, z_kP, r6, z_mt, z_mK, z_mI, h5, -, -, -, h⟩ := T_keep hI dA 0 x1
  refine ⟨k, r, (st.1, st.2.1, st.2.2.1, st.2.2.2.1, z_kf, st.2.2.2.2.2.1, st.2.2.2.2.2.2.1, z_kP), ?_, _, _, _, _, _, _, _, h⟩
  unfold F_keep
  rw [h5]
  rfl
theorem SH_weight {st : ST} {x1 : Int32} {x2 : Int32} {k : Nat} {r : Int32} {st' : ST} (hF : F_weight st x1 x2 = some (k, r, st')) : (k ≠ 0 → st' = st) ∧ (k = 0 → Sv st st') := by
  obtain ⟨k0, r0, z_wW, z_kd, z_kA, z_kV, h, e⟩ := bd6_at hF
  cases e
  have q : Ok (fun z => (z.1 ≠ 0 → z.2.2.1 = st.1.2.2.1 ∧ z.2.2.2.1 = st.2.2.2.1 ∧ z.2.2.2.2.2 = st.2.2.2.2.2.2.1) ∧ (z.1 = 0 → ∃ b, f1_save st.2.2.2.1 dA st.2.2.2.2.2.2.1 st.1.1 st.1.2.1 st.1.2.2.1 st.1.2.2.2.1 st.1.2.2.2.2.1 st.1.2.2.2.2.2.1 st.1.2.2.2.2.2.2.1 st.1.2.2.2.2.2.2.2 = some (z.2.2.2.1, b, z.2.2.2.2.2))) (f5_weight st.1.1 st.1.2.1 st.1.2.2.1 st.1.2.2.2.1 st.1.2.2.2.2.1 st.1.2.2.2.2.2.1 st.1.2.2.2.2.2.2.1 st.1.2.2.2.2.2.2.2 st.2.2.2.1 dA st.2.2.2.2.2.2.1 x1 x2) := by
    unfold f5_weight
    repeat (first | (refine ok_save (fun a b c hs => ?_)) | (refine ok_bd1 (fun _ => ?_)) | (refine ok_bd2 (fun _ _ => ?_)) | (refine ok_bd3 (fun _ _ _ => ?_)) | (refine ok_bd4 (fun _ _ _ _ => ?_)) | (refine ok_bd6 (fun _ _ _ _ _ _ => ?_)) | (refine ok_bd8 (fun _ _ _ _ _ _ _ _ => ?_)) | (refine ok_ite (fun _ => ?_) (fun _ => ?_)) | exact ok_none | (focus (refine ok_some ?_; simp; done)) | (focus (refine ok_some ?_; simp [*]; done)))
  obtain ⟨q1, q2⟩ := q _ h
  refine ⟨fun hk => ?_, fun hk => ⟨q2 hk, rfl, rfl, rfl⟩⟩
  obtain ⟨g0, g1, g2⟩ := q1 hk
  have g0 := g0
  dsimp only at g0
  rw [g0]
  have g1 := g1
  dsimp only at g1
  rw [g1]
  have g2 := g2
  dsimp only at g2
  rw [g2]
  rw [if_neg (fun q => hk q.1)]
theorem SH_modulus {st : ST} {x1 : Int32} {k : Nat} {r : Int32} {st' : ST} (hF : F_modulus st x1 = some (k, r, st')) : (k ≠ 0 → st' = st) ∧ (k = 0 → Sv st st') := by
  obtain ⟨k0, r0, z_wm, z_kd, z_kA, z_kV, h, e⟩ := bd6_at hF
  cases e
  have q : Ok (fun z => (z.1 ≠ 0 → z.2.2.1 = st.1.2.1 ∧ z.2.2.2.1 = st.2.2.2.1 ∧ z.2.2.2.2.2 = st.2.2.2.2.2.2.1) ∧ (z.1 = 0 → ∃ b, f1_save st.2.2.2.1 dA st.2.2.2.2.2.2.1 st.1.1 st.1.2.1 st.1.2.2.1 st.1.2.2.2.1 st.1.2.2.2.2.1 st.1.2.2.2.2.2.1 st.1.2.2.2.2.2.2.1 st.1.2.2.2.2.2.2.2 = some (z.2.2.2.1, b, z.2.2.2.2.2))) (f5_modulus st.1.1 st.1.2.1 st.1.2.2.1 st.1.2.2.2.1 st.1.2.2.2.2.1 st.1.2.2.2.2.2.1 st.1.2.2.2.2.2.2.1 st.1.2.2.2.2.2.2.2 st.2.2.2.1 dA st.2.2.2.2.2.2.1 x1) := by
    unfold f5_modulus
    repeat (first | (refine ok_save (fun a b c hs => ?_)) | (refine ok_bd1 (fun _ => ?_)) | (refine ok_bd2 (fun _ _ => ?_)) | (refine ok_bd3 (fun _ _ _ => ?_)) | (refine ok_bd4 (fun _ _ _ _ => ?_)) | (refine ok_bd6 (fun _ _ _ _ _ _ => ?_)) | (refine ok_bd8 (fun _ _ _ _ _ _ _ _ => ?_)) | (refine ok_ite (fun _ => ?_) (fun _ => ?_)) | exact ok_none | (focus (refine ok_some ?_; simp; done)) | (focus (refine ok_some ?_; simp [*]; done)))
  obtain ⟨q1, q2⟩ := q _ h
  refine ⟨fun hk => ?_, fun hk => ⟨q2 hk, rfl, rfl, rfl⟩⟩
  obtain ⟨g0, g1, g2⟩ := q1 hk
  have g0 := g0
  dsimp only at g0
  rw [g0]
  have g1 := g1
  dsimp only at g1
  rw [g1]
  have g2 := g2
  dsimp only at g2
  rw [g2]
  rw [if_neg (fun q => hk q.1)]
theorem SH_book {st : ST} {x1 : Int32} {x2 : Int32} {k : Nat} {r : Int32} {st' : ST} (hF : F_book st x1 x2 = some (k, r, st')) : (k ≠ 0 → st' = st) ∧ (k = 0 → Sv st st') := by
  obtain ⟨k0, r0, z_bh, z_bF, z_bZ, z_bK, z_bM, z_kd, z_kA, z_kV, h, e⟩ := bd10_at hF
  cases e
  have q : Ok (fun z => (z.1 ≠ 0 → z.2.2.1 = st.1.2.2.2.1 ∧ z.2.2.2.1 = st.1.2.2.2.2.1 ∧ z.2.2.2.2.1 = st.1.2.2.2.2.2.1 ∧ z.2.2.2.2.2.1 = st.1.2.2.2.2.2.2.1 ∧ z.2.2.2.2.2.2.1 = st.1.2.2.2.2.2.2.2 ∧ z.2.2.2.2.2.2.2.1 = st.2.2.2.1 ∧ z.2.2.2.2.2.2.2.2.2 = st.2.2.2.2.2.2.1) ∧ (z.1 = 0 → ∃ b, f1_save st.2.2.2.1 dA st.2.2.2.2.2.2.1 st.1.1 st.1.2.1 st.1.2.2.1 st.1.2.2.2.1 st.1.2.2.2.2.1 st.1.2.2.2.2.2.1 st.1.2.2.2.2.2.2.1 st.1.2.2.2.2.2.2.2 = some (z.2.2.2.2.2.2.2.1, b, z.2.2.2.2.2.2.2.2.2))) (f5_book st.1.1 st.1.2.1 st.1.2.2.1 st.1.2.2.2.1 st.1.2.2.2.2.1 st.1.2.2.2.2.2.1 st.1.2.2.2.2.2.2.1 st.1.2.2.2.2.2.2.2 st.2.2.2.1 dA st.2.2.2.2.2.2.1 x1 x2) := by
    unfold f5_book
    repeat (first | (refine ok_save (fun a b c hs => ?_)) | (refine ok_bd1 (fun _ => ?_)) | (refine ok_bd2 (fun _ _ => ?_)) | (refine ok_bd3 (fun _ _ _ => ?_)) | (refine ok_bd4 (fun _ _ _ _ => ?_)) | (refine ok_bd6 (fun _ _ _ _ _ _ => ?_)) | (refine ok_bd8 (fun _ _ _ _ _ _ _ _ => ?_)) | (refine ok_ite (fun _ => ?_) (fun _ => ?_)) | exact ok_none | (focus (refine ok_some ?_; simp; done)) | (focus (refine ok_some ?_; simp [*]; done)))
  obtain ⟨q1, q2⟩ := q _ h
  refine ⟨fun hk => ?_, fun hk => ⟨q2 hk, rfl, rfl, rfl⟩⟩
  obtain ⟨g0, g1, g2, g3, g4, g5, g6⟩ := q1 hk
  have g0 := g0
  dsimp only at g0
  rw [g0]
  have g1 := g1
  dsimp only at g1
  rw [g1]
  have g2 := g2
  dsimp only at g2
  rw [g2]
  have g3 := g3
  dsimp only at g3
  rw [g3]
  have g4 := g4
  dsimp only at g4
  rw [g4]
  have g5 := g5
  dsimp only at g5
  rw [g5]
  have g6 := g6
  dsimp only at g6
  rw [g6]
  rw [if_neg (fun q => hk q.1)]
theorem SH_write {st : ST} {x1 : Int32} {x2 : Int32} {k : Nat} {r : Int32} {st' : ST} (hF : F_write st x1 x2 = some (k, r, st')) : (k ≠ 0 → st' = st) ∧ (k = 0 → Sv st st') := by
  obtain ⟨k0, r0, z_bK, z_bM, z_kd, z_kA, z_kV, h, e⟩ := bd7_at hF
  cases e
  have q : Ok (fun z => (z.1 ≠ 0 → z.2.2.1 = st.1.2.2.2.2.2.2.1 ∧ z.2.2.2.1 = st.1.2.2.2.2.2.2.2 ∧ z.2.2.2.2.1 = st.2.2.2.1 ∧ z.2.2.2.2.2.2 = st.2.2.2.2.2.2.1) ∧ (z.1 = 0 → ∃ b, f1_save st.2.2.2.1 dA st.2.2.2.2.2.2.1 st.1.1 st.1.2.1 st.1.2.2.1 st.1.2.2.2.1 st.1.2.2.2.2.1 st.1.2.2.2.2.2.1 st.1.2.2.2.2.2.2.1 st.1.2.2.2.2.2.2.2 = some (z.2.2.2.2.1, b, z.2.2.2.2.2.2))) (f5_write st.1.1 st.1.2.1 st.1.2.2.1 st.1.2.2.2.1 st.1.2.2.2.2.1 st.1.2.2.2.2.2.1 st.1.2.2.2.2.2.2.1 st.1.2.2.2.2.2.2.2 st.2.2.2.1 dA st.2.2.2.2.2.2.1 x1 x2) := by
    unfold f5_write
    repeat (first | (refine ok_save (fun a b c hs => ?_)) | (refine ok_bd1 (fun _ => ?_)) | (refine ok_bd2 (fun _ _ => ?_)) | (refine ok_bd3 (fun _ _ _ => ?_)) | (refine ok_bd4 (fun _ _ _ _ => ?_)) | (refine ok_bd6 (fun _ _ _ _ _ _ => ?_)) | (refine ok_bd8 (fun _ _ _ _ _ _ _ _ => ?_)) | (refine ok_ite (fun _ => ?_) (fun _ => ?_)) | exact ok_none | (focus (refine ok_some ?_; simp; done)) | (focus (refine ok_some ?_; simp [*]; done)))
  obtain ⟨q1, q2⟩ := q _ h
  refine ⟨fun hk => ?_, fun hk => ⟨q2 hk, rfl, rfl, rfl⟩⟩
  obtain ⟨g0, g1, g2, g3⟩ := q1 hk
  have g0 := g0
  dsimp only at g0
  rw [g0]
  have g1 := g1
  dsimp only at g1
  rw [g1]
  have g2 := g2
  dsimp only at g2
  rw [g2]
  have g3 := g3
  dsimp only at g3
  rw [g3]
  rw [if_neg (fun q => hk q.1)]
theorem SH_cash {st : ST} {x1 : Int32} {x2 : Int32} {k : Nat} {r : Int32} {st' : ST} (hF : F_cash st x1 x2 = some (k, r, st')) : (k ≠ 0 → st' = st) ∧ (k = 0 → Sv st st') := by
  obtain ⟨k0, r0, z_sr, z_bK, z_bM, z_kd, z_kA, z_kV, h, e⟩ := bd8_at hF
  cases e
  have q : Ok (fun z => (z.1 ≠ 0 → z.2.2.1 = st.1.1 ∧ z.2.2.2.1 = st.1.2.2.2.2.2.2.1 ∧ z.2.2.2.2.1 = st.1.2.2.2.2.2.2.2 ∧ z.2.2.2.2.2.1 = st.2.2.2.1 ∧ z.2.2.2.2.2.2.2 = st.2.2.2.2.2.2.1) ∧ (z.1 = 0 → ∃ b, f1_save st.2.2.2.1 dA st.2.2.2.2.2.2.1 st.1.1 st.1.2.1 st.1.2.2.1 st.1.2.2.2.1 st.1.2.2.2.2.1 st.1.2.2.2.2.2.1 st.1.2.2.2.2.2.2.1 st.1.2.2.2.2.2.2.2 = some (z.2.2.2.2.2.1, b, z.2.2.2.2.2.2.2))) (f5_cash st.1.1 st.1.2.1 st.1.2.2.1 st.1.2.2.2.1 st.1.2.2.2.2.1 st.1.2.2.2.2.2.1 st.1.2.2.2.2.2.2.1 st.1.2.2.2.2.2.2.2 st.2.2.2.1 dA st.2.2.2.2.2.2.1 x1 x2) := by
    unfold f5_cash
    repeat (first | (refine ok_save (fun a b c hs => ?_)) | (refine ok_bd1 (fun _ => ?_)) | (refine ok_bd2 (fun _ _ => ?_)) | (refine ok_bd3 (fun _ _ _ => ?_)) | (refine ok_bd4 (fun _ _ _ _ => ?_)) | (refine ok_bd6 (fun _ _ _ _ _ _ => ?_)) | (refine ok_bd8 (fun _ _ _ _ _ _ _ _ => ?_)) | (refine ok_ite (fun _ => ?_) (fun _ => ?_)) | exact ok_none | (focus (refine ok_some ?_; simp; done)) | (focus (refine ok_some ?_; simp [*]; done)))
  obtain ⟨q1, q2⟩ := q _ h
  refine ⟨fun hk => ?_, fun hk => ⟨q2 hk, rfl, rfl, rfl⟩⟩
  obtain ⟨g0, g1, g2, g3, g4⟩ := q1 hk
  have g0 := g0
  dsimp only at g0
  rw [g0]
  have g1 := g1
  dsimp only at g1
  rw [g1]
  have g2 := g2
  dsimp only at g2
  rw [g2]
  have g3 := g3
  dsimp only at g3
  rw [g3]
  have g4 := g4
  dsimp only at g4
  rw [g4]
  rw [if_neg (fun q => hk q.1)]
theorem SH_voidRun {st : ST} {x1 : Int32} {x2 : Int32} {k : Nat} {r : Int32} {st' : ST} (hF : F_voidRun st x1 x2 = some (k, r, st')) : (k ≠ 0 → st' = st) ∧ (k = 0 → Sv st st') := by
  obtain ⟨k0, r0, z_bK, z_bM, z_kd, z_kA, z_kV, h, e⟩ := bd7_at hF
  cases e
  have q : Ok (fun z => (z.1 ≠ 0 → z.2.2.1 = st.1.2.2.2.2.2.2.1 ∧ z.2.2.2.1 = st.1.2.2.2.2.2.2.2 ∧ z.2.2.2.2.1 = st.2.2.2.1 ∧ z.2.2.2.2.2.2 = st.2.2.2.2.2.2.1) ∧ (z.1 = 0 → ∃ b, f1_save st.2.2.2.1 dA st.2.2.2.2.2.2.1 st.1.1 st.1.2.1 st.1.2.2.1 st.1.2.2.2.1 st.1.2.2.2.2.1 st.1.2.2.2.2.2.1 st.1.2.2.2.2.2.2.1 st.1.2.2.2.2.2.2.2 = some (z.2.2.2.2.1, b, z.2.2.2.2.2.2))) (f5_voidRun st.1.1 st.1.2.1 st.1.2.2.1 st.1.2.2.2.1 st.1.2.2.2.2.1 st.1.2.2.2.2.2.1 st.1.2.2.2.2.2.2.1 st.1.2.2.2.2.2.2.2 st.2.2.2.1 dA st.2.2.2.2.2.2.1 x1 x2) := by
    unfold f5_voidRun
    repeat (first | (refine ok_save (fun a b c hs => ?_)) | (refine ok_bd1 (fun _ => ?_)) | (refine ok_bd2 (fun _ _ => ?_)) | (refine ok_bd3 (fun _ _ _ => ?_)) | (refine ok_bd4 (fun _ _ _ _ => ?_)) | (refine ok_bd6 (fun _ _ _ _ _ _ => ?_)) | (refine ok_bd8 (fun _ _ _ _ _ _ _ _ => ?_)) | (refine ok_ite (fun _ => ?_) (fun _ => ?_)) | exact ok_none | (focus (refine ok_some ?_; simp; done)) | (focus (refine ok_some ?_; simp [*]; done)))
  obtain ⟨q1, q2⟩ := q _ h
  refine ⟨fun hk => ?_, fun hk => ⟨q2 hk, rfl, rfl, rfl⟩⟩
  obtain ⟨g0, g1, g2, g3⟩ := q1 hk
  have g0 := g0
  dsimp only at g0
  rw [g0]
  have g1 := g1
  dsimp only at g1
  rw [g1]
  have g2 := g2
  dsimp only at g2
  rw [g2]
  have g3 := g3
  dsimp only at g3
  rw [g3]
  rw [if_neg (fun q => hk q.1)]
theorem SH_goBack {st : ST} {x1 : Int32} {k : Nat} {r : Int32} {st' : ST} (hF : F_goBack st x1 = some (k, r, st')) : (k ≠ 0 → st' = st) ∧ (k = 0 → Sv st st') := by
  obtain ⟨k0, r0, z_sr, z_wm, z_wW, z_bh, z_bF, z_bZ, z_bK, z_bM, z_kd, z_kA, z_kV, h, e⟩ := bd13_at hF
  cases e
  have q : Ok (fun z => (z.1 ≠ 0 → z.2.2.1 = st.1.1 ∧ z.2.2.2.1 = st.1.2.1 ∧ z.2.2.2.2.1 = st.1.2.2.1 ∧ z.2.2.2.2.2.1 = st.1.2.2.2.1 ∧ z.2.2.2.2.2.2.1 = st.1.2.2.2.2.1 ∧ z.2.2.2.2.2.2.2.1 = st.1.2.2.2.2.2.1 ∧ z.2.2.2.2.2.2.2.2.1 = st.1.2.2.2.2.2.2.1 ∧ z.2.2.2.2.2.2.2.2.2.1 = st.1.2.2.2.2.2.2.2 ∧ z.2.2.2.2.2.2.2.2.2.2.1 = st.2.2.2.1 ∧ z.2.2.2.2.2.2.2.2.2.2.2.2 = st.2.2.2.2.2.2.1) ∧ (z.1 = 0 → ∃ b, f1_save st.2.2.2.1 dA st.2.2.2.2.2.2.1 st.1.1 st.1.2.1 st.1.2.2.1 st.1.2.2.2.1 st.1.2.2.2.2.1 st.1.2.2.2.2.2.1 st.1.2.2.2.2.2.2.1 st.1.2.2.2.2.2.2.2 = some (z.2.2.2.2.2.2.2.2.2.2.1, b, z.2.2.2.2.2.2.2.2.2.2.2.2))) (f5_goBack st.1.1 st.1.2.1 st.1.2.2.1 st.1.2.2.2.1 st.1.2.2.2.2.1 st.1.2.2.2.2.2.1 st.1.2.2.2.2.2.2.1 st.1.2.2.2.2.2.2.2 st.2.2.2.1 st.2.2.2.2.1 dA st.2.2.2.2.2.2.1 st.2.2.2.2.2.2.2 x1) := by
    unfold f5_goBack
    repeat (first | (refine ok_save (fun a b c hs => ?_)) | (refine ok_bd1 (fun _ => ?_)) | (refine ok_bd2 (fun _ _ => ?_)) | (refine ok_bd3 (fun _ _ _ => ?_)) | (refine ok_bd4 (fun _ _ _ _ => ?_)) | (refine ok_bd6 (fun _ _ _ _ _ _ => ?_)) | (refine ok_bd8 (fun _ _ _ _ _ _ _ _ => ?_)) | (refine ok_ite (fun _ => ?_) (fun _ => ?_)) | exact ok_none | (focus (refine ok_some ?_; simp; done)) | (focus (refine ok_some ?_; simp [*]; done)))
  obtain ⟨q1, q2⟩ := q _ h
  refine ⟨fun hk => ?_, fun hk => ⟨q2 hk, rfl, rfl, rfl⟩⟩
  obtain ⟨g0, g1, g2, g3, g4, g5, g6, g7, g8, g9⟩ := q1 hk
  have g0 := g0
  dsimp only at g0
  rw [g0]
  have g1 := g1
  dsimp only at g1
  rw [g1]
  have g2 := g2
  dsimp only at g2
  rw [g2]
  have g3 := g3
  dsimp only at g3
  rw [g3]
  have g4 := g4
  dsimp only at g4
  rw [g4]
  have g5 := g5
  dsimp only at g5
  rw [g5]
  have g6 := g6
  dsimp only at g6
  rw [g6]
  have g7 := g7
  dsimp only at g7
  rw [g7]
  have g8 := g8
  dsimp only at g8
  rw [g8]
  have g9 := g9
  dsimp only at g9
  rw [g9]
  rw [if_neg (fun q => hk q.1)]
/-- values: none is below what a caught exception becomes -/
theorem m9_n {n : Nat} (h : n < 2 ^ 31) : ¬ nI n < (-9 : Int32) := by
  rw [Int32.lt_iff_toInt_lt, nI_toInt h, show (-9 : Int32).toInt = -9 from rfl]
  omega
theorem V_weight {st : ST} (hI : IV st) {x1 x2 r : Int32} {st' : ST} (hF : F_weight st x1 x2 = some (0, r, st')) : ¬ r < (-9 : Int32) := by
  obtain ⟨h, m, W, F, Z, K, M, d, hG, -⟩ := IV_get hI
  obtain ⟨k0, r0, z_wW, z_kd, z_kA, z_kV, h5, e⟩ := bd6_at hF
  cases e
  unfold f5_weight at h5
  rcases rng_case 0 5 x1 with ⟨p, -, p1, rfl⟩ | o1
  · have g1 := s2_weightAt hG.2.2.2.1 (show p < 6 by omega)
    have g2 := (hG.1.2.2 p (by omega)).2
    rw [tp_in p1, bd1_s, if_pos rfl] at h5
    split at h5
    · cases h5
    · split at h5
      · obtain ⟨a, b, c, -, h5⟩ := bd3_at h5
        rw [g1, bd1_s] at h5
        obtain ⟨w, -, h5⟩ := bd1_at h5
        cases h5
        exact m9_n (by omega)
      · cases h5
  · rw [tp_out o1, bd1_s, if_neg (by decide)] at h5
    cases h5
theorem V_modulus {st : ST} (hI : IV st) {x1 r : Int32} {st' : ST} (hF : F_modulus st x1 = some (0, r, st')) : ¬ r < (-9 : Int32) := by
  obtain ⟨h, m, W, F, Z, K, M, d, hG, -⟩ := IV_get hI
  have hm := hG.1.2.1
  have g1 : st.1.2.1 = nI m := hG.2.2.2.1.1
  obtain ⟨k0, r0, z_wm, z_kd, z_kA, z_kV, h5, e⟩ := bd6_at hF
  cases e
  unfold f5_modulus at h5
  split at h5
  · cases h5
  · split at h5
    · obtain ⟨a, b, c, -, h5⟩ := bd3_at h5
      cases h5
      rw [g1]
      exact m9_n (by omega)
    · cases h5
theorem add_l (x2 x3 : Int32) : ∀ (n : Nat) (x4 bh : Int32) (bF bZ bK bM : Nat → Int32), Ok (fun z => z.1 = x3) (f0_add_l46 x2 x3 n x4 bh bF bZ bK bM) := by
  intro n
  induction n with
  | zero => intro x4 bh bF bZ bK bM; exact ok_none
  | succ n ih =>
    intro x4 bh bF bZ bK bM
    rw [f0_add_l46]
    exact ok_ite (fun _ => ok_some rfl) (fun _ => ok_bd2 fun a b => ih _ _ _ _ _ _)
theorem add_v (bh : Int32) (bF bZ bK bM : Nat → Int32) (x1 x2 : Int32) : Ok (fun z => z.1 = -1 ∨ z.1 = bh) (f0_add bh bF bZ bK bM x1 x2) := by
  unfold f0_add
  exact ok_ite (fun _ => ok_some (Or.inl rfl)) (fun _ => ok_ite (fun _ => ok_some (Or.inl rfl)) (fun _ => ok_ite (fun _ => fun z hz => Or.inr (add_l _ _ _ _ _ _ _ _ _ z hz)) (fun _ => ok_some (Or.inl rfl))))
theorem V_book {st : ST} (hI : IV st) {x1 x2 r : Int32} {st' : ST} (hF : F_book st x1 x2 = some (0, r, st')) : ¬ r < (-9 : Int32) := by
  obtain ⟨h, m, W, F, Z, K, M, d, hG, -⟩ := IV_get hI
  have hh := hG.2.1.1
  have g1 : st.1.2.2.2.1 = nI h := hG.2.2.2.2.1.1
  obtain ⟨k0, r0, z_bh, z_bF, z_bZ, z_bK, z_bM, z_kd, z_kA, z_kV, h5, e⟩ := bd10_at hF
  cases e
  unfold f5_book at h5
  obtain ⟨q2, -, h5⟩ := bd1_at h5
  obtain ⟨k4, -, h5⟩ := bd1_at h5
  split at h5
  · obtain ⟨a, b, c, -, h5⟩ := bd3_at h5
    obtain ⟨q10, u1, u2, u3, u4, u5, h6, h5⟩ := bd6_at h5
    cases h5
    have h7 := add_v _ _ _ _ _ _ _ _ h6
    rcases h7 with h7 | h7
    · dsimp only at h7
      rw [h7]
      decide
    · dsimp only at h7
      rw [h7, g1]
      exact m9_n (by omega)
  · rename_i hk
    exact absurd (congrArg Prod.fst (Option.some.inj h5)) hk
theorem V_write {st : ST} (hI : IV st) {x1 x2 r : Int32} {st' : ST} (hF : F_write st x1 x2 = some (0, r, st')) : ¬ r < (-9 : Int32) := by
  obtain ⟨h, m, W, F, Z, K, M, d, hG, -⟩ := IV_get hI
  obtain ⟨hW, hB, hK, cW, cB, cK⟩ := hG
  obtain ⟨k0, r0, z_bK, z_bM, z_kd, z_kA, z_kV, h5, e⟩ := bd7_at hF
  cases e
  rcases cell_case h F Z x1 with ⟨s, b, rfl, hin⟩ | hnone
  · have hs := inB_lt hB hin
    have l1 := s2_letterOf hW cW hs
    have l2 := ltr_lt hW s
    have l3 := hW.2.1
    unfold f5_write at h5
    obtain ⟨q2, -, h5⟩ := bd1_at h5
    obtain ⟨k4, -, h5⟩ := bd1_at h5
    split at h5
    · obtain ⟨a, b, c, -, h5⟩ := bd3_at h5
      obtain ⟨q10, -, h5⟩ := bd1_at h5
      obtain ⟨u1, u2, -, h5⟩ := bd2_at h5
      rw [l1, bd1_s] at h5
      cases h5
      exact m9_n (by omega)
    · rename_i hk
      exact absurd (congrArg Prod.fst (Option.some.inj h5)) hk
  · have h4 := s0_cellOf_no hB cB hnone
    unfold f5_write f5_faultOfWriting at h5
    rw [h4, bd1_s, if_pos rfl, bd1_s, show f5_throwIfFaulty (1 : Int32) = some 1 from tf_1, bd1_s, if_neg (by decide)] at h5
    cases h5
theorem V_cash {st : ST} (hI : IV st) {x1 x2 r : Int32} {st' : ST} (hF : F_cash st x1 x2 = some (0, r, st')) : ¬ r < (-9 : Int32) := by
  obtain ⟨h, m, W, F, Z, K, M, d, hG, -⟩ := IV_get hI
  obtain ⟨hW, hB, hK, cW, cB, cK⟩ := hG
  obtain ⟨k0, r0, z_sr, z_bK, z_bM, z_kd, z_kA, z_kV, h5, e⟩ := bd8_at hF
  cases e
  unfold f5_cash at h5
  obtain ⟨k2, -, h5⟩ := bd1_at h5
  split at h5
  · obtain ⟨k4, -, h5⟩ := bd1_at h5
    split at h5
    · obtain ⟨a, b, c, -, h5⟩ := bd3_at h5
      obtain ⟨q10, u1, u2, u3, h6, h5⟩ := bd4_at h5
      cases h5
      unfold f4_cashByReading at h6
      obtain ⟨q2, hq, h6⟩ := bd1_at h6
      split at h6
      · rename_i hq0
        subst hq0
        obtain ⟨q5, h7, h6⟩ := bd1_at h6
        obtain ⟨v1, v2, h8, h6⟩ := bd2_at h6
        obtain ⟨v3, h9, h6⟩ := bd1_at h6
        cases h6
        rcases cell_case h F Z x1 with ⟨s, b, rfl, hin⟩ | hnone
        · obtain ⟨c1, c2, c3, c4⟩ := inB_cell hB hin
          have h4 := s0_cellOf_in hB cB hin
          have g7 := s0_amountAt hB cK c1 c2
          have g8 := (hK b (s - F b) c1 c2).2.1
          rw [h4] at h7
          cases h7
          generalize 40 * b + (s - F b) = c at c4 g7 g8 h8 h9
          unfold f0_makeCashed at h8
          rw [g7, bd1_s, s0_setCell c4, bd2_s] at h8
          cases h8
          have g9 : f0_amountAt (upd st.1.2.2.2.2.2.2.2 c (nI (M c))) (nI c) = some (nI (M c)) := by
            unfold f0_amountAt
            have e1 : upd st.1.2.2.2.2.2.2.2 c (nI (M c)) c = nI (M c) := pk_us
            simp (disch := omega) only [q_inb, q_isZ0, q_isZ1, q_leT, q_leF, q_ltT, q_ltF, q_eqT, q_eqF, nI_leI, nI_ltI, nI_eq, nI_add, pk_mul, q_sub, pk_sub, q_mod, pk_div, nI_clamp, q_not, q_m1, q_z1, q_n1lt, Nat.add_zero, Nat.zero_add, q_nT, q_nF, ↓reduceIte, bd0_s, bd1_s, bd2_s, bd3_s, bd4_s, bd5_s, bd6_s, bd7_s, bd8_s, bd9_s, lt_s_, qL0, qL1, qL2, qL3, qL4, qL5, qL6, qL7, qL8, qL9, qL10, qL11, qL12, qL13, qL14, qL15, qL16, qL17, qL21, qL25, qL26, qL31, qL33, qL40, qL43, qL45, qL48, qL49, qL57, qL58, qL59, qL60, qL61, qL65, qL90, qL97, qL98, qL99, qL118, qL119, qL126, qL240, qL261, qL501, qL999, qL1000, qL1002, qL2505, qL3006, qL999999, qL1000000, e1]
          rw [g9] at h9
          cases h9
          exact m9_n (by omega)
        · have h4 := s0_cellOf_no hB cB hnone
          rw [h4] at h7
          cases h7
          unfold f0_makeCashed f0_amountAt at h8
          unfold f0_amountAt at h9
          rw [if_pos (by decide)] at h9
          cases h9
          decide
      · cases h6
        have h7 : Ok (fun z => z = 0 ∨ z = 1 ∨ z = 2 ∨ z = 3) (f4_reasonAgainstCashing st.1.2.1 st.1.2.2.1 st.1.2.2.2.1 st.1.2.2.2.2.1 st.1.2.2.2.2.2.1 st.1.2.2.2.2.2.2.1 x1 x2) := by
          unfold f4_reasonAgainstCashing
          refine ok_bd1 fun q => ok_ite (fun _ => ok_bd1 fun q5 => ok_ite (fun _ => ok_some (by decide)) (fun _ => ok_bd1 fun q8 => ok_some ?_)) (fun _ => ok_some (by decide))
          split
          · exact Or.inl rfl
          · exact Or.inr (Or.inr (Or.inr rfl))
        rcases h7 _ hq with rfl | rfl | rfl | rfl <;> decide
    · rename_i hk
      exact absurd (congrArg Prod.fst (Option.some.inj h5)) hk
  · rename_i hk
    exact absurd (congrArg Prod.fst (Option.some.inj h5)) hk
theorem V_voidRun {st : ST} (hI : IV st) {x1 x2 r : Int32} {st' : ST} (hF : F_voidRun st x1 x2 = some (0, r, st')) : ¬ r < (-9 : Int32) := by
  obtain ⟨h, m, W, F, Z, K, M, d, hG, -⟩ := IV_get hI
  obtain ⟨hW, hB, hK, cW, cB, cK⟩ := hG
  have hh := hB.1
  obtain ⟨k0, r0, z_bK, z_bM, z_kd, z_kA, z_kV, h5, e⟩ := bd7_at hF
  cases e
  rcases rng_case 0 999999 x1 with ⟨u, -, u0, rfl⟩ | o1
  · rcases rng_case 0 999999 x2 with ⟨v, -, v0, rfl⟩ | o2
    · have h7 := s0_makeRunVoid hB hK cB cK (u := u) (v := v) (by omega) (by omega)
      have h8 := fb_ct_le (hit h F Z K u v) (40 * h)
      unfold f5_voidRun at h5
      obtain ⟨q2, -, h5⟩ := bd1_at h5
      obtain ⟨k4, -, h5⟩ := bd1_at h5
      split at h5
      · obtain ⟨a, b, c, -, h5⟩ := bd3_at h5
        rw [h7, bd3_s] at h5
        cases h5
        exact m9_n (by omega)
      · rename_i hk
        exact absurd (congrArg Prod.fst (Option.some.inj h5)) hk
    · have i1 := s5_isSerial_t (show u < 1000000 by omega)
      have i2 := s5_isSerial_f (out_ser o2)
      unfold f5_voidRun f5_faultOfRun at h5
      rw [i1, bd1_s, if_neg (by decide), i2, bd1_s, if_pos (by decide), bd1_s, show f5_throwIfFaulty (1 : Int32) = some 1 from tf_1, bd1_s, if_neg (by decide)] at h5
      cases h5
  · have i1 := s5_isSerial_f (out_ser o1)
    unfold f5_voidRun f5_faultOfRun at h5
    rw [i1, bd1_s, if_pos (by decide), bd1_s, show f5_throwIfFaulty (1 : Int32) = some 1 from tf_1, bd1_s, if_neg (by decide)] at h5
    cases h5
theorem V_goBack {st : ST} (hI : IV st) {x1 r : Int32} {st' : ST} (hF : F_goBack st x1 = some (0, r, st')) : ¬ r < (-9 : Int32) := by
  obtain ⟨mN, mP, ms, mK, mI, mT, ml, hb, -, hS, -⟩ := hI
  obtain ⟨k0, r0, z_sr, z_wm, z_wW, z_bh, z_bF, z_bZ, z_bK, z_bM, z_kd, z_kA, z_kV, h5, e⟩ := bd13_at hF
  cases e
  unfold f5_goBack at h5
  rcases rng_case 0 1 x1 with ⟨c, -, c1, rfl⟩ | o1
  · rw [tt_in c1, bd1_s, if_pos rfl] at h5
    obtain ⟨q4, hq, h5⟩ := bd1_at h5
    split at h5
    · cases h5
    · rename_i hq0
      obtain ⟨a, b, d, -, h5⟩ := bd3_at h5
      obtain ⟨u1, u2, u3, u4, u5, u6, u7, u8, h6, h5⟩ := bd8_at h5
      cases h5
      rcases hS c (by omega) with ⟨z1, -⟩ | ⟨-, -, z3⟩
      · exfalso
        have e : f1_isSlotFilled st.2.2.2.2.1 (nI c) = some (nI 0) := by simp (disch := omega) only [q_inb, q_isZ0, q_isZ1, q_leT, q_leF, q_ltT, q_ltF, q_eqT, q_eqF, nI_leI, nI_ltI, nI_eq, nI_add, pk_mul, q_sub, pk_sub, q_mod, pk_div, nI_clamp, q_not, q_m1, q_z1, q_n1lt, Nat.add_zero, Nat.zero_add, q_nT, q_nF, ↓reduceIte, bd0_s, bd1_s, bd2_s, bd3_s, bd4_s, bd5_s, bd6_s, bd7_s, bd8_s, bd9_s, lt_s_, qL0, qL1, qL2, qL3, qL4, qL5, qL6, qL7, qL8, qL9, qL10, qL11, qL12, qL13, qL14, qL15, qL16, qL17, qL21, qL25, qL26, qL31, qL33, qL40, qL43, qL45, qL48, qL49, qL57, qL58, qL59, qL60, qL61, qL65, qL90, qL97, qL98, qL99, qL118, qL119, qL126, qL240, qL261, qL501, qL999, qL1000, qL1002, qL2505, qL3006, qL999999, qL1000000, f1_isSlotFilled, z1]
        rw [e] at hq
        cases hq
        exact hq0 rfl
      · obtain ⟨h', m', W', F', Z', K', M', -, hB', -, -, cB', -⟩ := z3
        have e : f1_restoreSlot st.2.2.2.2.2.2.2 (nI c) = some ((st.2.2.2.2.2.2.2 c).1, (st.2.2.2.2.2.2.2 c).2.1, (st.2.2.2.2.2.2.2 c).2.2.1, (st.2.2.2.2.2.2.2 c).2.2.2.1, (st.2.2.2.2.2.2.2 c).2.2.2.2.1, (st.2.2.2.2.2.2.2 c).2.2.2.2.2.1, (st.2.2.2.2.2.2.2 c).2.2.2.2.2.2.1, (st.2.2.2.2.2.2.2 c).2.2.2.2.2.2.2) := by
          rcases (show c = 0 ∨ c = 1 by omega) with rfl | rfl <;> rfl
        rw [e] at h6
        cases h6
        have h7 := hB'.1
        rw [cB'.1]
        exact m9_n (by omega)
  · rw [tt_out o1, bd1_s, if_neg (by decide)] at h5
    cases h5
/-- a call that the law draws: it throws and changes nothing, or saves one state -/
def Act (X : Option (Int32 × ST)) (st : ST) : Prop := ∃ r st', X = some (r, st') ∧ ((r < (-9 : Int32) ∧ st' = st) ∨ (¬ r < (-9 : Int32) ∧ IV st' ∧ Sv st st'))
theorem cv_low {k : Nat} (hk : k ≠ 0) (r : Int32) : cv k r < (-9 : Int32) := by
  unfold cv
  rw [if_neg hk]
  split
  · decide
  · split <;> decide
theorem act_of {st st' : ST} {X : Option (Int32 × ST)} {k : Nat} {r : Int32} (hX : X = some (cv k r, st')) (h1 : (k ≠ 0 → st' = st) ∧ (k = 0 → Sv st st')) (h2 : IV st') (h3 : k = 0 → ¬ r < (-9 : Int32)) : Act X st := by
  refine ⟨cv k r, st', hX, ?_⟩
  by_cases hk : k = 0
  · subst hk
    exact Or.inr ⟨by rw [cv_0]; exact h3 rfl, h2, h1.2 rfl⟩
  · exact Or.inl ⟨cv_low hk r, h1.1 hk⟩
theorem A_weight {st : ST} (hI : IV st) (x2 x3 x4 : Int32) : Act (FC_weight st x2 x3 x4) st := by
  obtain ⟨k, r, st', h1, h2⟩ := IV_weight hI x2 x3
  refine act_of (k := k) (r := r) (by unfold FC_weight; rw [h1]; rfl) (SH_weight h1) h2 (fun hk => ?_)
  subst hk
  exact V_weight hI h1
theorem A_modulus {st : ST} (hI : IV st) (x2 x3 x4 : Int32) : Act (FC_modulus st x2 x3 x4) st := by
  obtain ⟨k, r, st', h1, h2⟩ := IV_modulus hI x2
  refine act_of (k := k) (r := r) (by unfold FC_modulus; rw [h1]; rfl) (SH_modulus h1) h2 (fun hk => ?_)
  subst hk
  exact V_modulus hI h1
theorem A_book {st : ST} (hI : IV st) (x2 x3 x4 : Int32) : Act (FC_book st x2 x3 x4) st := by
  obtain ⟨k, r, st', h1, h2⟩ := IV_book hI x2 x3
  refine act_of (k := k) (r := r) (by unfold FC_book; rw [h1]; rfl) (SH_book h1) h2 (fun hk => ?_)
  subst hk
  exact V_book hI h1
theorem A_write {st : ST} (hI : IV st) (x2 x3 x4 : Int32) : Act (FC_write st x2 x3 x4) st := by
  obtain ⟨k, r, st', h1, h2⟩ := IV_write hI x2 x3
  refine act_of (k := k) (r := r) (by unfold FC_write; rw [h1]; rfl) (SH_write h1) h2 (fun hk => ?_)
  subst hk
  exact V_write hI h1
theorem A_cash {st : ST} (hI : IV st) (x2 x3 x4 : Int32) : Act (FC_cash st x2 x3 x4) st := by
  obtain ⟨k, r, st', h1, h2⟩ := IV_cash hI x2 x3
  refine act_of (k := k) (r := r) (by unfold FC_cash; rw [h1]; rfl) (SH_cash h1) h2 (fun hk => ?_)
  subst hk
  exact V_cash hI h1
theorem A_voidRun {st : ST} (hI : IV st) (x2 x3 x4 : Int32) : Act (FC_voidRun st x2 x3 x4) st := by
  obtain ⟨k, r, st', h1, h2⟩ := IV_voidRun hI x2 x3
  refine act_of (k := k) (r := r) (by unfold FC_voidRun; rw [h1]; rfl) (SH_voidRun h1) h2 (fun hk => ?_)
  subst hk
  exact V_voidRun hI h1
theorem A_goBack {st : ST} (hI : IV st) (x2 x3 x4 : Int32) : Act (FC_goBack st x2 x3 x4) st := by
  obtain ⟨k, r, st', h1, h2⟩ := IV_goBack hI x2
  refine act_of (k := k) (r := r) (by unfold FC_goBack; rw [h1]; rfl) (SH_goBack h1) h2 (fun hk => ?_)
  subst hk
  exact V_goBack hI h1
