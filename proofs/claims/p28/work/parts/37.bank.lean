
/-! ===== pure rows: a bank told twice; a new book, a cheque written, cashed ===== -/
/-- the class's rows and the reference's row tell one bank -/
def Bk (sr wm : Int32) (wW : Nat → Int32) (bh : Int32) (bF bZ bK bM g : Nat → Int32) : Prop :=
  ∃ (h m : Nat) (W F Z K M : NF), wW_ m W ∧ wB_ h F Z ∧ wK_ h Z K M ∧ cW_ m W wm wW ∧ cB_ h F Z bh bF bZ ∧ cK_ h Z K M bK bM ∧ mW_ m W g ∧ mB_ h F Z g ∧ mK_ h Z K M g ∧ g 2 = sr
/-- a stretch of zeros -/
def zr (f : Nat → Int32) (a i : Nat) : Nat → Int32 := fun c => if a ≤ c ∧ c < a + i then 0 else f c
theorem zr_0 (f : Nat → Int32) (a : Nat) : zr f a 0 = f := funext fun c => if_neg (by omega)
theorem zr_s (f : Nat → Int32) (a i : Nat) : upd (zr f a i) (a + i) 0 = zr f a (i + 1) := by
  funext c
  rw [upd_eq]
  unfold zr
  by_cases h : c = a + i
  · rw [if_pos h, if_pos (by omega)]
  · rw [if_neg h]
    by_cases h2 : a ≤ c ∧ c < a + i
    · rw [if_pos h2, if_pos (by omega)]
    · rw [if_neg h2, if_neg (by omega)]
theorem s0_setCell {bK bM : Nat → Int32} {c : Nat} (hc : c < 240) (k v : Int32) : f0_setCell bK bM (nI c) k v = some (upd bK c k, upd bM c v) := by
  simp (disch := omega) only [q_inb, q_isZ0, q_isZ1, q_leT, q_leF, q_ltT, q_ltF, q_eqT, q_eqF, nI_leI, nI_ltI, nI_eq, nI_add, pk_mul, q_sub, pk_sub, q_mod, pk_div, nI_clamp, q_not, q_m1, q_z1, q_n1lt, Nat.add_zero, Nat.zero_add, q_nT, q_nF, ↓reduceIte, bd0_s, bd1_s, bd2_s, bd3_s, bd4_s, bd5_s, bd6_s, bd7_s, bd8_s, bd9_s, lt_s_, qL0, qL1, qL2, qL3, qL4, qL5, qL6, qL7, qL8, qL9, qL10, qL11, qL12, qL13, qL14, qL15, qL16, qL17, qL21, qL25, qL26, qL31, qL33, qL40, qL43, qL45, qL48, qL49, qL57, qL58, qL59, qL60, qL61, qL65, qL90, qL97, qL98, qL99, qL118, qL119, qL126, qL240, qL261, qL501, qL999, qL1000, qL1002, qL2505, qL3006, qL999999, qL1000000, f0_setCell]
theorem s0_add {h s n : Nat} {bF bZ bK bM : Nat → Int32} (hh : h < 6) (hn : n ≤ 40) : f0_add (nI h) bF bZ bK bM (nI s) (nI n) = some (nI h, nI (h + 1), upd bF h (nI s), upd bZ h (nI n), zr bK (40 * h) n, zr bM (40 * h) n) := by
  obtain ⟨t, ht⟩ := traj0 (fun i t => f0_add_l46 (nI n) (nI h) t (nI i) (nI h) (upd bF h (nI s)) (upd bZ h (nI n)) (zr bK (40 * h) i) (zr bM (40 * h) i)) n (by omega) (fun i t hi => by
    rw [f0_add_l46]
    have h1 := s0_setCell (bK := zr bK (40 * h) i) (bM := zr bM (40 * h) i) (c := h * 40 + i) (by omega) 0 0
    rw [show h * 40 + i = 40 * h + i by omega, zr_s, zr_s] at h1
    have h2 : nI h * (40 : Int32) + nI i = nI (40 * h + i) := by
      rw [qL40, pk_mul, nI_add, Nat.mul_comm]
    rw [h2, h1, bd2_s, if_neg (by rw [nI_leI (by omega) (by omega)]; omega), nI_1])
  rw [zr_0, zr_0] at ht
  unfold f0_add
  rw [if_neg (nI_pos (by omega)), if_neg (by rw [qL6, nI_leI (by decide) (by omega)]; omega), if_pos (by rw [qL6, nI_ltI (by omega) (by decide)]; omega), nI_clamp (by omega)]
  refine Eq.trans ht ?_
  rw [f0_add_l46]
  simp (disch := omega) only [q_inb, q_isZ0, q_isZ1, q_leT, q_leF, q_ltT, q_ltF, q_eqT, q_eqF, nI_leI, nI_ltI, nI_eq, nI_add, pk_mul, q_sub, pk_sub, q_mod, pk_div, nI_clamp, q_not, q_m1, q_z1, q_n1lt, Nat.add_zero, Nat.zero_add, q_nT, q_nF, ↓reduceIte, bd0_s, bd1_s, bd2_s, bd3_s, bd4_s, bd5_s, bd6_s, bd7_s, bd8_s, bd9_s, lt_s_, qL0, qL1, qL2, qL3, qL4, qL5, qL6, qL7, qL8, qL9, qL10, qL11, qL12, qL13, qL14, qL15, qL16, qL17, qL21, qL25, qL26, qL31, qL33, qL40, qL43, qL45, qL48, qL49, qL57, qL58, qL59, qL60, qL61, qL65, qL90, qL97, qL98, qL99, qL118, qL119, qL126, qL240, qL261, qL501, qL999, qL1000, qL1002, qL2505, qL3006, qL999999, qL1000000]
/-- the reference's row with the cells of a book made blank -/
def bkz (g : Nat → Int32) (h i : Nat) : Nat → Int32 := fun j => if (21 + 40 * h ≤ j ∧ j < 21 + 40 * h + i) ∨ (261 + 40 * h ≤ j ∧ j < 261 + 40 * h + i) then 0 else g j
theorem bkz_0 (g : Nat → Int32) (h : Nat) : bkz g h 0 = g := funext fun c => if_neg (by omega)
theorem bkz_s (g : Nat → Int32) {h i : Nat} (hh : h < 6) (hi : i < 40) : upd (upd (bkz g h i) (21 + (40 * h + i)) 0) (261 + (40 * h + i)) 0 = bkz g h (i + 1) := by
  funext c
  rw [upd_eq, upd_eq]
  unfold bkz
  by_cases h1 : c = 261 + (40 * h + i)
  · rw [if_pos h1, if_pos (by omega)]
  · rw [if_neg h1]
    by_cases h2 : c = 21 + (40 * h + i)
    · rw [if_pos h2, if_pos (by omega)]
    · rw [if_neg h2]
      by_cases h3 : (21 + 40 * h ≤ c ∧ c < 21 + 40 * h + i) ∨ (261 + 40 * h ≤ c ∧ c < 261 + 40 * h + i)
      · rw [if_pos h3, if_pos (by omega)]
      · rw [if_neg h3, if_neg (by omega)]
theorem s6_books {h s n : Nat} {g : Nat → Int32} (hh : h < 6) (H : g 0 = nI h) : f6_books g (nI s) (nI n) = some (nI h, upd (bkz (upd (upd g (9 + 2 * h) (nI s)) (9 + 2 * h + 1) (nI n)) h 40) 0 (nI (h + 1))) := by
  have h0 : (upd (upd g (9 + 2 * h) (nI s)) (9 + 2 * h + 1) (nI n)) 0 = nI h := by
    rw [upd_eq, if_neg (by omega), upd_eq, if_neg (by omega), H]
  have e1 : f6_books g (nI s) (nI n) = f6_books_l39 (nI h) fu (nI (40 * h)) (upd (upd g (9 + 2 * h) (nI s)) (9 + 2 * h + 1) (nI n)) := by
    simp (disch := omega) only [q_inb, q_isZ0, q_isZ1, q_leT, q_leF, q_ltT, q_ltF, q_eqT, q_eqF, nI_leI, nI_ltI, nI_eq, nI_add, pk_mul, q_sub, pk_sub, q_mod, pk_div, nI_clamp, q_not, q_m1, q_z1, q_n1lt, Nat.add_zero, Nat.zero_add, q_nT, q_nF, ↓reduceIte, bd0_s, bd1_s, bd2_s, bd3_s, bd4_s, bd5_s, bd6_s, bd7_s, bd8_s, bd9_s, lt_s_, qL0, qL1, qL2, qL3, qL4, qL5, qL6, qL7, qL8, qL9, qL10, qL11, qL12, qL13, qL14, qL15, qL16, qL17, qL21, qL25, qL26, qL31, qL33, qL40, qL43, qL45, qL48, qL49, qL57, qL58, qL59, qL60, qL61, qL65, qL90, qL97, qL98, qL99, qL118, qL119, qL126, qL240, qL261, qL501, qL999, qL1000, qL1002, qL2505, qL3006, qL999999, qL1000000, f6_books, H]
  rw [e1]
  generalize upd (upd g (9 + 2 * h) (nI s)) (9 + 2 * h + 1) (nI n) = G at h0 ⊢
  obtain ⟨t, ht⟩ := traj0 (fun i t => f6_books_l39 (nI h) t (nI (40 * h + i)) (bkz G h i)) 40 (by decide) (fun i t hi => by
    rw [f6_books_l39]
    have h3 := bkz_s G hh hi
    simp (disch := omega) only [q_inb, q_isZ0, q_isZ1, q_leT, q_leF, q_ltT, q_ltF, q_eqT, q_eqF, nI_leI, nI_ltI, nI_eq, nI_add, pk_mul, q_sub, pk_sub, q_mod, pk_div, nI_clamp, q_not, q_m1, q_z1, q_n1lt, Nat.add_zero, Nat.zero_add, q_nT, q_nF, ↓reduceIte, bd0_s, bd1_s, bd2_s, bd3_s, bd4_s, bd5_s, bd6_s, bd7_s, bd8_s, bd9_s, lt_s_, qL0, qL1, qL2, qL3, qL4, qL5, qL6, qL7, qL8, qL9, qL10, qL11, qL12, qL13, qL14, qL15, qL16, qL17, qL21, qL25, qL26, qL31, qL33, qL40, qL43, qL45, qL48, qL49, qL57, qL58, qL59, qL60, qL61, qL65, qL90, qL97, qL98, qL99, qL118, qL119, qL126, qL240, qL261, qL501, qL999, qL1000, qL1002, qL2505, qL3006, qL999999, qL1000000, show (0 : Int32) = nI 0 from rfl]
    rw [show (nI 0 : Int32) = 0 from rfl, h3]
    rfl)
  rw [bkz_0] at ht
  refine Eq.trans ht ?_
  have h4 : bkz G h 40 0 = nI h := by
    unfold bkz
    rw [if_neg (by omega), h0]
  rw [f6_books_l39]
  simp (disch := omega) only [q_inb, q_isZ0, q_isZ1, q_leT, q_leF, q_ltT, q_ltF, q_eqT, q_eqF, nI_leI, nI_ltI, nI_eq, nI_add, pk_mul, q_sub, pk_sub, q_mod, pk_div, nI_clamp, q_not, q_m1, q_z1, q_n1lt, Nat.add_zero, Nat.zero_add, q_nT, q_nF, ↓reduceIte, bd0_s, bd1_s, bd2_s, bd3_s, bd4_s, bd5_s, bd6_s, bd7_s, bd8_s, bd9_s, lt_s_, qL0, qL1, qL2, qL3, qL4, qL5, qL6, qL7, qL8, qL9, qL10, qL11, qL12, qL13, qL14, qL15, qL16, qL17, qL21, qL25, qL26, qL31, qL33, qL40, qL43, qL45, qL48, qL49, qL57, qL58, qL59, qL60, qL61, qL65, qL90, qL97, qL98, qL99, qL118, qL119, qL126, qL240, qL261, qL501, qL999, qL1000, qL1002, qL2505, qL3006, qL999999, qL1000000, h4]
/-- a book comes: both banks -/
theorem op_add {sr wm : Int32} {wW : Nat → Int32} {h m : Nat} {W F Z K M : NF} {bF bZ bK bM g : Nat → Int32} (hW : wW_ m W) (hB : wB_ h F Z) (hK : wK_ h Z K M) (cW : cW_ m W wm wW) (cB : cB_ h F Z (nI h) bF bZ) (cK : cK_ h Z K M bK bM) (mW : mW_ m W g) (mB : mB_ h F Z g) (mK : mK_ h Z K M g) (hr : g 2 = sr)
    {s n : Nat} (hh : h < 6) (hn1 : 1 ≤ n) (hn : n ≤ 40) (hsn : s + n ≤ 1000000) (hno : ∀ b, b < h → ¬ tkB F Z s n b) :
    ∃ bh' bF' bZ' bK' bM' g', f0_add (nI h) bF bZ bK bM (nI s) (nI n) = some (nI h, bh', bF', bZ', bK', bM') ∧ f6_books g (nI s) (nI n) = some (nI h, g') ∧ Bk sr wm wW bh' bF' bZ' bK' bM' g' := by
  refine ⟨_, _, _, _, _, _, s0_add hh hn, s6_books hh mB.1, h + 1, m, W, fun b => if b = h then s else F b, fun b => if b = h then n else Z b, fun c => if 40 * h ≤ c then 0 else K c, fun c => if 40 * h ≤ c then 0 else M c, hW, ⟨by omega, fun b hb => ?_, fun a b ha hb hab => ?_⟩, fun b j hb hj => ?_, cW, ⟨rfl, fun b hb => ?_⟩, fun b j hb hj => ?_, ⟨?_, fun p hp => ?_⟩, ⟨?_, fun b hb => ?_⟩, fun b j hb hj => ?_, ?_⟩
  · by_cases e : b = h
    · simp only [e, if_true]; omega
    · simp only [e, if_false]; exact hB.2.1 b (by omega)
  · by_cases ea : a = h
    · have eb : ¬ b = h := by omega
      have := hno b (by omega)
      unfold tkB at this
      simp only [ea, eb, if_true, if_false]
      omega
    · by_cases eb : b = h
      · have := hno a (by omega)
        unfold tkB at this
        simp only [ea, eb, if_true, if_false]
        omega
      · simp only [ea, eb, if_false]
        exact hB.2.2 a b (by omega) (by omega) hab
  · by_cases e : b = h
    · subst e
      simp only [show 40 * b ≤ 40 * b + j by omega, if_true]
      omega
    · simp only [e, if_false] at hj
      have h1 := hB.2.1 b (by omega)
      simp only [show ¬ 40 * h ≤ 40 * b + j by omega, if_false]
      exact hK b j (by omega) hj
  · by_cases e : b = h
    · simp only [e, if_true, pk_us, and_self]
    · rw [pk_un e, pk_un e]
      simp only [e, if_false]
      exact cB.2 b (by omega)
  · by_cases e : b = h
    · subst e
      simp only [if_true] at hj
      unfold zr
      dsimp only
      rw [if_pos (show 40 * b ≤ 40 * b + j ∧ 40 * b + j < 40 * b + n by omega), if_pos (show 40 * b ≤ 40 * b + j by omega), if_pos (show 40 * b ≤ 40 * b + j ∧ 40 * b + j < 40 * b + n by omega), if_pos (show 40 * b ≤ 40 * b + j by omega)]
      exact ⟨rfl, rfl⟩
    · simp only [e, if_false] at hj
      have h1 := hB.2.1 b (by omega)
      unfold zr
      have e2 : ¬ 40 * h ≤ 40 * b + j := by omega
      have e3 : ¬ (40 * h ≤ 40 * b + j ∧ 40 * b + j < 40 * h + n) := fun q => e2 q.1
      dsimp only
      rw [if_neg e3, if_neg e2, if_neg e3, if_neg e2]
      exact cK b j (by omega) hj
  · rw [upd_eq, if_neg (by decide)]
    unfold bkz
    rw [if_neg (by omega), upd_eq, if_neg (by omega), upd_eq, if_neg (by omega)]
    exact mW.1
  · rw [upd_eq, if_neg (by omega)]
    unfold bkz
    rw [if_neg (by omega), upd_eq, if_neg (by omega), upd_eq, if_neg (by omega)]
    exact mW.2 p hp
  · rw [pk_us]
  · rw [upd_eq, if_neg (by omega), upd_eq, if_neg (by omega)]
    unfold bkz
    rw [if_neg (by omega), if_neg (by omega), upd_eq, upd_eq, upd_eq, upd_eq]
    by_cases e : b = h
    · subst e
      simp only [if_true, if_neg (show ¬ 9 + 2 * b = 9 + 2 * b + 1 by omega)]
      exact ⟨trivial, trivial⟩
    · rw [if_neg (by omega), if_neg (by omega), if_neg (by omega), if_neg (by omega)]
      simp only [e, if_false]
      exact mB.2 b (by omega)
  · by_cases e : b = h
    · subst e
      simp only [if_true] at hj
      rw [upd_eq, if_neg (by omega), upd_eq, if_neg (by omega)]
      unfold bkz
      dsimp only
      have e5 : 40 * b ≤ 40 * b + j := by omega
      rw [if_pos e5, if_pos e5]
      exact ⟨if_pos (by omega), if_pos (by omega)⟩
    · simp only [e, if_false] at hj
      have h1 := hB.2.1 b (by omega)
      have e2 : ¬ 40 * h ≤ 40 * b + j := by omega
      rw [upd_eq, if_neg (by omega), upd_eq, if_neg (by omega)]
      unfold bkz
      dsimp only
      rw [if_neg e2, if_neg e2]
      refine ⟨?_, ?_⟩
      · rw [if_neg (by omega), upd_eq, if_neg (by omega), upd_eq, if_neg (by omega)]
        exact (mK b j (by omega) hj).1
      · rw [if_neg (by omega), upd_eq, if_neg (by omega), upd_eq, if_neg (by omega)]
        exact (mK b j (by omega) hj).2
  · rw [upd_eq, if_neg (by decide)]
    unfold bkz
    rw [if_neg (by omega), upd_eq, if_neg (by omega), upd_eq, if_neg (by omega)]
    exact hr
