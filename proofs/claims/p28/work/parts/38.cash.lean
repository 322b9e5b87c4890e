
/-! ===== pure rows: a cheque is set; written, cashed ===== -/
theorem cell_ne {b j b' j' : Nat} (hj : j < 40) (hj' : j' < 40) (h : 40 * b' + j' = 40 * b + j) : b' = b ∧ j' = j := by omega
theorem Bk_set {sr wm : Int32} {wW : Nat → Int32} {h m : Nat} {W F Z K M : NF} {bF bZ bK bM g : Nat → Int32} (hW : wW_ m W) (hB : wB_ h F Z) (hK : wK_ h Z K M) (cW : cW_ m W wm wW) (cB : cB_ h F Z (nI h) bF bZ) (cK : cK_ h Z K M bK bM) (mW : mW_ m W g) (mB : mB_ h F Z g) (mK : mK_ h Z K M g) (hr : g 2 = sr)
    {c k v : Nat} (hc : c < 240) (hk : k ≤ 3) (hv : v ≤ 999) (hkv : k = 1 → 1 ≤ v) :
    Bk sr wm wW (nI h) bF bZ (upd bK c (nI k)) (upd bM c (nI v)) (upd (upd g (21 + c) (nI k)) (261 + c) (nI v)) := by
  have hh := hB.1
  refine ⟨h, m, W, F, Z, fun x => if x = c then k else K x, fun x => if x = c then v else M x, hW, hB, fun b j hb hj => ?_, cW, cB, fun b j hb hj => ?_, ⟨?_, fun p hp => ?_⟩, ⟨?_, fun b hb => ?_⟩, fun b j hb hj => ?_, ?_⟩
  · dsimp only
    by_cases e : 40 * b + j = c
    · rw [if_pos e, if_pos e]; exact ⟨hk, hv, hkv⟩
    · rw [if_neg e, if_neg e]; exact hK b j hb hj
  · dsimp only
    by_cases e : 40 * b + j = c
    · rw [if_pos e, if_pos e, e, pk_us, pk_us]; exact ⟨rfl, rfl⟩
    · rw [if_neg e, if_neg e, pk_un e, pk_un e]; exact cK b j hb hj
  · rw [upd_eq, if_neg (by omega), upd_eq, if_neg (by omega)]; exact mW.1
  · rw [upd_eq, if_neg (by omega), upd_eq, if_neg (by omega)]; exact mW.2 p hp
  · rw [upd_eq, if_neg (by omega), upd_eq, if_neg (by omega)]; exact mB.1
  · rw [upd_eq, if_neg (by omega), upd_eq, if_neg (by omega), upd_eq, if_neg (by omega), upd_eq, if_neg (by omega)]; exact mB.2 b hb
  · have h1 := hB.2.1 b hb
    dsimp only
    by_cases e : 40 * b + j = c
    · rw [if_pos e, if_pos e, e]
      refine ⟨?_, pk_us⟩
      rw [upd_eq, if_neg (by omega), pk_us]
    · rw [if_neg e, if_neg e, upd_eq, if_neg (by omega), upd_eq, if_neg (by omega), upd_eq, if_neg (by omega), upd_eq, if_neg (by omega)]
      exact mK b j hb hj
  · rw [upd_eq, if_neg (by omega), upd_eq, if_neg (by omega)]; exact hr
theorem Bk_refuse {sr wm : Int32} {wW : Nat → Int32} {h m : Nat} {W F Z K M : NF} {bF bZ bK bM g : Nat → Int32} (hW : wW_ m W) (hB : wB_ h F Z) (hK : wK_ h Z K M) (cW : cW_ m W wm wW) (cB : cB_ h F Z (nI h) bF bZ) (cK : cK_ h Z K M bK bM) (mW : mW_ m W g) (mB : mB_ h F Z g) (mK : mK_ h Z K M g) (hr : g 2 = sr) :
    Bk (sr + 1) wm wW (nI h) bF bZ bK bM (upd g 2 (g 2 + 1)) := by
  have hh := hB.1
  refine ⟨h, m, W, F, Z, K, M, hW, hB, hK, cW, cB, cK, ⟨?_, fun p hp => ?_⟩, ⟨?_, fun b hb => ?_⟩, fun b j hb hj => ?_, ?_⟩
  · rw [upd_eq, if_neg (by omega)]; exact mW.1
  · rw [upd_eq, if_neg (by omega)]; exact mW.2 p hp
  · rw [upd_eq, if_neg (by omega)]; exact mB.1
  · rw [upd_eq, if_neg (by omega), upd_eq, if_neg (by omega)]; exact mB.2 b hb
  · rw [upd_eq, if_neg (by omega), upd_eq, if_neg (by omega)]; exact mK b j hb hj
  · rw [pk_us, hr]
theorem inB_cell {h : Nat} {F Z : NF} (Hw : wB_ h F Z) {s b : Nat} (hin : inB h F Z s b) : b < h ∧ s - F b < Z b ∧ s - F b < 40 ∧ 40 * b + (s - F b) < 240 := by
  have h1 := Hw.1
  have h2 := Hw.2.1 b hin.1
  unfold inB at hin
  omega
theorem s0_kindAt {h : Nat} {F Z K M : NF} {bK bM : Nat → Int32} (Hw : wB_ h F Z) (H : cK_ h Z K M bK bM) {b j : Nat} (hb : b < h) (hj : j < Z b) : f0_kindAt bK (nI (40 * b + j)) = some (nI (K (40 * b + j))) := by
  have h1 := Hw.1
  have h2 := Hw.2.1 b hb
  have e := (H b j hb hj).1
  simp (disch := omega) only [q_inb, q_isZ0, q_isZ1, q_leT, q_leF, q_ltT, q_ltF, q_eqT, q_eqF, nI_leI, nI_ltI, nI_eq, nI_add, pk_mul, q_sub, pk_sub, q_mod, pk_div, nI_clamp, q_not, q_m1, q_z1, q_n1lt, Nat.add_zero, Nat.zero_add, q_nT, q_nF, ↓reduceIte, bd0_s, bd1_s, bd2_s, bd3_s, bd4_s, bd5_s, bd6_s, bd7_s, bd8_s, bd9_s, lt_s_, qL0, qL1, qL2, qL3, qL4, qL5, qL6, qL7, qL8, qL9, qL10, qL11, qL12, qL13, qL14, qL15, qL16, qL17, qL21, qL25, qL26, qL31, qL33, qL40, qL43, qL45, qL48, qL49, qL57, qL58, qL59, qL60, qL61, qL65, qL90, qL97, qL98, qL99, qL118, qL119, qL126, qL240, qL261, qL501, qL999, qL1000, qL1002, qL2505, qL3006, qL999999, qL1000000, f0_kindAt, e]
theorem s0_amountAt {h : Nat} {F Z K M : NF} {bK bM : Nat → Int32} (Hw : wB_ h F Z) (H : cK_ h Z K M bK bM) {b j : Nat} (hb : b < h) (hj : j < Z b) : f0_amountAt bM (nI (40 * b + j)) = some (nI (M (40 * b + j))) := by
  have h1 := Hw.1
  have h2 := Hw.2.1 b hb
  have e := (H b j hb hj).2
  simp (disch := omega) only [q_inb, q_isZ0, q_isZ1, q_leT, q_leF, q_ltT, q_ltF, q_eqT, q_eqF, nI_leI, nI_ltI, nI_eq, nI_add, pk_mul, q_sub, pk_sub, q_mod, pk_div, nI_clamp, q_not, q_m1, q_z1, q_n1lt, Nat.add_zero, Nat.zero_add, q_nT, q_nF, ↓reduceIte, bd0_s, bd1_s, bd2_s, bd3_s, bd4_s, bd5_s, bd6_s, bd7_s, bd8_s, bd9_s, lt_s_, qL0, qL1, qL2, qL3, qL4, qL5, qL6, qL7, qL8, qL9, qL10, qL11, qL12, qL13, qL14, qL15, qL16, qL17, qL21, qL25, qL26, qL31, qL33, qL40, qL43, qL45, qL48, qL49, qL57, qL58, qL59, qL60, qL61, qL65, qL90, qL97, qL98, qL99, qL118, qL119, qL126, qL240, qL261, qL501, qL999, qL1000, qL1002, qL2505, qL3006, qL999999, qL1000000, f0_amountAt, e]
theorem op_write {sr wm : Int32} {wW : Nat → Int32} {h m : Nat} {W F Z K M : NF} {bF bZ bK bM g : Nat → Int32} (hW : wW_ m W) (hB : wB_ h F Z) (hK : wK_ h Z K M) (cW : cW_ m W wm wW) (cB : cB_ h F Z (nI h) bF bZ) (cK : cK_ h Z K M bK bM) (mW : mW_ m W g) (mB : mB_ h F Z g) (mK : mK_ h Z K M g) (hr : g 2 = sr)
    {c v : Nat} (hc : c < 240) (hv : v ≤ 999) (hv1 : 1 ≤ v) :
    ∃ bK' bM' g', f0_makeWritten bK bM (nI c) (nI v) = some (bK', bM') ∧ f6_writes g (nI c) (nI v) = some g' ∧ Bk sr wm wW (nI h) bF bZ bK' bM' g' := by
  refine ⟨_, _, _, ?_, ?_, Bk_set hW hB hK cW cB cK mW mB mK hr hc (k := 1) (v := v) (by decide) hv (fun _ => hv1)⟩
  · unfold f0_makeWritten
    rw [s0_setCell hc]
    rfl
  · simp (disch := omega) only [q_inb, q_isZ0, q_isZ1, q_leT, q_leF, q_ltT, q_ltF, q_eqT, q_eqF, nI_leI, nI_ltI, nI_eq, nI_add, pk_mul, q_sub, pk_sub, q_mod, pk_div, nI_clamp, q_not, q_m1, q_z1, q_n1lt, Nat.add_zero, Nat.zero_add, q_nT, q_nF, ↓reduceIte, bd0_s, bd1_s, bd2_s, bd3_s, bd4_s, bd5_s, bd6_s, bd7_s, bd8_s, bd9_s, lt_s_, qL0, qL1, qL2, qL3, qL4, qL5, qL6, qL7, qL8, qL9, qL10, qL11, qL12, qL13, qL14, qL15, qL16, qL17, qL21, qL25, qL26, qL31, qL33, qL40, qL43, qL45, qL48, qL49, qL57, qL58, qL59, qL60, qL61, qL65, qL90, qL97, qL98, qL99, qL118, qL119, qL126, qL240, qL261, qL501, qL999, qL1000, qL1002, qL2505, qL3006, qL999999, qL1000000, f6_writes]
theorem op_cash {sr wm : Int32} {wW : Nat → Int32} {h m : Nat} {W F Z K M : NF} {bF bZ bK bM g : Nat → Int32} (hW : wW_ m W) (hB : wB_ h F Z) (hK : wK_ h Z K M) (cW : cW_ m W wm wW) (cB : cB_ h F Z (nI h) bF bZ) (cK : cK_ h Z K M bK bM) (mW : mW_ m W g) (mB : mB_ h F Z g) (mK : mK_ h Z K M g) (hr : g 2 = sr)
    {s l : Nat} (hs : s < 1000000) (hl : l < 26) :
    ∃ r sr' bK' bM' g', f4_cashByReading sr wm wW (nI h) bF bZ bK bM (nI s) (nI l) = some (r, sr', bK', bM') ∧ f6_cashes g (nI s) (nI l) = some (r, g') ∧ Bk sr' wm wW (nI h) bF bZ bK' bM' g' := by
  have h1 := s2_letterOf hW cW hs
  have h2 := s6_letterOf hW mW hs
  have h3 := ltr_lt hW s
  have hm1 := hW.1
  have hm2 := hW.2.1
  have g2 : g (nI 2).toNatClampNeg = g 2 := rfl
  have hno := Bk_refuse hW hB hK cW cB cK mW mB mK hr
  by_cases hlt : ltr m W s = l
  · rcases cell_case h F Z (nI s) with ⟨s', b, e, hin⟩ | hnone
    · have e' : s = s' := (nI_eq (by omega) (by have := inB_lt hB hin; omega)).mp e
      subst e'
      obtain ⟨c1, c2, c3, c4⟩ := inB_cell hB hin
      have h4 := s0_cellOf_in hB cB hin
      have h5 := s6_spotOf_in hB mB hin
      have h6 := s0_kindAt hB cK c1 c2
      have h7 := s0_amountAt hB cK c1 c2
      have h8 := hK b (s - F b) c1 c2
      have h9 := mK b (s - F b) c1 c2
      have h10 := cK b (s - F b) c1 c2
      generalize 40 * b + (s - F b) = c at c4 h4 h5 h6 h7 h8 h9 h10
      by_cases hk : K c = 1
      · have hset := Bk_set hW hB hK cW cB cK mW mB mK hr c4 (k := 2) (v := M c) (by decide) h8.2.1 (fun q => by omega)
        have e1 : upd (upd g (21 + c) (nI 2)) (261 + c) (nI (M c)) = upd g (21 + c) (nI 2) := upd_id (by rw [upd_eq, if_neg (by omega)]; exact h9.2)
        have e2 : upd bM c (nI (M c)) = bM := upd_id h10.2
        rw [e1] at hset
        refine ⟨nI (M c), sr, upd bK c (nI 2), upd bM c (nI (M c)), _, ?_, ?_, hset⟩
        · have h11 : f0_makeCashed bK bM (nI c) = some (upd bK c (nI 2), upd bM c (nI (M c))) := by
            unfold f0_makeCashed
            rw [h7, bd1_s, s0_setCell c4]
            rfl
          rw [e2] at h11 ⊢
          simp (disch := omega) only [q_inb, q_isZ0, q_isZ1, q_leT, q_leF, q_ltT, q_ltF, q_eqT, q_eqF, nI_leI, nI_ltI, nI_eq, nI_add, pk_mul, q_sub, pk_sub, q_mod, pk_div, nI_clamp, q_not, q_m1, q_z1, q_n1lt, Nat.add_zero, Nat.zero_add, q_nT, q_nF, ↓reduceIte, bd0_s, bd1_s, bd2_s, bd3_s, bd4_s, bd5_s, bd6_s, bd7_s, bd8_s, bd9_s, lt_s_, qL0, qL1, qL2, qL3, qL4, qL5, qL6, qL7, qL8, qL9, qL10, qL11, qL12, qL13, qL14, qL15, qL16, qL17, qL21, qL25, qL26, qL31, qL33, qL40, qL43, qL45, qL48, qL49, qL57, qL58, qL59, qL60, qL61, qL65, qL90, qL97, qL98, qL99, qL118, qL119, qL126, qL240, qL261, qL501, qL999, qL1000, qL1002, qL2505, qL3006, qL999999, qL1000000, f4_cashByReading, f4_reasonAgainstCashing, h1, h4, h6, hlt, hk, h11, h7]
        · have e3 : upd g (21 + c) (nI 2) (261 + c) = nI (M c) := by rw [upd_eq, if_neg (by omega)]; exact h9.2
          simp (disch := omega) only [q_inb, q_isZ0, q_isZ1, q_leT, q_leF, q_ltT, q_ltF, q_eqT, q_eqF, nI_leI, nI_ltI, nI_eq, nI_add, pk_mul, q_sub, pk_sub, q_mod, pk_div, nI_clamp, q_not, q_m1, q_z1, q_n1lt, Nat.add_zero, Nat.zero_add, q_nT, q_nF, ↓reduceIte, bd0_s, bd1_s, bd2_s, bd3_s, bd4_s, bd5_s, bd6_s, bd7_s, bd8_s, bd9_s, lt_s_, qL0, qL1, qL2, qL3, qL4, qL5, qL6, qL7, qL8, qL9, qL10, qL11, qL12, qL13, qL14, qL15, qL16, qL17, qL21, qL25, qL26, qL31, qL33, qL40, qL43, qL45, qL48, qL49, qL57, qL58, qL59, qL60, qL61, qL65, qL90, qL97, qL98, qL99, qL118, qL119, qL126, qL240, qL261, qL501, qL999, qL1000, qL1002, qL2505, qL3006, qL999999, qL1000000, f6_cashes, f6_cashes_j46, h2, h5, hlt, h9.1, hk, e3]
      · refine ⟨-nI 3, sr + 1, bK, bM, _, ?_, ?_, hno⟩
        · simp (disch := omega) only [q_inb, q_isZ0, q_isZ1, q_leT, q_leF, q_ltT, q_ltF, q_eqT, q_eqF, nI_leI, nI_ltI, nI_eq, nI_add, pk_mul, q_sub, pk_sub, q_mod, pk_div, nI_clamp, q_not, q_m1, q_z1, q_n1lt, Nat.add_zero, Nat.zero_add, q_nT, q_nF, ↓reduceIte, bd0_s, bd1_s, bd2_s, bd3_s, bd4_s, bd5_s, bd6_s, bd7_s, bd8_s, bd9_s, lt_s_, qL0, qL1, qL2, qL3, qL4, qL5, qL6, qL7, qL8, qL9, qL10, qL11, qL12, qL13, qL14, qL15, qL16, qL17, qL21, qL25, qL26, qL31, qL33, qL40, qL43, qL45, qL48, qL49, qL57, qL58, qL59, qL60, qL61, qL65, qL90, qL97, qL98, qL99, qL118, qL119, qL126, qL240, qL261, qL501, qL999, qL1000, qL1002, qL2505, qL3006, qL999999, qL1000000, f4_cashByReading, f4_reasonAgainstCashing, h1, h4, h6, hlt]
        · simp (disch := omega) only [q_inb, q_isZ0, q_isZ1, q_leT, q_leF, q_ltT, q_ltF, q_eqT, q_eqF, nI_leI, nI_ltI, nI_eq, nI_add, pk_mul, q_sub, pk_sub, q_mod, pk_div, nI_clamp, q_not, q_m1, q_z1, q_n1lt, Nat.add_zero, Nat.zero_add, q_nT, q_nF, ↓reduceIte, bd0_s, bd1_s, bd2_s, bd3_s, bd4_s, bd5_s, bd6_s, bd7_s, bd8_s, bd9_s, lt_s_, qL0, qL1, qL2, qL3, qL4, qL5, qL6, qL7, qL8, qL9, qL10, qL11, qL12, qL13, qL14, qL15, qL16, qL17, qL21, qL25, qL26, qL31, qL33, qL40, qL43, qL45, qL48, qL49, qL57, qL58, qL59, qL60, qL61, qL65, qL90, qL97, qL98, qL99, qL118, qL119, qL126, qL240, qL261, qL501, qL999, qL1000, qL1002, qL2505, qL3006, qL999999, qL1000000, f6_cashes, f6_cashes_j46, h2, h5, hlt, h9.1]
    · have h4 := s0_cellOf_no hB cB hnone
      have h5 := s6_spotOf_no hB mB hnone
      refine ⟨-nI 2, sr + 1, bK, bM, _, ?_, ?_, hno⟩
      · simp (disch := omega) only [q_inb, q_isZ0, q_isZ1, q_leT, q_leF, q_ltT, q_ltF, q_eqT, q_eqF, nI_leI, nI_ltI, nI_eq, nI_add, pk_mul, q_sub, pk_sub, q_mod, pk_div, nI_clamp, q_not, q_m1, q_z1, q_n1lt, Nat.add_zero, Nat.zero_add, q_nT, q_nF, ↓reduceIte, bd0_s, bd1_s, bd2_s, bd3_s, bd4_s, bd5_s, bd6_s, bd7_s, bd8_s, bd9_s, lt_s_, qL0, qL1, qL2, qL3, qL4, qL5, qL6, qL7, qL8, qL9, qL10, qL11, qL12, qL13, qL14, qL15, qL16, qL17, qL21, qL25, qL26, qL31, qL33, qL40, qL43, qL45, qL48, qL49, qL57, qL58, qL59, qL60, qL61, qL65, qL90, qL97, qL98, qL99, qL118, qL119, qL126, qL240, qL261, qL501, qL999, qL1000, qL1002, qL2505, qL3006, qL999999, qL1000000, f4_cashByReading, f4_reasonAgainstCashing, h1, h4, hlt]
      · simp (disch := omega) only [q_inb, q_isZ0, q_isZ1, q_leT, q_leF, q_ltT, q_ltF, q_eqT, q_eqF, nI_leI, nI_ltI, nI_eq, nI_add, pk_mul, q_sub, pk_sub, q_mod, pk_div, nI_clamp, q_not, q_m1, q_z1, q_n1lt, Nat.add_zero, Nat.zero_add, q_nT, q_nF, ↓reduceIte, bd0_s, bd1_s, bd2_s, bd3_s, bd4_s, bd5_s, bd6_s, bd7_s, bd8_s, bd9_s, lt_s_, qL0, qL1, qL2, qL3, qL4, qL5, qL6, qL7, qL8, qL9, qL10, qL11, qL12, qL13, qL14, qL15, qL16, qL17, qL21, qL25, qL26, qL31, qL33, qL40, qL43, qL45, qL48, qL49, qL57, qL58, qL59, qL60, qL61, qL65, qL90, qL97, qL98, qL99, qL118, qL119, qL126, qL240, qL261, qL501, qL999, qL1000, qL1002, qL2505, qL3006, qL999999, qL1000000, f6_cashes, f6_cashes_j46, h2, h5, hlt]
  · refine ⟨-nI 1, sr + 1, bK, bM, _, ?_, ?_, hno⟩
    · simp (disch := omega) only [q_inb, q_isZ0, q_isZ1, q_leT, q_leF, q_ltT, q_ltF, q_eqT, q_eqF, nI_leI, nI_ltI, nI_eq, nI_add, pk_mul, q_sub, pk_sub, q_mod, pk_div, nI_clamp, q_not, q_m1, q_z1, q_n1lt, Nat.add_zero, Nat.zero_add, q_nT, q_nF, ↓reduceIte, bd0_s, bd1_s, bd2_s, bd3_s, bd4_s, bd5_s, bd6_s, bd7_s, bd8_s, bd9_s, lt_s_, qL0, qL1, qL2, qL3, qL4, qL5, qL6, qL7, qL8, qL9, qL10, qL11, qL12, qL13, qL14, qL15, qL16, qL17, qL21, qL25, qL26, qL31, qL33, qL40, qL43, qL45, qL48, qL49, qL57, qL58, qL59, qL60, qL61, qL65, qL90, qL97, qL98, qL99, qL118, qL119, qL126, qL240, qL261, qL501, qL999, qL1000, qL1002, qL2505, qL3006, qL999999, qL1000000, f4_cashByReading, f4_reasonAgainstCashing, h1]
    · rcases cell_case h F Z (nI s) with ⟨s', b, e, hin⟩ | hnone
      · have e' : s = s' := (nI_eq (by omega) (by have := inB_lt hB hin; omega)).mp e
        subst e'
        have h5 := s6_spotOf_in hB mB hin
        simp (disch := omega) only [q_inb, q_isZ0, q_isZ1, q_leT, q_leF, q_ltT, q_ltF, q_eqT, q_eqF, nI_leI, nI_ltI, nI_eq, nI_add, pk_mul, q_sub, pk_sub, q_mod, pk_div, nI_clamp, q_not, q_m1, q_z1, q_n1lt, Nat.add_zero, Nat.zero_add, q_nT, q_nF, ↓reduceIte, bd0_s, bd1_s, bd2_s, bd3_s, bd4_s, bd5_s, bd6_s, bd7_s, bd8_s, bd9_s, lt_s_, qL0, qL1, qL2, qL3, qL4, qL5, qL6, qL7, qL8, qL9, qL10, qL11, qL12, qL13, qL14, qL15, qL16, qL17, qL21, qL25, qL26, qL31, qL33, qL40, qL43, qL45, qL48, qL49, qL57, qL58, qL59, qL60, qL61, qL65, qL90, qL97, qL98, qL99, qL118, qL119, qL126, qL240, qL261, qL501, qL999, qL1000, qL1002, qL2505, qL3006, qL999999, qL1000000, f6_cashes, f6_cashes_j46, h2, h5]
      · have h5 := s6_spotOf_no hB mB hnone
        simp (disch := omega) only [q_inb, q_isZ0, q_isZ1, q_leT, q_leF, q_ltT, q_ltF, q_eqT, q_eqF, nI_leI, nI_ltI, nI_eq, nI_add, pk_mul, q_sub, pk_sub, q_mod, pk_div, nI_clamp, q_not, q_m1, q_z1, q_n1lt, Nat.add_zero, Nat.zero_add, q_nT, q_nF, ↓reduceIte, bd0_s, bd1_s, bd2_s, bd3_s, bd4_s, bd5_s, bd6_s, bd7_s, bd8_s, bd9_s, lt_s_, qL0, qL1, qL2, qL3, qL4, qL5, qL6, qL7, qL8, qL9, qL10, qL11, qL12, qL13, qL14, qL15, qL16, qL17, qL21, qL25, qL26, qL31, qL33, qL40, qL43, qL45, qL48, qL49, qL57, qL58, qL59, qL60, qL61, qL65, qL90, qL97, qL98, qL99, qL118, qL119, qL126, qL240, qL261, qL501, qL999, qL1000, qL1002, qL2505, qL3006, qL999999, qL1000000, f6_cashes, f6_cashes_j46, h2, h5]
