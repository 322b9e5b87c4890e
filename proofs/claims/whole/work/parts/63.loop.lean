
/-! ===== the law's loop ===== -/
theorem len4 {L : Nat} (hL : L ≤ 2048) : (Int32.ofNat L - (4 : Int32)).toInt = (L : Int) - 4 := by
  by_cases h : 4 ≤ L
  · rw [show Int32.ofNat L - (4 : Int32) = nI (L - 4) from pk_sub h, nI_toInt (by omega)]
    omega
  · rcases (show L = 0 ∨ L = 1 ∨ L = 2 ∨ L = 3 by omega) with rfl | rfl | rfl | rfl <;> rfl
section Loop
variable {p : Program} {l : Launch} {e : Env} {s : State} {m : MethodId} {below : List Frame} {meth : Method} {c : Code} {Q : State → Prop} {b L : Nat} {xs : Nat → Int32} {D : va_G} {cI cZ cS cJ : ClassId}
set_option maxHeartbeats 4000000 in
set_option maxRecDepth 100000 in
/-- one turn: the case that the script names -/
theorem law_turn {aC aS aL aW aB aF aZ aK aM aO aT aY aV aU aR aQ aX aN aP aJ aI aG aD : Nat} {kQ : Nat → SA} {H : Heap} {locs : List Loc} {cells slots : Nat} {ls : Array Slot} (hfl : l.stackTraces = false) (C : LC p s m c b L xs D cI cZ cS cJ) {i : Nat} {i4 : Int32} (hi : i + 4 ≤ L) (hL : L ≤ 2048) (e4 : i4 = nI i) (hcs : cells + 3 ≤ 601024 ∧ slots + 18 ≤ 7293034) (hl : lv_has ls 9 [(0, .ref b), (1, .ref aC), (2, .ref aX), (3, .ref aQ), (4, .int i4)]) (hI : LI s D cI cZ cS cJ aC aS aL aW aB aF aZ aK aM aO aT aY aV aU aR aQ aX aN aP aJ aI aG aD kQ H locs) (kk : ∀ (H1 : Heap) (locs1 : List Loc) (ls : Array Slot), LI s D cI cZ cS cJ aC aS aL aW aB aF aZ aK aM aO aT aY aV aU aR aQ aX aN aP aJ aI aG aD kQ H1 locs1 → lv_has ls 9 [(0, .ref b), (1, .ref aC), (2, .ref aX), (3, .ref aQ), (4, .int i4)] → W p l e room_1 s m #[Value.ref b] below meth c H1 locs1 (cells + 3) (slots + 18) Q (F0 m 1602 ls [])) (v : Int32) : W p l e room_1 s m #[Value.ref b] below meth c H locs cells slots Q (F0 m 39 ls [.int v]) := by
  have hx := C.1
  have hb := C.2.1
  by_cases h1 : v.toInt < 0 ∨ 24 < v.toInt
  · refine lv_tableOut (tgt := 1602) hx hb dL_law_39 h1 (by decide) ?_
    exact W.widen (k := cells + 3) (n := slots + 18) (by omega) (by omega) (kk H locs ls hI hl)
  have g1 : ¬ v.toInt < 0 := fun h => h1 (Or.inl h)
  have g2 : ¬ 24 < v.toInt := fun h => h1 (Or.inr h)
  rcases (show v.toInt = 0 ∨ v.toInt = 1 ∨ v.toInt = 2 ∨ v.toInt = 3 ∨ v.toInt = 4 ∨ v.toInt = 5 ∨ v.toInt = 6 ∨ v.toInt = 7 ∨ v.toInt = 8 ∨ v.toInt = 9 ∨ v.toInt = 10 ∨ v.toInt = 11 ∨ v.toInt = 12 ∨ v.toInt = 13 ∨ v.toInt = 14 ∨ v.toInt = 15 ∨ v.toInt = 16 ∨ v.toInt = 17 ∨ v.toInt = 18 ∨ v.toInt = 19 ∨ v.toInt = 20 ∨ v.toInt = 21 ∨ v.toInt = 22 ∨ v.toInt = 23 ∨ v.toInt = 24 by omega) with hv | hv | hv | hv | hv | hv | hv | hv | hv | hv | hv | hv | hv | hv | hv | hv | hv | hv | hv | hv | hv | hv | hv | hv | hv
  · exact lv_tableIn (off := 113) (tgt := 152) hx hb dL_law_39 g1 g2 (by rw [hv]; rfl) (by decide) (C_weight hfl C hi hL e4 hcs hl hI kk)
  · exact lv_tableIn (off := 181) (tgt := 220) hx hb dL_law_39 g1 g2 (by rw [hv]; rfl) (by decide) (C_modulus hfl C hi hL e4 hcs hl hI kk)
  · exact lv_tableIn (off := 237) (tgt := 276) hx hb dL_law_39 g1 g2 (by rw [hv]; rfl) (by decide) (C_book hfl C hi hL e4 hcs hl hI kk)
  · exact lv_tableIn (off := 305) (tgt := 344) hx hb dL_law_39 g1 g2 (by rw [hv]; rfl) (by decide) (C_write hfl C hi hL e4 hcs hl hI kk)
  · exact lv_tableIn (off := 373) (tgt := 412) hx hb dL_law_39 g1 g2 (by rw [hv]; rfl) (by decide) (C_cash hfl C hi hL e4 hcs hl hI kk)
  · exact lv_tableIn (off := 441) (tgt := 480) hx hb dL_law_39 g1 g2 (by rw [hv]; rfl) (by decide) (C_voidRun hfl C hi hL e4 hcs hl hI kk)
  · exact lv_tableIn (off := 509) (tgt := 548) hx hb dL_law_39 g1 g2 (by rw [hv]; rfl) (by decide) (C_append hfl C hi hL e4 hcs hl hI kk)
  · exact lv_tableIn (off := 565) (tgt := 604) hx hb dL_law_39 g1 g2 (by rw [hv]; rfl) (by decide) (C_clearBuffer hfl C hi hL e4 hcs hl hI kk)
  · exact lv_tableIn (off := 578) (tgt := 617) hx hb dL_law_39 g1 g2 (by rw [hv]; rfl) (by decide) (C_firstError hfl C hi hL e4 hcs hl hI kk)
  · exact lv_tableIn (off := 591) (tgt := 630) hx hb dL_law_39 g1 g2 (by rw [hv]; rfl) (by decide) (C_execute hfl C hi hL e4 hcs hl hI kk)
  · exact lv_tableIn (off := 635) (tgt := 674) hx hb dL_law_39 g1 g2 (by rw [hv]; rfl) (by decide) (C_undo hfl C hi hL e4 hcs hl hI kk)
  · exact lv_tableIn (off := 679) (tgt := 718) hx hb dL_law_39 g1 g2 (by rw [hv]; rfl) (by decide) (C_keep hfl C hi hL e4 hcs hl hI kk)
  · exact lv_tableIn (off := 735) (tgt := 774) hx hb dL_law_39 g1 g2 (by rw [hv]; rfl) (by decide) (C_goBack hfl C hi hL e4 hcs hl hI kk)
  · exact lv_tableIn (off := 791) (tgt := 830) hx hb dL_law_39 g1 g2 (by rw [hv]; rfl) (by decide) (C_letter hfl C hi hL e4 hcs hl hI kk)
  · exact lv_tableIn (off := 847) (tgt := 886) hx hb dL_law_39 g1 g2 (by rw [hv]; rfl) (by decide) (C_cheque hfl C hi hL e4 hcs hl hI kk)
  · exact lv_tableIn (off := 915) (tgt := 954) hx hb dL_law_39 g1 g2 (by rw [hv]; rfl) (by decide) (C_bookOf hfl C hi hL e4 hcs hl hI kk)
  · exact lv_tableIn (off := 983) (tgt := 1022) hx hb dL_law_39 g1 g2 (by rw [hv]; rfl) (by decide) (C_count hfl C hi hL e4 hcs hl hI kk)
  · exact lv_tableIn (off := 1039) (tgt := 1078) hx hb dL_law_39 g1 g2 (by rw [hv]; rfl) (by decide) (C_ranked hfl C hi hL e4 hcs hl hI kk)
  · exact lv_tableIn (off := 1095) (tgt := 1134) hx hb dL_law_39 g1 g2 (by rw [hv]; rfl) (by decide) (C_missed hfl C hi hL e4 hcs hl hI kk)
  · exact lv_tableIn (off := 1163) (tgt := 1202) hx hb dL_law_39 g1 g2 (by rw [hv]; rfl) (by decide) (C_weak hfl C hi hL e4 hcs hl hI kk)
  · exact lv_tableIn (off := 1243) (tgt := 1282) hx hb dL_law_39 g1 g2 (by rw [hv]; rfl) (by decide) (C_finds hfl C hi hL e4 hcs hl hI kk)
  · exact lv_tableIn (off := 1306) (tgt := 1345) hx hb dL_law_39 g1 g2 (by rw [hv]; rfl) (by decide) (C_bestWeight hfl C hi hL e4 hcs hl hI kk)
  · exact lv_tableIn (off := 1362) (tgt := 1401) hx hb dL_law_39 g1 g2 (by rw [hv]; rfl) (by decide) (C_meant hfl C hi hL e4 hcs hl hI kk)
  · exact lv_tableIn (off := 1442) (tgt := 1481) hx hb dL_law_39 g1 g2 (by rw [hv]; rfl) (by decide) (C_slip hfl C hi hL e4 hcs hl hI kk)
  · exact lv_tableIn (off := 1522) (tgt := 1561) hx hb dL_law_39 g1 g2 (by rw [hv]; rfl) (by decide) (C_cashed hfl C hi hL e4 hcs hl hI kk)
set_option maxHeartbeats 4000000 in
set_option maxRecDepth 100000 in
/-- the loop, from its head after t turns -/
theorem law_loop {aC aS aL aW aB aF aZ aK aM aO aT aY aV aU aR aQ aX aN aP aJ aI aG aD : Nat} {kQ : Nat → SA} (hfl : l.stackTraces = false) (C : LC p s m c b L xs D cI cZ cS cJ) (hL : L ≤ 2048)
    (kend : ∀ (H : Heap) (locs : List Loc) (cells slots : Nat) (ls : Array Slot), va_S (lA s) s.heap H locs → cells ≤ 601024 → slots ≤ 7293034 → W p l e room_1 s m #[Value.ref b] below meth c H locs cells slots Q (F0 m 1609 ls [.int 1])) :
    ∀ (n t : Nat) (i4 : Int32), 4 * t ≤ L → L + 4 ≤ 4 * t + 4 * n → i4 = nI (4 * t) → ∀ (H : Heap) (locs : List Loc) (ls : Array Slot), LI s D cI cZ cS cJ aC aS aL aW aB aF aZ aK aM aO aT aY aV aU aR aQ aX aN aP aJ aI aG aD kQ H locs → lv_has ls 9 [(0, .ref b), (1, .ref aC), (2, .ref aX), (3, .ref aQ), (4, .int i4)] → W p l e room_1 s m #[Value.ref b] below meth c H locs (87 + 3 * t) (9258 + 18 * t) Q (F0 m 23 ls []) := by
  intro n
  induction n with
  | zero =>
    intro t i4 h1 h2
    exact absurd h2 (by omega)
  | succ n ih =>
    intro t i4 ht htn e4 H locs ls hI hl
    obtain ⟨hx, hb, hml, hown, hts, hXs, hbl, hK, hX, hZ, hY⟩ := id C
    have hbA : ¬ lA s b := Nat.not_le.mpr hbl
    obtain ⟨sr, wm, wW, bh, bF, bZ, bK, bM, ol, oS, kd, kf, kA, kV, kP, ms, ml, mt, mq, mu, mN, mP, mK, mI, mT, mD, f, hInv, hP, hD, hS⟩ := id hI
    clear hInv hP hD
    refine lv_iload hx hb dL_law_23 (lv_at hl 4 rfl) ?_
    refine lv_aload_n hx hb dL_law_25 rfl (lv_at hl 0 rfl) ?_
    refine va_slen hx hb hXs hbl hbA hS dL_law_26 ?_
    refine lv_iconst (v := 4) hx hb dL_law_27 (by decide) ?_
    refine lv_isub hx hb dL_law_28 ?_
    refine lv_icmp_gt (tgt := 1608) hx hb dL_law_29 (by decide) (fun _ => ?_) (fun hle => ?_)
    · refine lv_iconst (v := 1) hx hb dL_law_1608 (by decide) ?_
      exact kend H locs _ _ ls hS (by omega) (by omega)
    · have hi : 4 * t + 4 ≤ L := by
        rw [Int32.lt_iff_toInt_lt, len4 hL, e4, nI_toInt (by omega)] at hle
        omega
      have n0 : vp_in i4 L := by rw [e4]; exact vp_in_nI (by omega) (by omega)
      refine lv_aload_n hx hb dL_law_32 rfl (lv_at hl 0 rfl) ?_
      refine lv_iload hx hb dL_law_33 (lv_at hl 4 rfl) ?_
      refine va_sld hx hb hXs hbl hbA hS n0 dL_law_35 ?_
      refine lv_bipush (v := 31) hx hb dL_law_36 (by decide) ?_
      refine lv_iand hx hb dL_law_38 ?_
      refine law_turn hfl C hi hL e4 ⟨by omega, by omega⟩ hl hI (fun H1 locs1 ls hI hl => ?_) _
      refine lv_iinc (v := nI (4 * (t + 1))) (lv' := [(4, .int (nI (4 * (t + 1)))), (0, .ref b), (1, .ref aC), (2, .ref aX), (3, .ref aQ)]) hx hb dL_law_1602 hl (k := 4) rfl (by rw [e4]; exact nI_add (4 * t) 4) (by decide) rfl (fun ls hl => ?_)
      refine lv_goto (tgt := 23) hx hb dL_law_1605 (by decide) ?_
      exact ih (t + 1) _ (by omega) (by omega) rfl H1 locs1 ls hI (lv_sub hl [1, 2, 3, 4, 0] rfl)
end Loop
