
section Law
variable {p : Program} {l : Launch} {e : Env} {s : State} {m : MethodId} {below : List Frame} {meth : Method} {c : Code} {Q : State → Prop} {b nL : Nat} {xs : Nat → Int32} {D : va_G} {cI cZ cS cJ : ClassId}
set_option maxHeartbeats 16000000 in
set_option maxRecDepth 100000 in
theorem law_body (hfl : l.stackTraces = false) (C : LC p s m c b nL xs D cI cZ cS cJ) (a : AD) (aQ : Nat) (wq : Nat → Int64) (st : ST) (kend : ∀ (H : Heap) (locs : List Loc) (cells slots pc : Nat) (ls : Array Slot), va_S (lA s) s.heap H locs → cells ≤ 600130 → slots ≤ 7301080 → decode cL_law pc = .ok (.ireturn, 1) → W p l e room_1 s m #[Value.ref b] below meth c H locs cells slots Q (F0 m pc ls [.int 1])) (hF : fL_lawB nL st wq xs = some (1 : Int32)) (H : Heap) (locs : List Loc) (cl sl : Nat) (hc1 : cl + 777 ≤ 600130) (hc2 : sl + 4662 ≤ 7301080) (hP : va_P D vwCl (WS cI cZ cS a st ++ [(aQ, .inl (cJ, 64, .inr (.inl wq)))]) H) (hD : va_D (lA s) (WS cI cZ cS a st ++ [(aQ, .inl (cJ, 64, .inr (.inl wq)))])) (hS : va_S (lA s) s.heap H locs) (ls : Array Slot) (hl : lv_has ls 16 [(0, .ref b), (1, .ref a.1), (2, .ref aQ)]) : W p l e room_1 s m #[Value.ref b] below meth c H locs cl sl Q (F0 m 33 ls []) := by
  obtain ⟨hx, hb, hml, hown, hts, hXs, hbl, hK, -, hX, hZ, hY⟩ := C
  have hbA : ¬ lA s b := Nat.not_le.mpr hbl
  have S : CallFix p m c cL_law 16 s #[Value.ref b] lw_all RL := ⟨hx, hb, hml, hown, hts⟩
  have W_446 : ∀ (st : ST) (wq : Nat → Int64) (x4 : Int64) (x6 : Int32) (s0 : Int32) (s1 : Int32) (k91 : Int32 → Int32 → ST → (Nat → Int64) → Option (Int32)) (n91 : Nat) (hk91 : ∀ (x3 : Int32) (x6 : Int32) (st : ST) (wq : Nat → Int64), ∀ (H : Heap) (locs : List Loc) (cl sl : Nat), cl + n91 * 3 + 687 ≤ 600130 → sl + n91 * 18 + 4122 ≤ 7301080 → va_P D vwCl (WS cI cZ cS a st ++ [(aQ, .inl (cJ, 64, .inr (.inl wq)))]) H → va_D (lA s) (WS cI cZ cS a st ++ [(aQ, .inl (cJ, 64, .inr (.inl wq)))]) → va_S (lA s) s.heap H locs → ∀ (ls : Array Slot), lv_has ls 16 [(0, .ref b), (1, .ref a.1), (2, .ref aQ), (3, .int x3), (4, .long x4), (6, .int x6)] → k91 x3 x6 st wq = some ((1 : Int32)) → W p l e room_1 s m #[Value.ref b] below meth c H locs cl sl Q (F0 m 91 ls [])), ∀ (H : Heap) (locs : List Loc) (cl sl : Nat), cl + n91 * 3 + 687 ≤ 600130 → sl + n91 * 18 + 4122 ≤ 7301080 → va_P D vwCl (WS cI cZ cS a st ++ [(aQ, .inl (cJ, 64, .inr (.inl wq)))]) H → va_D (lA s) (WS cI cZ cS a st ++ [(aQ, .inl (cJ, 64, .inr (.inl wq)))]) → va_S (lA s) s.heap H locs → ∀ (ls : Array Slot), lv_has ls 16 [(0, .ref b), (1, .ref a.1), (2, .ref aQ), (4, .long x4), (6, .int x6)] → fL_law_j446 k91 nL st wq xs x4 x6 s0 s1 = some ((1 : Int32)) → W p l e room_1 s m #[Value.ref b] below meth c H locs cl sl Q (F0 m 446 ls [.int s0, .int s1]) := by
    intro st wq x4 x6 s0 s1 k91 n91 hk91 H locs cl sl hc1 hc2 hP hD hS ls hl hF
    rw [fL_law_j446] at hF
    refine lv_iadd hx hb dL_law_446 ?_
    refine lv_istore_n (lv' := [(3, .int (s1 + s0)), (0, .ref b), (1, .ref a.1), (2, .ref aQ), (4, .long x4), (6, .int x6)]) hx hb dL_law_447 rfl hl (by decide) rfl (fun ls hl => ?_)
    refine lv_iinc (v := (x6 + 1)) (lv' := [(6, .int (x6 + 1)), (3, .int (s1 + s0)), (0, .ref b), (1, .ref a.1), (2, .ref aQ), (4, .long x4)]) hx hb dL_law_448 hl (k := 5) rfl rfl (by decide) rfl (fun ls hl => ?_)
    refine lv_goto (tgt := 91) hx hb dL_law_451 (by decide) ?_
    exact hk91 (s1 + s0) (x6 + 1) st wq _ _ _ _ (by omega) (by omega) hP hD hS ls (lv_sub hl [2, 3, 4, 1, 5, 0] rfl) hF
  have W_435 : ∀ (st : ST) (wq : Nat → Int64) (x3 : Int32) (x4 : Int64) (x6 : Int32) (x15 : Int32) (k91 : Int32 → Int32 → ST → (Nat → Int64) → Option (Int32)) (n91 : Nat) (hk91 : ∀ (x3 : Int32) (x6 : Int32) (st : ST) (wq : Nat → Int64), ∀ (H : Heap) (locs : List Loc) (cl sl : Nat), cl + n91 * 3 + 687 ≤ 600130 → sl + n91 * 18 + 4122 ≤ 7301080 → va_P D vwCl (WS cI cZ cS a st ++ [(aQ, .inl (cJ, 64, .inr (.inl wq)))]) H → va_D (lA s) (WS cI cZ cS a st ++ [(aQ, .inl (cJ, 64, .inr (.inl wq)))]) → va_S (lA s) s.heap H locs → ∀ (ls : Array Slot), lv_has ls 16 [(0, .ref b), (1, .ref a.1), (2, .ref aQ), (3, .int x3), (4, .long x4), (6, .int x6)] → k91 x3 x6 st wq = some ((1 : Int32)) → W p l e room_1 s m #[Value.ref b] below meth c H locs cl sl Q (F0 m 91 ls [])), ∀ (H : Heap) (locs : List Loc) (cl sl : Nat), cl + n91 * 3 + 687 ≤ 600130 → sl + n91 * 18 + 4122 ≤ 7301080 → va_P D vwCl (WS cI cZ cS a st ++ [(aQ, .inl (cJ, 64, .inr (.inl wq)))]) H → va_D (lA s) (WS cI cZ cS a st ++ [(aQ, .inl (cJ, 64, .inr (.inl wq)))]) → va_S (lA s) s.heap H locs → ∀ (ls : Array Slot), lv_has ls 16 [(0, .ref b), (1, .ref a.1), (2, .ref aQ), (3, .int x3), (4, .long x4), (6, .int x6), (15, .int x15)] → fL_law_j435 k91 nL st wq xs x3 x4 x6 x15 = some ((1 : Int32)) → W p l e room_1 s m #[Value.ref b] below meth c H locs cl sl Q (F0 m 435 ls []) := by
    intro st wq x3 x4 x6 x15 k91 n91 hk91 H locs cl sl hc1 hc2 hP hD hS ls hl hF
    rw [fL_law_j435] at hF
    refine lv_iload_n hx hb dL_law_435 rfl (lv_at hl 3 rfl) ?_
    refine lv_iload hx hb dL_law_436 (lv_at hl 6 rfl) ?_
    refine lv_if_eq (tgt := 445) hx hb dL_law_438 (by decide) (fun c164 => ?_) (fun c164 => ?_)
    · have hF := ite_t c164 hF
      refine lv_iconst (v := (1 : Int32)) hx hb dL_law_445 (by decide) ?_
      exact W_446 st wq x4 x6 (1 : Int32) x3 k91 n91 hk91 _ _ _ _ (by omega) (by omega) hP hD hS ls (lv_sub hl [0, 1, 2, 4, 5] rfl) hF
    · have hF := ite_f c164 hF
      refine lv_iconst (v := (0 : Int32)) hx hb dL_law_441 (by decide) ?_
      refine lv_goto (tgt := 446) hx hb dL_law_442 (by decide) ?_
      exact W_446 st wq x4 x6 (0 : Int32) x3 k91 n91 hk91 _ _ _ _ (by omega) (by omega) hP hD hS ls (lv_sub hl [0, 1, 2, 4, 5] rfl) hF
  have W_404 : ∀ (st : ST) (wq : Nat → Int64) (x3 : Int32) (x4 : Int64) (x6 : Int32) (x9 : Int32) (s0 : Int32) (k91 : Int32 → Int32 → ST → (Nat → Int64) → Option (Int32)) (n91 : Nat) (hk91 : ∀ (x3 : Int32) (x6 : Int32) (st : ST) (wq : Nat → Int64), ∀ (H : Heap) (locs : List Loc) (cl sl : Nat), cl + n91 * 3 + 687 ≤ 600130 → sl + n91 * 18 + 4122 ≤ 7301080 → va_P D vwCl (WS cI cZ cS a st ++ [(aQ, .inl (cJ, 64, .inr (.inl wq)))]) H → va_D (lA s) (WS cI cZ cS a st ++ [(aQ, .inl (cJ, 64, .inr (.inl wq)))]) → va_S (lA s) s.heap H locs → ∀ (ls : Array Slot), lv_has ls 16 [(0, .ref b), (1, .ref a.1), (2, .ref aQ), (3, .int x3), (4, .long x4), (6, .int x6)] → k91 x3 x6 st wq = some ((1 : Int32)) → W p l e room_1 s m #[Value.ref b] below meth c H locs cl sl Q (F0 m 91 ls [])), ∀ (H : Heap) (locs : List Loc) (cl sl : Nat), cl + n91 * 3 + 687 ≤ 600130 → sl + n91 * 18 + 4122 ≤ 7301080 → va_P D vwCl (WS cI cZ cS a st ++ [(aQ, .inl (cJ, 64, .inr (.inl wq)))]) H → va_D (lA s) (WS cI cZ cS a st ++ [(aQ, .inl (cJ, 64, .inr (.inl wq)))]) → va_S (lA s) s.heap H locs → ∀ (ls : Array Slot), lv_has ls 16 [(0, .ref b), (1, .ref a.1), (2, .ref aQ), (3, .int x3), (4, .long x4), (6, .int x6), (9, .int x9)] → fL_law_j404 k91 nL st wq xs x3 x4 x6 x9 s0 = some ((1 : Int32)) → W p l e room_1 s m #[Value.ref b] below meth c H locs cl sl Q (F0 m 404 ls [.int s0]) := by
    intro st wq x3 x4 x6 x9 s0 k91 n91 hk91 H locs cl sl hc1 hc2 hP hD hS ls hl hF
    rw [fL_law_j404] at hF
    refine lv_istore (lv' := [(15, .int s0), (0, .ref b), (1, .ref a.1), (2, .ref aQ), (3, .int x3), (4, .long x4), (6, .int x6), (9, .int x9)]) hx hb dL_law_404 hl (by decide) rfl (fun ls hl => ?_)
    refine lv_iload hx hb dL_law_406 (lv_at hl 0 rfl) ?_
    refine lv_if_eq (tgt := 435) hx hb dL_law_408 (by decide) (fun c154 => ?_) (fun c154 => ?_)
    · have hF := ite_t c154 hF
      exact W_435 st wq x3 x4 x6 s0 k91 n91 hk91 _ _ _ _ (by omega) (by omega) hP hD hS ls (lv_sub hl [1, 2, 3, 4, 5, 6, 0] rfl) hF
    · have hF := ite_f c154 hF
      refine lv_aload_n hx hb dL_law_411 rfl (lv_at hl 2 rfl) ?_
      refine lv_bipush (v := (10 : Int32)) hx hb dL_law_412 (by decide) ?_
      obtain ⟨k155, q156, h157, hF⟩ := bd2_at hF
      obtain ⟨g158, hF⟩ := gd_at hF
      rw [g158] at h157
      refine rcall (va_runV (As := [.int (10 : Int32)]) (rest := []) S (NS_count l D cI cZ cS cJ a st (10 : Int32) q156 h157) (cwV 1 hts (gd_V wd_413 wd_414 wd_415 wd_22 wd_416) rfl rfl rfl hd5_count ⟨Nat.le_of_ble_eq_true rfl, Nat.le_of_ble_eq_true rfl⟩) (rPreV hK (wP_l hP) (ci := 5) (q := (RX5, TX5, 3)) (WS_0 cI cZ cS a st) rfl) rfl rfl hl.1 rfl (lv_room (Nat.le_of_ble_eq_true rfl)) dL_law_414 ⟨(by show cl + 0 ≤ 600130; omega), (by show sl + 0 ≤ 7301080; omega)⟩) ?_
      refine lv_iload hx hb dL_law_417 (lv_at hl 7 rfl) ?_
      refine lv_icmp_ne (tgt := 433) hx hb dL_law_419 (by decide) (fun c159 => ?_) (fun c159 => ?_)
      · have hF := ite_f c159 hF
        refine lv_iconst (v := (0 : Int32)) hx hb dL_law_433 (by decide) ?_
        exact absurd hF (by decide)
      · have hF := ite_t c159 hF
        refine lv_aload_n hx hb dL_law_422 rfl (lv_at hl 2 rfl) ?_
        obtain ⟨q160, h161, hF⟩ := bd1_at hF
        refine rcall (va_runS (As := [.ref a.1]) (rest := []) S (KL_seen l D cI cZ cS cJ a st q160 h161) (va_cwS 1 hts (gd_S wd_697 wd_698 wd_21 wd_699) rfl rfl rfl hdnL_seen ⟨Nat.le_of_ble_eq_true rfl, Nat.le_of_ble_eq_true rfl⟩) (rPreS hK (wP_l hP)) rfl rfl hl.1 rfl (lv_room (Nat.le_of_ble_eq_true rfl)) dL_law_423 ⟨(by show cl + 0 ≤ 600130; omega), (by show sl + 0 ≤ 7301080; omega)⟩) ?_
        refine lv_aload_n hx hb dL_law_426 rfl (lv_at hl 3 rfl) ?_
        refine lv_iload_n hx hb dL_law_427 rfl (lv_at hl 4 rfl) ?_
        obtain ⟨g162, hF⟩ := gd_at hF
        refine w_get hx hb hK hP g162 dL_law_428 ?_
        refine W.lcmp hx hb dL_law_429 ?_
        refine lv_if_eq (tgt := 435) hx hb dL_law_430 (by decide) (fun c163 => ?_) (fun c163 => ?_)
        · have hF := ite_t c163 hF
          exact W_435 st wq x3 x4 x6 s0 k91 n91 hk91 _ _ _ _ (by omega) (by omega) hP hD hS ls (lv_sub hl [1, 2, 3, 4, 5, 6, 0] rfl) hF
        · have hF := ite_f c163 hF
          refine lv_iconst (v := (0 : Int32)) hx hb dL_law_433 (by decide) ?_
          exact absurd hF (by decide)
  have W_390 : ∀ (st : ST) (wq : Nat → Int64) (x3 : Int32) (x4 : Int64) (x6 : Int32) (x9 : Int32) (s0 : Int32) (k91 : Int32 → Int32 → ST → (Nat → Int64) → Option (Int32)) (n91 : Nat) (hk91 : ∀ (x3 : Int32) (x6 : Int32) (st : ST) (wq : Nat → Int64), ∀ (H : Heap) (locs : List Loc) (cl sl : Nat), cl + n91 * 3 + 687 ≤ 600130 → sl + n91 * 18 + 4122 ≤ 7301080 → va_P D vwCl (WS cI cZ cS a st ++ [(aQ, .inl (cJ, 64, .inr (.inl wq)))]) H → va_D (lA s) (WS cI cZ cS a st ++ [(aQ, .inl (cJ, 64, .inr (.inl wq)))]) → va_S (lA s) s.heap H locs → ∀ (ls : Array Slot), lv_has ls 16 [(0, .ref b), (1, .ref a.1), (2, .ref aQ), (3, .int x3), (4, .long x4), (6, .int x6)] → k91 x3 x6 st wq = some ((1 : Int32)) → W p l e room_1 s m #[Value.ref b] below meth c H locs cl sl Q (F0 m 91 ls [])), ∀ (H : Heap) (locs : List Loc) (cl sl : Nat), cl + n91 * 3 + 687 ≤ 600130 → sl + n91 * 18 + 4122 ≤ 7301080 → va_P D vwCl (WS cI cZ cS a st ++ [(aQ, .inl (cJ, 64, .inr (.inl wq)))]) H → va_D (lA s) (WS cI cZ cS a st ++ [(aQ, .inl (cJ, 64, .inr (.inl wq)))]) → va_S (lA s) s.heap H locs → ∀ (ls : Array Slot), lv_has ls 16 [(0, .ref b), (1, .ref a.1), (2, .ref aQ), (3, .int x3), (4, .long x4), (6, .int x6), (9, .int x9)] → fL_law_j390 k91 nL st wq xs x3 x4 x6 x9 s0 = some ((1 : Int32)) → W p l e room_1 s m #[Value.ref b] below meth c H locs cl sl Q (F0 m 390 ls [.int s0]) := by
    intro st wq x3 x4 x6 x9 s0 k91 n91 hk91 H locs cl sl hc1 hc2 hP hD hS ls hl hF
    rw [fL_law_j390] at hF
    refine lv_istore (lv' := [(14, .int s0), (0, .ref b), (1, .ref a.1), (2, .ref aQ), (3, .int x3), (4, .long x4), (6, .int x6), (9, .int x9)]) hx hb dL_law_390 hl (by decide) rfl (fun ls hl => ?_)
    refine lv_iload hx hb dL_law_392 (lv_at hl 0 rfl) ?_
    refine lv_bipush (v := (-9 : Int32)) hx hb dL_law_394 (by decide) ?_
    refine lv_icmp_ge (tgt := 403) hx hb dL_law_396 (by decide) (fun c153 => ?_) (fun c153 => ?_)
    · have hF := ite_t c153 hF
      refine lv_iconst (v := (0 : Int32)) hx hb dL_law_403 (by decide) ?_
      exact W_404 st wq x3 x4 x6 x9 (0 : Int32) k91 n91 hk91 _ _ _ _ (by omega) (by omega) hP hD hS ls (lv_sub hl [1, 2, 3, 4, 5, 6, 7] rfl) hF
    · have hF := ite_f c153 hF
      refine lv_iconst (v := (1 : Int32)) hx hb dL_law_399 (by decide) ?_
      refine lv_goto (tgt := 404) hx hb dL_law_400 (by decide) ?_
      exact W_404 st wq x3 x4 x6 x9 (1 : Int32) k91 n91 hk91 _ _ _ _ (by omega) (by omega) hP hD hS ls (lv_sub hl [1, 2, 3, 4, 5, 6, 7] rfl) hF
  have W_208 : ∀ (st : ST) (wq : Nat → Int64) (x3 : Int32) (x4 : Int64) (x6 : Int32) (x7 : Int32) (x8 : Int32) (x9 : Int32) (x10 : Int32) (x11 : Int32) (x12 : Int32) (s0 : Int32) (k91 : Int32 → Int32 → ST → (Nat → Int64) → Option (Int32)) (n91 : Nat) (hk91 : ∀ (x3 : Int32) (x6 : Int32) (st : ST) (wq : Nat → Int64), ∀ (H : Heap) (locs : List Loc) (cl sl : Nat), cl + n91 * 3 + 687 ≤ 600130 → sl + n91 * 18 + 4122 ≤ 7301080 → va_P D vwCl (WS cI cZ cS a st ++ [(aQ, .inl (cJ, 64, .inr (.inl wq)))]) H → va_D (lA s) (WS cI cZ cS a st ++ [(aQ, .inl (cJ, 64, .inr (.inl wq)))]) → va_S (lA s) s.heap H locs → ∀ (ls : Array Slot), lv_has ls 16 [(0, .ref b), (1, .ref a.1), (2, .ref aQ), (3, .int x3), (4, .long x4), (6, .int x6)] → k91 x3 x6 st wq = some ((1 : Int32)) → W p l e room_1 s m #[Value.ref b] below meth c H locs cl sl Q (F0 m 91 ls [])), ∀ (H : Heap) (locs : List Loc) (cl sl : Nat), cl + n91 * 3 + 690 ≤ 600130 → sl + n91 * 18 + 4140 ≤ 7301080 → va_P D vwCl (WS cI cZ cS a st ++ [(aQ, .inl (cJ, 64, .inr (.inl wq)))]) H → va_D (lA s) (WS cI cZ cS a st ++ [(aQ, .inl (cJ, 64, .inr (.inl wq)))]) → va_S (lA s) s.heap H locs → ∀ (ls : Array Slot), lv_has ls 16 [(0, .ref b), (1, .ref a.1), (2, .ref aQ), (3, .int x3), (4, .long x4), (6, .int x6), (7, .int x7), (8, .int x8), (9, .int x9), (10, .int x10), (11, .int x11), (12, .int x12)] → fL_law_j208 k91 nL st wq xs x3 x4 x6 x7 x8 x9 x10 x11 x12 s0 = some ((1 : Int32)) → W p l e room_1 s m #[Value.ref b] below meth c H locs cl sl Q (F0 m 208 ls [.int s0]) := by
    intro st wq x3 x4 x6 x7 x8 x9 x10 x11 x12 s0 k91 n91 hk91 H locs cl sl hc1 hc2 hP hD hS ls hl hF
    rw [fL_law_j208] at hF
    refine lv_istore (lv' := [(13, .int s0), (0, .ref b), (1, .ref a.1), (2, .ref aQ), (3, .int x3), (4, .long x4), (6, .int x6), (7, .int x7), (8, .int x8), (9, .int x9), (10, .int x10), (11, .int x11), (12, .int x12)]) hx hb dL_law_208 hl (by decide) rfl (fun ls hl => ?_)
    refine lv_iload hx hb dL_law_210 (lv_at hl 8 rfl) ?_
    refine lv_iconst (v := (5 : Int32)) hx hb dL_law_212 (by decide) ?_
    refine lv_icmp_ge (tgt := 229) hx hb dL_law_213 (by decide) (fun c94 => ?_) (fun c94 => ?_)
    · have hF := ite_t c94 hF
      refine lv_iload hx hb dL_law_229 (lv_at hl 12 rfl) ?_
      refine lv_if_eq (tgt := 247) hx hb dL_law_231 (by decide) (fun c95 => ?_) (fun c95 => ?_)
      · have hF := ite_t c95 hF
        refine lv_iload hx hb dL_law_247 (lv_at hl 8 rfl) ?_
        refine lv_bipush (v := (12 : Int32)) hx hb dL_law_249 (by decide) ?_
        refine lv_icmp_ge (tgt := 278) hx hb dL_law_251 (by decide) (fun c96 => ?_) (fun c96 => ?_)
        · have hF := ite_t c96 hF
          refine lv_iload hx hb dL_law_278 (lv_at hl 8 rfl) ?_
          refine lv_bipush (v := (12 : Int32)) hx hb dL_law_280 (by decide) ?_
          refine lv_icmp_ne (tgt := 313) hx hb dL_law_282 (by decide) (fun c97 => ?_) (fun c97 => ?_)
          · have hF := ite_f c97 hF
            refine lv_iload hx hb dL_law_313 (lv_at hl 8 rfl) ?_
            refine lv_bipush (v := (15 : Int32)) hx hb dL_law_315 (by decide) ?_
            refine lv_icmp_ge (tgt := 348) hx hb dL_law_317 (by decide) (fun c98 => ?_) (fun c98 => ?_)
            · have hF := ite_t c98 hF
              refine lv_iload hx hb dL_law_348 (lv_at hl 8 rfl) ?_
              refine lv_bipush (v := (15 : Int32)) hx hb dL_law_350 (by decide) ?_
              refine lv_icmp_ne (tgt := 374) hx hb dL_law_352 (by decide) (fun c99 => ?_) (fun c99 => ?_)
              · have hF := ite_f c99 hF
                refine lv_aload_n hx hb dL_law_374 rfl (lv_at hl 2 rfl) ?_
                refine lv_bipush (v := (10 : Int32)) hx hb dL_law_375 (by decide) ?_
                refine lv_iload hx hb dL_law_377 (lv_at hl 7 rfl) ?_
                refine lv_iconst (v := (5 : Int32)) hx hb dL_law_379 (by decide) ?_
                refine lv_ishr hx hb dL_law_380 ?_
                refine lv_iconst (v := (2 : Int32)) hx hb dL_law_381 (by decide) ?_
                obtain ⟨q100, h101, hF⟩ := bd1_at hF
                refine rcall (va_runS (As := [.int (x7 >>> ((5 : Int32) &&& 31)), .int (2 : Int32)]) (rest := [.int (10 : Int32), .ref a.1]) S (KL_part l D cI cZ cS cJ (x7 >>> ((5 : Int32) &&& 31)) (2 : Int32) q100 h101) (va_cwS 2 hts (gd_S wd_440 wd_441 wd_21 wd_442) rfl rfl rfl hdnL_part ⟨Nat.le_of_ble_eq_true rfl, Nat.le_of_ble_eq_true rfl⟩) (rPreS hK (hP.sub (ws' := ([] : va_W)) [] rfl)) rfl rfl hl.1 rfl (lv_room (Nat.le_of_ble_eq_true rfl)) dL_law_382 ⟨(by show cl + 0 ≤ 600130; omega), (by show sl + 0 ≤ 7301080; omega)⟩) ?_
                refine lv_iconst (v := (0 : Int32)) hx hb dL_law_385 (by decide) ?_
                refine lv_iconst (v := (0 : Int32)) hx hb dL_law_386 (by decide) ?_
                obtain ⟨q102, u103, h104, hF⟩ := bd2_at hF
                refine ucallLi (X' := WS cI cZ cS a u103) (vx_runSW (As := [.ref a.1, .int (10 : Int32), .int q100, .int (0 : Int32), .int (0 : Int32)]) (rest := []) S (KT_goBack l hfl D cI cZ cS cJ a st q100 (0 : Int32) (0 : Int32) q102 u103 h104) (vx_cwSW 5 hts (gd_SW wd_448 wd_449 wd_21 cwL_call) rfl rfl rfl hdL_call ⟨Nat.le_of_ble_eq_true rfl, Nat.le_of_ble_eq_true rfl⟩) (wPreS hK hX hZ hY hS (wP_l hP) (wD_l hD)) rfl rfl hl.1 rfl (lv_room (Nat.le_of_ble_eq_true rfl)) dL_law_387 ⟨(by show cl + 3 ≤ 600130; omega), (by show sl + 18 ≤ 7301080; omega)⟩) hS hP hD (fun H locs hP hS => ?_)
                have hD : va_D (lA s) (WS cI cZ cS a u103 ++ [(aQ, .inl (cJ, 64, .inr (.inl wq)))]) := wD_re hD (fun B h => WS_D u103 h)
                have hP : va_P D vwCl (WS cI cZ cS a u103 ++ [(aQ, .inl (cJ, 64, .inr (.inl wq)))]) H := hP
                exact W_390 u103 wq x3 x4 x6 x9 q102 k91 n91 hk91 _ _ _ _ (by omega) (by omega) hP hD hS ls (lv_sub hl [1, 2, 3, 4, 5, 6, 9] rfl) hF
              · have hF := ite_t c99 hF
                refine lv_aload_n hx hb dL_law_355 rfl (lv_at hl 2 rfl) ?_
                refine lv_iconst (v := (1 : Int32)) hx hb dL_law_356 (by decide) ?_
                refine lv_iload hx hb dL_law_357 (lv_at hl 7 rfl) ?_
                refine lv_iconst (v := (5 : Int32)) hx hb dL_law_359 (by decide) ?_
                refine lv_ishr hx hb dL_law_360 ?_
                refine lv_bipush (v := (30 : Int32)) hx hb dL_law_361 (by decide) ?_
                obtain ⟨q105, h106, hF⟩ := bd1_at hF
                refine rcall (va_runS (As := [.int (x7 >>> ((5 : Int32) &&& 31)), .int (30 : Int32)]) (rest := [.int (1 : Int32), .ref a.1]) S (KL_part l D cI cZ cS cJ (x7 >>> ((5 : Int32) &&& 31)) (30 : Int32) q105 h106) (va_cwS 2 hts (gd_S wd_440 wd_441 wd_21 wd_442) rfl rfl rfl hdnL_part ⟨Nat.le_of_ble_eq_true rfl, Nat.le_of_ble_eq_true rfl⟩) (rPreS hK (hP.sub (ws' := ([] : va_W)) [] rfl)) rfl rfl hl.1 rfl (lv_room (Nat.le_of_ble_eq_true rfl)) dL_law_363 ⟨(by show cl + 0 ≤ 600130; omega), (by show sl + 0 ≤ 7301080; omega)⟩) ?_
                refine lv_iconst (v := (0 : Int32)) hx hb dL_law_366 (by decide) ?_
                refine lv_iconst (v := (0 : Int32)) hx hb dL_law_367 (by decide) ?_
                obtain ⟨q107, u108, h109, hF⟩ := bd2_at hF
                refine ucallLi (X' := WS cI cZ cS a u108) (vx_runSW (As := [.ref a.1, .int (1 : Int32), .int q105, .int (0 : Int32), .int (0 : Int32)]) (rest := []) S (KT_modulus l hfl D cI cZ cS cJ a st q105 (0 : Int32) (0 : Int32) q107 u108 h109) (vx_cwSW 5 hts (gd_SW wd_448 wd_449 wd_21 cwL_call) rfl rfl rfl hdL_call ⟨Nat.le_of_ble_eq_true rfl, Nat.le_of_ble_eq_true rfl⟩) (wPreS hK hX hZ hY hS (wP_l hP) (wD_l hD)) rfl rfl hl.1 rfl (lv_room (Nat.le_of_ble_eq_true rfl)) dL_law_368 ⟨(by show cl + 3 ≤ 600130; omega), (by show sl + 18 ≤ 7301080; omega)⟩) hS hP hD (fun H locs hP hS => ?_)
                have hD : va_D (lA s) (WS cI cZ cS a u108 ++ [(aQ, .inl (cJ, 64, .inr (.inl wq)))]) := wD_re hD (fun B h => WS_D u108 h)
                have hP : va_P D vwCl (WS cI cZ cS a u108 ++ [(aQ, .inl (cJ, 64, .inr (.inl wq)))]) H := hP
                refine lv_goto (tgt := 390) hx hb dL_law_371 (by decide) ?_
                exact W_390 u108 wq x3 x4 x6 x9 q107 k91 n91 hk91 _ _ _ _ (by omega) (by omega) hP hD hS ls (lv_sub hl [1, 2, 3, 4, 5, 6, 9] rfl) hF
            · have hF := ite_f c98 hF
              refine lv_aload_n hx hb dL_law_320 rfl (lv_at hl 2 rfl) ?_
              refine lv_iconst (v := (0 : Int32)) hx hb dL_law_321 (by decide) ?_
              refine lv_iload hx hb dL_law_322 (lv_at hl 7 rfl) ?_
              refine lv_iconst (v := (5 : Int32)) hx hb dL_law_324 (by decide) ?_
              refine lv_ishr hx hb dL_law_325 ?_
              refine lv_bipush (v := (7 : Int32)) hx hb dL_law_326 (by decide) ?_
              obtain ⟨q110, h111, hF⟩ := bd1_at hF
              refine rcall (va_runS (As := [.int (x7 >>> ((5 : Int32) &&& 31)), .int (7 : Int32)]) (rest := [.int (0 : Int32), .ref a.1]) S (KL_part l D cI cZ cS cJ (x7 >>> ((5 : Int32) &&& 31)) (7 : Int32) q110 h111) (va_cwS 2 hts (gd_S wd_440 wd_441 wd_21 wd_442) rfl rfl rfl hdnL_part ⟨Nat.le_of_ble_eq_true rfl, Nat.le_of_ble_eq_true rfl⟩) (rPreS hK (hP.sub (ws' := ([] : va_W)) [] rfl)) rfl rfl hl.1 rfl (lv_room (Nat.le_of_ble_eq_true rfl)) dL_law_328 ⟨(by show cl + 0 ≤ 600130; omega), (by show sl + 0 ≤ 7301080; omega)⟩) ?_
              refine lv_iload hx hb dL_law_331 (lv_at hl 7 rfl) ?_
              refine lv_bipush (v := (9 : Int32)) hx hb dL_law_333 (by decide) ?_
              refine lv_ishr hx hb dL_law_335 ?_
              refine lv_bipush (v := (11 : Int32)) hx hb dL_law_336 (by decide) ?_
              obtain ⟨q112, h113, hF⟩ := bd1_at hF
              refine rcall (va_runS (As := [.int (x7 >>> ((9 : Int32) &&& 31)), .int (11 : Int32)]) (rest := [.int q110, .int (0 : Int32), .ref a.1]) S (KL_part l D cI cZ cS cJ (x7 >>> ((9 : Int32) &&& 31)) (11 : Int32) q112 h113) (va_cwS 2 hts (gd_S wd_440 wd_441 wd_21 wd_442) rfl rfl rfl hdnL_part ⟨Nat.le_of_ble_eq_true rfl, Nat.le_of_ble_eq_true rfl⟩) (rPreS hK (hP.sub (ws' := ([] : va_W)) [] rfl)) rfl rfl hl.1 rfl (lv_room (Nat.le_of_ble_eq_true rfl)) dL_law_338 ⟨(by show cl + 0 ≤ 600130; omega), (by show sl + 0 ≤ 7301080; omega)⟩) ?_
              refine lv_iconst (v := (0 : Int32)) hx hb dL_law_341 (by decide) ?_
              obtain ⟨q114, u115, h116, hF⟩ := bd2_at hF
              refine ucallLi (X' := WS cI cZ cS a u115) (vx_runSW (As := [.ref a.1, .int (0 : Int32), .int q110, .int q112, .int (0 : Int32)]) (rest := []) S (KT_weight l hfl D cI cZ cS cJ a st q110 q112 (0 : Int32) q114 u115 h116) (vx_cwSW 5 hts (gd_SW wd_448 wd_449 wd_21 cwL_call) rfl rfl rfl hdL_call ⟨Nat.le_of_ble_eq_true rfl, Nat.le_of_ble_eq_true rfl⟩) (wPreS hK hX hZ hY hS (wP_l hP) (wD_l hD)) rfl rfl hl.1 rfl (lv_room (Nat.le_of_ble_eq_true rfl)) dL_law_342 ⟨(by show cl + 3 ≤ 600130; omega), (by show sl + 18 ≤ 7301080; omega)⟩) hS hP hD (fun H locs hP hS => ?_)
              have hD : va_D (lA s) (WS cI cZ cS a u115 ++ [(aQ, .inl (cJ, 64, .inr (.inl wq)))]) := wD_re hD (fun B h => WS_D u115 h)
              have hP : va_P D vwCl (WS cI cZ cS a u115 ++ [(aQ, .inl (cJ, 64, .inr (.inl wq)))]) H := hP
              refine lv_goto (tgt := 390) hx hb dL_law_345 (by decide) ?_
              exact W_390 u115 wq x3 x4 x6 x9 q114 k91 n91 hk91 _ _ _ _ (by omega) (by omega) hP hD hS ls (lv_sub hl [1, 2, 3, 4, 5, 6, 9] rfl) hF
          · have hF := ite_t c97 hF
            refine lv_aload_n hx hb dL_law_285 rfl (lv_at hl 2 rfl) ?_
            refine lv_iconst (v := (2 : Int32)) hx hb dL_law_286 (by decide) ?_
            refine lv_iload hx hb dL_law_287 (lv_at hl 7 rfl) ?_
            refine lv_iconst (v := (5 : Int32)) hx hb dL_law_289 (by decide) ?_
            refine lv_ishr hx hb dL_law_290 ?_
            refine lv_bipush (v := (60 : Int32)) hx hb dL_law_291 (by decide) ?_
            obtain ⟨q117, h118, hF⟩ := bd1_at hF
            refine rcall (va_runS (As := [.int (x7 >>> ((5 : Int32) &&& 31)), .int (60 : Int32)]) (rest := [.int (2 : Int32), .ref a.1]) S (KL_part l D cI cZ cS cJ (x7 >>> ((5 : Int32) &&& 31)) (60 : Int32) q117 h118) (va_cwS 2 hts (gd_S wd_440 wd_441 wd_21 wd_442) rfl rfl rfl hdnL_part ⟨Nat.le_of_ble_eq_true rfl, Nat.le_of_ble_eq_true rfl⟩) (rPreS hK (hP.sub (ws' := ([] : va_W)) [] rfl)) rfl rfl hl.1 rfl (lv_room (Nat.le_of_ble_eq_true rfl)) dL_law_293 ⟨(by show cl + 0 ≤ 600130; omega), (by show sl + 0 ≤ 7301080; omega)⟩) ?_
            refine lv_iload hx hb dL_law_296 (lv_at hl 7 rfl) ?_
            refine lv_bipush (v := (11 : Int32)) hx hb dL_law_298 (by decide) ?_
            refine lv_ishr hx hb dL_law_300 ?_
            refine lv_bipush (v := (9 : Int32)) hx hb dL_law_301 (by decide) ?_
            obtain ⟨q119, h120, hF⟩ := bd1_at hF
            refine rcall (va_runS (As := [.int (x7 >>> ((11 : Int32) &&& 31)), .int (9 : Int32)]) (rest := [.int q117, .int (2 : Int32), .ref a.1]) S (KL_part l D cI cZ cS cJ (x7 >>> ((11 : Int32) &&& 31)) (9 : Int32) q119 h120) (va_cwS 2 hts (gd_S wd_440 wd_441 wd_21 wd_442) rfl rfl rfl hdnL_part ⟨Nat.le_of_ble_eq_true rfl, Nat.le_of_ble_eq_true rfl⟩) (rPreS hK (hP.sub (ws' := ([] : va_W)) [] rfl)) rfl rfl hl.1 rfl (lv_room (Nat.le_of_ble_eq_true rfl)) dL_law_303 ⟨(by show cl + 0 ≤ 600130; omega), (by show sl + 0 ≤ 7301080; omega)⟩) ?_
            refine lv_iconst (v := (0 : Int32)) hx hb dL_law_306 (by decide) ?_
            obtain ⟨q121, u122, h123, hF⟩ := bd2_at hF
            refine ucallLi (X' := WS cI cZ cS a u122) (vx_runSW (As := [.ref a.1, .int (2 : Int32), .int q117, .int q119, .int (0 : Int32)]) (rest := []) S (KT_book l hfl D cI cZ cS cJ a st q117 q119 (0 : Int32) q121 u122 h123) (vx_cwSW 5 hts (gd_SW wd_448 wd_449 wd_21 cwL_call) rfl rfl rfl hdL_call ⟨Nat.le_of_ble_eq_true rfl, Nat.le_of_ble_eq_true rfl⟩) (wPreS hK hX hZ hY hS (wP_l hP) (wD_l hD)) rfl rfl hl.1 rfl (lv_room (Nat.le_of_ble_eq_true rfl)) dL_law_307 ⟨(by show cl + 3 ≤ 600130; omega), (by show sl + 18 ≤ 7301080; omega)⟩) hS hP hD (fun H locs hP hS => ?_)
            have hD : va_D (lA s) (WS cI cZ cS a u122 ++ [(aQ, .inl (cJ, 64, .inr (.inl wq)))]) := wD_re hD (fun B h => WS_D u122 h)
            have hP : va_P D vwCl (WS cI cZ cS a u122 ++ [(aQ, .inl (cJ, 64, .inr (.inl wq)))]) H := hP
            refine lv_goto (tgt := 390) hx hb dL_law_310 (by decide) ?_
            exact W_390 u122 wq x3 x4 x6 x9 q121 k91 n91 hk91 _ _ _ _ (by omega) (by omega) hP hD hS ls (lv_sub hl [1, 2, 3, 4, 5, 6, 9] rfl) hF
        · have hF := ite_f c96 hF
          refine lv_aload_n hx hb dL_law_254 rfl (lv_at hl 2 rfl) ?_
          refine lv_iconst (v := (5 : Int32)) hx hb dL_law_255 (by decide) ?_
          refine lv_iload hx hb dL_law_256 (lv_at hl 10 rfl) ?_
          refine lv_bipush (v := (8 : Int32)) hx hb dL_law_258 (by decide) ?_
          refine lv_iload hx hb dL_law_260 (lv_at hl 7 rfl) ?_
          refine lv_bipush (v := (9 : Int32)) hx hb dL_law_262 (by decide) ?_
          refine lv_ishr hx hb dL_law_264 ?_
          refine lv_bipush (v := (17 : Int32)) hx hb dL_law_265 (by decide) ?_
          obtain ⟨q124, h125, hF⟩ := bd1_at hF
          refine rcall (va_runS (As := [.int (x7 >>> ((9 : Int32) &&& 31)), .int (17 : Int32)]) (rest := [.int (8 : Int32), .int x10, .int (5 : Int32), .ref a.1]) S (KL_part l D cI cZ cS cJ (x7 >>> ((9 : Int32) &&& 31)) (17 : Int32) q124 h125) (va_cwS 2 hts (gd_S wd_440 wd_441 wd_21 wd_442) rfl rfl rfl hdnL_part ⟨Nat.le_of_ble_eq_true rfl, Nat.le_of_ble_eq_true rfl⟩) (rPreS hK (hP.sub (ws' := ([] : va_W)) [] rfl)) rfl rfl hl.1 rfl (lv_room (Nat.le_of_ble_eq_true rfl)) dL_law_267 ⟨(by show cl + 0 ≤ 600130; omega), (by show sl + 0 ≤ 7301080; omega)⟩) ?_
          refine lv_iadd hx hb dL_law_270 ?_
          refine lv_iconst (v := (0 : Int32)) hx hb dL_law_271 (by decide) ?_
          obtain ⟨q126, u127, h128, hF⟩ := bd2_at hF
          refine ucallLi (X' := WS cI cZ cS a u127) (vx_runSW (As := [.ref a.1, .int (5 : Int32), .int x10, .int ((8 : Int32) + q124), .int (0 : Int32)]) (rest := []) S (KT_voidRun l hfl D cI cZ cS cJ a st x10 ((8 : Int32) + q124) (0 : Int32) q126 u127 h128) (vx_cwSW 5 hts (gd_SW wd_448 wd_449 wd_21 cwL_call) rfl rfl rfl hdL_call ⟨Nat.le_of_ble_eq_true rfl, Nat.le_of_ble_eq_true rfl⟩) (wPreS hK hX hZ hY hS (wP_l hP) (wD_l hD)) rfl rfl hl.1 rfl (lv_room (Nat.le_of_ble_eq_true rfl)) dL_law_272 ⟨(by show cl + 3 ≤ 600130; omega), (by show sl + 18 ≤ 7301080; omega)⟩) hS hP hD (fun H locs hP hS => ?_)
          have hD : va_D (lA s) (WS cI cZ cS a u127 ++ [(aQ, .inl (cJ, 64, .inr (.inl wq)))]) := wD_re hD (fun B h => WS_D u127 h)
          have hP : va_P D vwCl (WS cI cZ cS a u127 ++ [(aQ, .inl (cJ, 64, .inr (.inl wq)))]) H := hP
          refine lv_goto (tgt := 390) hx hb dL_law_275 (by decide) ?_
          exact W_390 u127 wq x3 x4 x6 x9 q126 k91 n91 hk91 _ _ _ _ (by omega) (by omega) hP hD hS ls (lv_sub hl [1, 2, 3, 4, 5, 6, 9] rfl) hF
      · have hF := ite_f c95 hF
        refine lv_aload_n hx hb dL_law_234 rfl (lv_at hl 2 rfl) ?_
        refine lv_iconst (v := (4 : Int32)) hx hb dL_law_235 (by decide) ?_
        refine lv_iload hx hb dL_law_236 (lv_at hl 10 rfl) ?_
        refine lv_iload hx hb dL_law_238 (lv_at hl 0 rfl) ?_
        refine lv_iconst (v := (0 : Int32)) hx hb dL_law_240 (by decide) ?_
        obtain ⟨q129, u130, h131, hF⟩ := bd2_at hF
        refine ucallLi (X' := WS cI cZ cS a u130) (vx_runSW (As := [.ref a.1, .int (4 : Int32), .int x10, .int s0, .int (0 : Int32)]) (rest := []) S (KT_cash l hfl D cI cZ cS cJ a st x10 s0 (0 : Int32) q129 u130 h131) (vx_cwSW 5 hts (gd_SW wd_448 wd_449 wd_21 cwL_call) rfl rfl rfl hdL_call ⟨Nat.le_of_ble_eq_true rfl, Nat.le_of_ble_eq_true rfl⟩) (wPreS hK hX hZ hY hS (wP_l hP) (wD_l hD)) rfl rfl hl.1 rfl (lv_room (Nat.le_of_ble_eq_true rfl)) dL_law_241 ⟨(by show cl + 3 ≤ 600130; omega), (by show sl + 18 ≤ 7301080; omega)⟩) hS hP hD (fun H locs hP hS => ?_)
        have hD : va_D (lA s) (WS cI cZ cS a u130 ++ [(aQ, .inl (cJ, 64, .inr (.inl wq)))]) := wD_re hD (fun B h => WS_D u130 h)
        have hP : va_P D vwCl (WS cI cZ cS a u130 ++ [(aQ, .inl (cJ, 64, .inr (.inl wq)))]) H := hP
        refine lv_goto (tgt := 390) hx hb dL_law_244 (by decide) ?_
        exact W_390 u130 wq x3 x4 x6 x9 q129 k91 n91 hk91 _ _ _ _ (by omega) (by omega) hP hD hS ls (lv_sub hl [1, 2, 3, 4, 5, 6, 9] rfl) hF
    · have hF := ite_f c94 hF
      refine lv_aload_n hx hb dL_law_216 rfl (lv_at hl 2 rfl) ?_
      refine lv_iconst (v := (3 : Int32)) hx hb dL_law_217 (by decide) ?_
      refine lv_iload hx hb dL_law_218 (lv_at hl 10 rfl) ?_
      refine lv_iload hx hb dL_law_220 (lv_at hl 11 rfl) ?_
      refine lv_iconst (v := (0 : Int32)) hx hb dL_law_222 (by decide) ?_
      obtain ⟨q132, u133, h134, hF⟩ := bd2_at hF
      refine ucallLi (X' := WS cI cZ cS a u133) (vx_runSW (As := [.ref a.1, .int (3 : Int32), .int x10, .int x11, .int (0 : Int32)]) (rest := []) S (KT_write l hfl D cI cZ cS cJ a st x10 x11 (0 : Int32) q132 u133 h134) (vx_cwSW 5 hts (gd_SW wd_448 wd_449 wd_21 cwL_call) rfl rfl rfl hdL_call ⟨Nat.le_of_ble_eq_true rfl, Nat.le_of_ble_eq_true rfl⟩) (wPreS hK hX hZ hY hS (wP_l hP) (wD_l hD)) rfl rfl hl.1 rfl (lv_room (Nat.le_of_ble_eq_true rfl)) dL_law_223 ⟨(by show cl + 3 ≤ 600130; omega), (by show sl + 18 ≤ 7301080; omega)⟩) hS hP hD (fun H locs hP hS => ?_)
      have hD : va_D (lA s) (WS cI cZ cS a u133 ++ [(aQ, .inl (cJ, 64, .inr (.inl wq)))]) := wD_re hD (fun B h => WS_D u133 h)
      have hP : va_P D vwCl (WS cI cZ cS a u133 ++ [(aQ, .inl (cJ, 64, .inr (.inl wq)))]) H := hP
      refine lv_goto (tgt := 390) hx hb dL_law_226 (by decide) ?_
      exact W_390 u133 wq x3 x4 x6 x9 q132 k91 n91 hk91 _ _ _ _ (by omega) (by omega) hP hD hS ls (lv_sub hl [1, 2, 3, 4, 5, 6, 9] rfl) hF
  have W_175 : ∀ (st : ST) (wq : Nat → Int64) (x3 : Int32) (x4 : Int64) (x6 : Int32) (x7 : Int32) (x8 : Int32) (x9 : Int32) (x10 : Int32) (x11 : Int32) (s0 : Int32) (k91 : Int32 → Int32 → ST → (Nat → Int64) → Option (Int32)) (n91 : Nat) (hk91 : ∀ (x3 : Int32) (x6 : Int32) (st : ST) (wq : Nat → Int64), ∀ (H : Heap) (locs : List Loc) (cl sl : Nat), cl + n91 * 3 + 687 ≤ 600130 → sl + n91 * 18 + 4122 ≤ 7301080 → va_P D vwCl (WS cI cZ cS a st ++ [(aQ, .inl (cJ, 64, .inr (.inl wq)))]) H → va_D (lA s) (WS cI cZ cS a st ++ [(aQ, .inl (cJ, 64, .inr (.inl wq)))]) → va_S (lA s) s.heap H locs → ∀ (ls : Array Slot), lv_has ls 16 [(0, .ref b), (1, .ref a.1), (2, .ref aQ), (3, .int x3), (4, .long x4), (6, .int x6)] → k91 x3 x6 st wq = some ((1 : Int32)) → W p l e room_1 s m #[Value.ref b] below meth c H locs cl sl Q (F0 m 91 ls [])), ∀ (H : Heap) (locs : List Loc) (cl sl : Nat), cl + n91 * 3 + 690 ≤ 600130 → sl + n91 * 18 + 4140 ≤ 7301080 → va_P D vwCl (WS cI cZ cS a st ++ [(aQ, .inl (cJ, 64, .inr (.inl wq)))]) H → va_D (lA s) (WS cI cZ cS a st ++ [(aQ, .inl (cJ, 64, .inr (.inl wq)))]) → va_S (lA s) s.heap H locs → ∀ (ls : Array Slot), lv_has ls 16 [(0, .ref b), (1, .ref a.1), (2, .ref aQ), (3, .int x3), (4, .long x4), (6, .int x6), (7, .int x7), (8, .int x8), (9, .int x9), (10, .int x10), (11, .int x11)] → fL_law_j175 k91 nL st wq xs x3 x4 x6 x7 x8 x9 x10 x11 s0 = some ((1 : Int32)) → W p l e room_1 s m #[Value.ref b] below meth c H locs cl sl Q (F0 m 175 ls [.int s0]) := by
    intro st wq x3 x4 x6 x7 x8 x9 x10 x11 s0 k91 n91 hk91 H locs cl sl hc1 hc2 hP hD hS ls hl hF
    rw [fL_law_j175] at hF
    refine lv_istore (lv' := [(12, .int s0), (0, .ref b), (1, .ref a.1), (2, .ref aQ), (3, .int x3), (4, .long x4), (6, .int x6), (7, .int x7), (8, .int x8), (9, .int x9), (10, .int x10), (11, .int x11)]) hx hb dL_law_175 hl (by decide) rfl (fun ls hl => ?_)
    refine lv_iload hx hb dL_law_177 (lv_at hl 7 rfl) ?_
    refine lv_bipush (v := (9 : Int32)) hx hb dL_law_179 (by decide) ?_
    refine lv_ishr hx hb dL_law_181 ?_
    refine lv_iconst (v := (3 : Int32)) hx hb dL_law_182 (by decide) ?_
    obtain ⟨q73, h74, hF⟩ := bd1_at hF
    refine rcall (va_runS (As := [.int (x7 >>> ((9 : Int32) &&& 31)), .int (3 : Int32)]) (rest := []) S (KL_part l D cI cZ cS cJ (x7 >>> ((9 : Int32) &&& 31)) (3 : Int32) q73 h74) (va_cwS 2 hts (gd_S wd_440 wd_441 wd_21 wd_442) rfl rfl rfl hdnL_part ⟨Nat.le_of_ble_eq_true rfl, Nat.le_of_ble_eq_true rfl⟩) (rPreS hK (hP.sub (ws' := ([] : va_W)) [] rfl)) rfl rfl hl.1 rfl (lv_room (Nat.le_of_ble_eq_true rfl)) dL_law_183 ⟨(by show cl + 0 ≤ 600130; omega), (by show sl + 0 ≤ 7301080; omega)⟩) ?_
    refine lv_if_ne (tgt := 202) hx hb dL_law_186 (by decide) (fun c75 => ?_) (fun c75 => ?_)
    · have hF := ite_f c75 hF
      refine lv_aload_n hx hb dL_law_202 rfl (lv_at hl 2 rfl) ?_
      refine lv_iload hx hb dL_law_203 (lv_at hl 10 rfl) ?_
      obtain ⟨k76, q77, h78, hF⟩ := bd2_at hF
      obtain ⟨g79, hF⟩ := gd_at hF
      rw [g79] at h78
      refine rcall (va_runV (As := [.int x10]) (rest := []) S (NS_letter l D cI cZ cS cJ a st x10 q77 h78) (cwV 1 hts (gd_V wd_409 wd_410 wd_411 wd_22 wd_412) rfl rfl rfl hd5_letter ⟨Nat.le_of_ble_eq_true rfl, Nat.le_of_ble_eq_true rfl⟩) (rPreV hK (wP_l hP) (ci := 5) (q := (RX5, TX5, 3)) (WS_0 cI cZ cS a st) rfl) rfl rfl hl.1 rfl (lv_room (Nat.le_of_ble_eq_true rfl)) dL_law_205 ⟨(by show cl + 0 ≤ 600130; omega), (by show sl + 0 ≤ 7301080; omega)⟩) ?_
      exact W_208 st wq x3 x4 x6 x7 x8 x9 x10 x11 s0 q77 k91 n91 hk91 _ _ _ _ (by omega) (by omega) hP hD hS ls (lv_sub hl [1, 2, 3, 4, 5, 6, 7, 8, 9, 10, 11, 0] rfl) hF
    · have hF := ite_t c75 hF
      refine lv_iload hx hb dL_law_189 (lv_at hl 7 rfl) ?_
      refine lv_bipush (v := (11 : Int32)) hx hb dL_law_191 (by decide) ?_
      refine lv_ishr hx hb dL_law_193 ?_
      refine lv_bipush (v := (27 : Int32)) hx hb dL_law_194 (by decide) ?_
      obtain ⟨q80, h81, hF⟩ := bd1_at hF
      refine rcall (va_runS (As := [.int (x7 >>> ((11 : Int32) &&& 31)), .int (27 : Int32)]) (rest := []) S (KL_part l D cI cZ cS cJ (x7 >>> ((11 : Int32) &&& 31)) (27 : Int32) q80 h81) (va_cwS 2 hts (gd_S wd_440 wd_441 wd_21 wd_442) rfl rfl rfl hdnL_part ⟨Nat.le_of_ble_eq_true rfl, Nat.le_of_ble_eq_true rfl⟩) (rPreS hK (hP.sub (ws' := ([] : va_W)) [] rfl)) rfl rfl hl.1 rfl (lv_room (Nat.le_of_ble_eq_true rfl)) dL_law_196 ⟨(by show cl + 0 ≤ 600130; omega), (by show sl + 0 ≤ 7301080; omega)⟩) ?_
      refine lv_goto (tgt := 208) hx hb dL_law_199 (by decide) ?_
      exact W_208 st wq x3 x4 x6 x7 x8 x9 x10 x11 s0 q80 k91 n91 hk91 _ _ _ _ (by omega) (by omega) hP hD hS ls (lv_sub hl [1, 2, 3, 4, 5, 6, 7, 8, 9, 10, 11, 0] rfl) hF
  have W_174 : ∀ (st : ST) (wq : Nat → Int64) (x3 : Int32) (x4 : Int64) (x6 : Int32) (x7 : Int32) (x8 : Int32) (x9 : Int32) (x10 : Int32) (x11 : Int32) (k91 : Int32 → Int32 → ST → (Nat → Int64) → Option (Int32)) (n91 : Nat) (hk91 : ∀ (x3 : Int32) (x6 : Int32) (st : ST) (wq : Nat → Int64), ∀ (H : Heap) (locs : List Loc) (cl sl : Nat), cl + n91 * 3 + 687 ≤ 600130 → sl + n91 * 18 + 4122 ≤ 7301080 → va_P D vwCl (WS cI cZ cS a st ++ [(aQ, .inl (cJ, 64, .inr (.inl wq)))]) H → va_D (lA s) (WS cI cZ cS a st ++ [(aQ, .inl (cJ, 64, .inr (.inl wq)))]) → va_S (lA s) s.heap H locs → ∀ (ls : Array Slot), lv_has ls 16 [(0, .ref b), (1, .ref a.1), (2, .ref aQ), (3, .int x3), (4, .long x4), (6, .int x6)] → k91 x3 x6 st wq = some ((1 : Int32)) → W p l e room_1 s m #[Value.ref b] below meth c H locs cl sl Q (F0 m 91 ls [])), ∀ (H : Heap) (locs : List Loc) (cl sl : Nat), cl + n91 * 3 + 690 ≤ 600130 → sl + n91 * 18 + 4140 ≤ 7301080 → va_P D vwCl (WS cI cZ cS a st ++ [(aQ, .inl (cJ, 64, .inr (.inl wq)))]) H → va_D (lA s) (WS cI cZ cS a st ++ [(aQ, .inl (cJ, 64, .inr (.inl wq)))]) → va_S (lA s) s.heap H locs → ∀ (ls : Array Slot), lv_has ls 16 [(0, .ref b), (1, .ref a.1), (2, .ref aQ), (3, .int x3), (4, .long x4), (6, .int x6), (7, .int x7), (8, .int x8), (9, .int x9), (10, .int x10), (11, .int x11)] → fL_law_j174 k91 nL st wq xs x3 x4 x6 x7 x8 x9 x10 x11 = some ((1 : Int32)) → W p l e room_1 s m #[Value.ref b] below meth c H locs cl sl Q (F0 m 174 ls []) := by
    intro st wq x3 x4 x6 x7 x8 x9 x10 x11 k91 n91 hk91 H locs cl sl hc1 hc2 hP hD hS ls hl hF
    rw [fL_law_j174] at hF
    refine lv_iconst (v := (0 : Int32)) hx hb dL_law_174 (by decide) ?_
    exact W_175 st wq x3 x4 x6 x7 x8 x9 x10 x11 (0 : Int32) k91 n91 hk91 _ _ _ _ (by omega) (by omega) hP hD hS ls (lv_sub hl [0, 1, 2, 3, 4, 5, 6, 7, 8, 9, 10] rfl) hF
  have W_569 : ∀ (st : ST) (wq : Nat → Int64) (x4 : Int64), ∀ (H : Heap) (locs : List Loc) (cl sl : Nat), cl + 3 ≤ 600130 → sl + 18 ≤ 7301080 → va_P D vwCl (WS cI cZ cS a st ++ [(aQ, .inl (cJ, 64, .inr (.inl wq)))]) H → va_D (lA s) (WS cI cZ cS a st ++ [(aQ, .inl (cJ, 64, .inr (.inl wq)))]) → va_S (lA s) s.heap H locs → ∀ (ls : Array Slot), lv_has ls 16 [(1, .ref a.1), (4, .long x4)] → fL_law_j569 nL st wq xs x4 = some ((1 : Int32)) → W p l e room_1 s m #[Value.ref b] below meth c H locs cl sl Q (F0 m 569 ls []) := by
    intro st wq x4  H locs cl sl hc1 hc2 hP hD hS ls hl hF
    rw [fL_law_j569] at hF
    refine lv_aload_n hx hb dL_law_569 rfl (lv_at hl 0 rfl) ?_
    refine lv_bipush (v := (8 : Int32)) hx hb dL_law_570 (by decide) ?_
    refine lv_iconst (v := (0 : Int32)) hx hb dL_law_572 (by decide) ?_
    refine lv_iconst (v := (0 : Int32)) hx hb dL_law_573 (by decide) ?_
    refine lv_iconst (v := (0 : Int32)) hx hb dL_law_574 (by decide) ?_
    obtain ⟨q135, u136, h137, hF⟩ := bd2_at hF
    refine ucallLi (X' := WS cI cZ cS a u136) (vx_runSW (As := [.ref a.1, .int (8 : Int32), .int (0 : Int32), .int (0 : Int32), .int (0 : Int32)]) (rest := []) S (KT_undo l hfl D cI cZ cS cJ a st (0 : Int32) (0 : Int32) (0 : Int32) q135 u136 h137) (vx_cwSW 5 hts (gd_SW wd_448 wd_449 wd_21 cwL_call) rfl rfl rfl hdL_call ⟨Nat.le_of_ble_eq_true rfl, Nat.le_of_ble_eq_true rfl⟩) (wPreS hK hX hZ hY hS (wP_l hP) (wD_l hD)) rfl rfl hl.1 rfl (lv_room (Nat.le_of_ble_eq_true rfl)) dL_law_575 ⟨(by show cl + 3 ≤ 600130; omega), (by show sl + 18 ≤ 7301080; omega)⟩) hS hP hD (fun H locs hP hS => ?_)
    have hD : va_D (lA s) (WS cI cZ cS a u136 ++ [(aQ, .inl (cJ, 64, .inr (.inl wq)))]) := wD_re hD (fun B h => WS_D u136 h)
    have hP : va_P D vwCl (WS cI cZ cS a u136 ++ [(aQ, .inl (cJ, 64, .inr (.inl wq)))]) H := hP
    refine lv_bipush (v := (-13 : Int32)) hx hb dL_law_578 (by decide) ?_
    refine lv_icmp_ne (tgt := 616) hx hb dL_law_580 (by decide) (fun c138 => ?_) (fun c138 => ?_)
    · have hF := ite_f c138 hF
      refine lv_iconst (v := (0 : Int32)) hx hb dL_law_616 (by decide) ?_
      exact absurd hF (by decide)
    · have hF := ite_t c138 hF
      refine lv_aload_n hx hb dL_law_583 rfl (lv_at hl 0 rfl) ?_
      refine lv_iconst (v := (1 : Int32)) hx hb dL_law_584 (by decide) ?_
      obtain ⟨k139, q140, u141, h142, hF⟩ := bd3_at hF
      obtain ⟨g143, hF⟩ := gd_at hF
      rw [g143] at h142
      refine ucallLi (X' := WS cI cZ cS a u141) (va_runV (As := [.int (1 : Int32)]) (rest := []) S (NS_goBack l D cI cZ cS cJ a u136 (1 : Int32) q140 u141 h142) (cwV 1 hts (gd_V wd_396 wd_397 wd_398 wd_22 wd_399) rfl rfl rfl hd5_goBack ⟨Nat.le_of_ble_eq_true rfl, Nat.le_of_ble_eq_true rfl⟩) (uPreV hK (wP_l hP) (wD_l hD) (ci := 5) (q := (RX5, TX5, 3)) (WS_0 cI cZ cS a u136) rfl) rfl rfl hl.1 rfl (lv_room (Nat.le_of_ble_eq_true rfl)) dL_law_585 ⟨(by show cl + 3 ≤ 600130; omega), (by show sl + 18 ≤ 7301080; omega)⟩) hS hP hD (fun H locs hP hS => ?_)
      have hD : va_D (lA s) (WS cI cZ cS a u141 ++ [(aQ, .inl (cJ, 64, .inr (.inl wq)))]) := wD_re hD (fun B h => WS_D u141 h)
      have hP : va_P D vwCl (WS cI cZ cS a u141 ++ [(aQ, .inl (cJ, 64, .inr (.inl wq)))]) H := hP
      refine lv_iconst (v := (1 : Int32)) hx hb dL_law_588 (by decide) ?_
      refine lv_icmp_ne (tgt := 616) hx hb dL_law_589 (by decide) (fun c144 => ?_) (fun c144 => ?_)
      · have hF := ite_f c144 hF
        refine lv_iconst (v := (0 : Int32)) hx hb dL_law_616 (by decide) ?_
        exact absurd hF (by decide)
      · have hF := ite_t c144 hF
        refine lv_aload_n hx hb dL_law_592 rfl (lv_at hl 0 rfl) ?_
        obtain ⟨q145, h146, hF⟩ := bd1_at hF
        refine rcall (va_runS (As := [.ref a.1]) (rest := []) S (KL_seen l D cI cZ cS cJ a u141 q145 h146) (va_cwS 1 hts (gd_S wd_697 wd_698 wd_21 wd_699) rfl rfl rfl hdnL_seen ⟨Nat.le_of_ble_eq_true rfl, Nat.le_of_ble_eq_true rfl⟩) (rPreS hK (wP_l hP)) rfl rfl hl.1 rfl (lv_room (Nat.le_of_ble_eq_true rfl)) dL_law_593 ⟨(by show cl + 3 ≤ 600130; omega), (by show sl + 18 ≤ 7301080; omega)⟩) ?_
        refine lv_lload hx hb dL_law_596 (lv_at hl 1 rfl) ?_
        refine W.lcmp hx hb dL_law_598 ?_
        refine lv_if_ne (tgt := 616) hx hb dL_law_599 (by decide) (fun c147 => ?_) (fun c147 => ?_)
        · have hF := ite_f c147 hF
          refine lv_iconst (v := (0 : Int32)) hx hb dL_law_616 (by decide) ?_
          exact absurd hF (by decide)
        · have hF := ite_t c147 hF
          refine lv_aload_n hx hb dL_law_602 rfl (lv_at hl 0 rfl) ?_
          refine lv_bipush (v := (10 : Int32)) hx hb dL_law_603 (by decide) ?_
          obtain ⟨k148, q149, h150, hF⟩ := bd2_at hF
          obtain ⟨g151, hF⟩ := gd_at hF
          rw [g151] at h150
          refine rcall (va_runV (As := [.int (10 : Int32)]) (rest := []) S (NS_count l D cI cZ cS cJ a u141 (10 : Int32) q149 h150) (cwV 1 hts (gd_V wd_413 wd_414 wd_415 wd_22 wd_416) rfl rfl rfl hd5_count ⟨Nat.le_of_ble_eq_true rfl, Nat.le_of_ble_eq_true rfl⟩) (rPreV hK (wP_l hP) (ci := 5) (q := (RX5, TX5, 3)) (WS_0 cI cZ cS a u141) rfl) rfl rfl hl.1 rfl (lv_room (Nat.le_of_ble_eq_true rfl)) dL_law_605 ⟨(by show cl + 3 ≤ 600130; omega), (by show sl + 18 ≤ 7301080; omega)⟩) ?_
          refine lv_iconst (v := (1 : Int32)) hx hb dL_law_608 (by decide) ?_
          refine lv_icmp_ne (tgt := 616) hx hb dL_law_609 (by decide) (fun c152 => ?_) (fun c152 => ?_)
          · have hF := ite_f c152 hF
            refine lv_iconst (v := (0 : Int32)) hx hb dL_law_616 (by decide) ?_
            exact absurd hF (by decide)
          · have hF := ite_t c152 hF
            refine lv_iconst (v := (1 : Int32)) hx hb dL_law_612 (by decide) ?_
            refine lv_goto (tgt := 617) hx hb dL_law_613 (by decide) ?_
            exact kend H locs _ _ _ ls hS (by omega) (by omega) dL_law_617
  have W_538 : ∀ (x4 : Int64) (n : Nat) (x6 : Int32) (st : ST) (wq : Nat → Int64), ∀ (H : Heap) (locs : List Loc) (cl sl : Nat), cl + 3 ≤ 600130 → sl + 18 ≤ 7301080 → va_P D vwCl (WS cI cZ cS a st ++ [(aQ, .inl (cJ, 64, .inr (.inl wq)))]) H → va_D (lA s) (WS cI cZ cS a st ++ [(aQ, .inl (cJ, 64, .inr (.inl wq)))]) → va_S (lA s) s.heap H locs → ∀ (ls : Array Slot), lv_has ls 16 [(1, .ref a.1), (4, .long x4), (6, .int x6)] → fL_law_l538 nL xs x4 n x6 st wq = some ((1 : Int32)) → W p l e room_1 s m #[Value.ref b] below meth c H locs cl sl Q (F0 m 538 ls []) := by
    intro x4  n
    induction n with
    | zero =>
      intro x6 st wq H locs cl sl hc1 hc2 hP hD hS ls hl hF
      rw [fL_law_l538] at hF
      cases hF
    | succ n ih =>
      intro x6 st wq H locs cl sl hc1 hc2 hP hD hS ls hl hF
      rw [fL_law_l538] at hF
      refine lv_iload hx hb dL_law_538 (lv_at hl 2 rfl) ?_
      refine lv_bipush (v := (6 : Int32)) hx hb dL_law_540 (by decide) ?_
      refine lv_icmp_ge (tgt := 569) hx hb dL_law_542 (by decide) (fun c82 => ?_) (fun c82 => ?_)
      · have hF := ite_t c82 hF
        exact W_569 st wq x4  _ _ _ _ (by omega) (by omega) hP hD hS ls (lv_sub hl [0, 1] rfl) hF
      · have hF := ite_f c82 hF
        refine lv_aload_n hx hb dL_law_545 rfl (lv_at hl 0 rfl) ?_
        refine lv_bipush (v := (10 : Int32)) hx hb dL_law_546 (by decide) ?_
        obtain ⟨k83, q84, h85, hF⟩ := bd2_at hF
        obtain ⟨g86, hF⟩ := gd_at hF
        rw [g86] at h85
        refine rcall (va_runV (As := [.int (10 : Int32)]) (rest := []) S (NS_count l D cI cZ cS cJ a st (10 : Int32) q84 h85) (cwV 1 hts (gd_V wd_413 wd_414 wd_415 wd_22 wd_416) rfl rfl rfl hd5_count ⟨Nat.le_of_ble_eq_true rfl, Nat.le_of_ble_eq_true rfl⟩) (rPreV hK (wP_l hP) (ci := 5) (q := (RX5, TX5, 3)) (WS_0 cI cZ cS a st) rfl) rfl rfl hl.1 rfl (lv_room (Nat.le_of_ble_eq_true rfl)) dL_law_548 ⟨(by show cl + 0 ≤ 600130; omega), (by show sl + 0 ≤ 7301080; omega)⟩) ?_
        refine lv_if_le (tgt := 569) hx hb dL_law_551 (by decide) (fun c87 => ?_) (fun c87 => ?_)
        · have hF := ite_t c87 hF
          exact W_569 st wq x4  _ _ _ _ (by omega) (by omega) hP hD hS ls (lv_sub hl [0, 1] rfl) hF
        · have hF := ite_f c87 hF
          refine lv_aload_n hx hb dL_law_554 rfl (lv_at hl 0 rfl) ?_
          obtain ⟨k88, q89, u90, h91, hF⟩ := bd3_at hF
          obtain ⟨g92, hF⟩ := gd_at hF
          rw [g92] at h91
          refine ucallLi (X' := WS cI cZ cS a u90) (va_runV (As := []) (rest := []) S (NS_undo l D cI cZ cS cJ a st q89 u90 h91) (cwV 0 hts (gd_V wd_375 wd_376 wd_377 wd_22 wd_378) rfl rfl rfl hd5_undo ⟨Nat.le_of_ble_eq_true rfl, Nat.le_of_ble_eq_true rfl⟩) (uPreV hK (wP_l hP) (wD_l hD) (ci := 5) (q := (RX5, TX5, 3)) (WS_0 cI cZ cS a st) rfl) rfl rfl hl.1 rfl (lv_room (Nat.le_of_ble_eq_true rfl)) dL_law_555 ⟨(by show cl + 0 ≤ 600130; omega), (by show sl + 0 ≤ 7301080; omega)⟩) hS hP hD (fun H locs hP hS => ?_)
          have hD : va_D (lA s) (WS cI cZ cS a u90 ++ [(aQ, .inl (cJ, 64, .inr (.inl wq)))]) := wD_re hD (fun B h => WS_D u90 h)
          have hP : va_P D vwCl (WS cI cZ cS a u90 ++ [(aQ, .inl (cJ, 64, .inr (.inl wq)))]) H := hP
          refine lv_if_ge (tgt := 563) hx hb dL_law_558 (by decide) (fun c93 => ?_) (fun c93 => ?_)
          · have hF := ite_t c93 hF
            refine lv_iinc (v := (x6 + 1)) (lv' := [(6, .int (x6 + 1)), (1, .ref a.1), (4, .long x4)]) hx hb dL_law_563 hl (k := 2) rfl rfl (by decide) rfl (fun ls hl => ?_)
            refine lv_goto (tgt := 538) hx hb dL_law_566 (by decide) ?_
            exact ih (x6 + 1) u90 wq _ _ _ _ (by omega) (by omega) hP hD hS ls (lv_sub hl [1, 2, 0] rfl) hF
          · have hF := ite_f c93 hF
            refine lv_iconst (v := (0 : Int32)) hx hb dL_law_561 (by decide) ?_
            exact absurd hF (by decide)
  have W_473 : ∀ (x3 : Int32) (x4 : Int64) (n : Nat) (x6 : Int32) (st : ST) (wq : Nat → Int64), ∀ (H : Heap) (locs : List Loc) (cl sl : Nat), cl + 3 ≤ 600130 → sl + 18 ≤ 7301080 → va_P D vwCl (WS cI cZ cS a st ++ [(aQ, .inl (cJ, 64, .inr (.inl wq)))]) H → va_D (lA s) (WS cI cZ cS a st ++ [(aQ, .inl (cJ, 64, .inr (.inl wq)))]) → va_S (lA s) s.heap H locs → ∀ (ls : Array Slot), lv_has ls 16 [(1, .ref a.1), (2, .ref aQ), (3, .int x3), (4, .long x4), (6, .int x6)] → fL_law_l473 nL xs x3 x4 n x6 st wq = some ((1 : Int32)) → W p l e room_1 s m #[Value.ref b] below meth c H locs cl sl Q (F0 m 473 ls []) := by
    intro x3 x4  n
    induction n with
    | zero =>
      intro x6 st wq H locs cl sl hc1 hc2 hP hD hS ls hl hF
      rw [fL_law_l473] at hF
      cases hF
    | succ n ih =>
      intro x6 st wq H locs cl sl hc1 hc2 hP hD hS ls hl hF
      rw [fL_law_l473] at hF
      refine lv_aload_n hx hb dL_law_473 rfl (lv_at hl 0 rfl) ?_
      refine lv_bipush (v := (10 : Int32)) hx hb dL_law_474 (by decide) ?_
      obtain ⟨k52, q53, h54, hF⟩ := bd2_at hF
      obtain ⟨g55, hF⟩ := gd_at hF
      rw [g55] at h54
      refine rcall (va_runV (As := [.int (10 : Int32)]) (rest := []) S (NS_count l D cI cZ cS cJ a st (10 : Int32) q53 h54) (cwV 1 hts (gd_V wd_413 wd_414 wd_415 wd_22 wd_416) rfl rfl rfl hd5_count ⟨Nat.le_of_ble_eq_true rfl, Nat.le_of_ble_eq_true rfl⟩) (rPreV hK (wP_l hP) (ci := 5) (q := (RX5, TX5, 3)) (WS_0 cI cZ cS a st) rfl) rfl rfl hl.1 rfl (lv_room (Nat.le_of_ble_eq_true rfl)) dL_law_476 ⟨(by show cl + 0 ≤ 600130; omega), (by show sl + 0 ≤ 7301080; omega)⟩) ?_
      refine lv_if_le (tgt := 535) hx hb dL_law_479 (by decide) (fun c56 => ?_) (fun c56 => ?_)
      · have hF := ite_t c56 hF
        refine lv_iconst (v := (0 : Int32)) hx hb dL_law_535 (by decide) ?_
        refine lv_istore (lv' := [(6, .int (0 : Int32)), (1, .ref a.1), (2, .ref aQ), (3, .int x3), (4, .long x4)]) hx hb dL_law_536 hl (by decide) rfl (fun ls hl => ?_)
        exact W_538 x4  7 (0 : Int32) st wq _ _ _ _ (by omega) (by omega) hP hD hS ls (lv_sub hl [1, 4, 0] rfl) hF
      · have hF := ite_f c56 hF
        refine lv_iload hx hb dL_law_482 (lv_at hl 4 rfl) ?_
        refine lv_iload_n hx hb dL_law_484 rfl (lv_at hl 2 rfl) ?_
        refine lv_icmp_ge (tgt := 535) hx hb dL_law_485 (by decide) (fun c57 => ?_) (fun c57 => ?_)
        · have hF := ite_t c57 hF
          refine lv_iconst (v := (0 : Int32)) hx hb dL_law_535 (by decide) ?_
          refine lv_istore (lv' := [(6, .int (0 : Int32)), (1, .ref a.1), (2, .ref aQ), (3, .int x3), (4, .long x4)]) hx hb dL_law_536 hl (by decide) rfl (fun ls hl => ?_)
          exact W_538 x4  7 (0 : Int32) st wq _ _ _ _ (by omega) (by omega) hP hD hS ls (lv_sub hl [1, 4, 0] rfl) hF
        · have hF := ite_f c57 hF
          refine lv_aload_n hx hb dL_law_488 rfl (lv_at hl 0 rfl) ?_
          refine lv_bipush (v := (10 : Int32)) hx hb dL_law_489 (by decide) ?_
          obtain ⟨k58, q59, h60, hF⟩ := bd2_at hF
          obtain ⟨g61, hF⟩ := gd_at hF
          rw [g61] at h60
          refine rcall (va_runV (As := [.int (10 : Int32)]) (rest := []) S (NS_count l D cI cZ cS cJ a st (10 : Int32) q59 h60) (cwV 1 hts (gd_V wd_413 wd_414 wd_415 wd_22 wd_416) rfl rfl rfl hd5_count ⟨Nat.le_of_ble_eq_true rfl, Nat.le_of_ble_eq_true rfl⟩) (rPreV hK (wP_l hP) (ci := 5) (q := (RX5, TX5, 3)) (WS_0 cI cZ cS a st) rfl) rfl rfl hl.1 rfl (lv_room (Nat.le_of_ble_eq_true rfl)) dL_law_491 ⟨(by show cl + 0 ≤ 600130; omega), (by show sl + 0 ≤ 7301080; omega)⟩) ?_
          refine lv_istore (lv' := [(7, .int q59), (1, .ref a.1), (2, .ref aQ), (3, .int x3), (4, .long x4), (6, .int x6)]) hx hb dL_law_494 hl (by decide) rfl (fun ls hl => ?_)
          refine lv_iload hx hb dL_law_496 (lv_at hl 5 rfl) ?_
          refine lv_iconst (v := (5 : Int32)) hx hb dL_law_498 (by decide) ?_
          refine lv_icmp_gt (tgt := 527) hx hb dL_law_499 (by decide) (fun c62 => ?_) (fun c62 => ?_)
          · have hF := ite_t c62 hF
            refine lv_iconst (v := (0 : Int32)) hx hb dL_law_527 (by decide) ?_
            exact absurd hF (by decide)
          · have hF := ite_f c62 hF
            refine lv_aload_n hx hb dL_law_502 rfl (lv_at hl 1 rfl) ?_
            obtain ⟨q63, h64, hF⟩ := bd1_at hF
            refine rcall (va_runS (As := [.ref a.1]) (rest := []) S (KL_seen l D cI cZ cS cJ a st q63 h64) (va_cwS 1 hts (gd_S wd_697 wd_698 wd_21 wd_699) rfl rfl rfl hdnL_seen ⟨Nat.le_of_ble_eq_true rfl, Nat.le_of_ble_eq_true rfl⟩) (rPreS hK (wP_l hP)) rfl rfl hl.1 rfl (lv_room (Nat.le_of_ble_eq_true rfl)) dL_law_503 ⟨(by show cl + 0 ≤ 600130; omega), (by show sl + 0 ≤ 7301080; omega)⟩) ?_
            refine lv_aload_n hx hb dL_law_506 rfl (lv_at hl 2 rfl) ?_
            refine lv_iload_n hx hb dL_law_507 rfl (lv_at hl 3 rfl) ?_
            refine lv_iload hx hb dL_law_508 (lv_at hl 5 rfl) ?_
            refine lv_isub hx hb dL_law_510 ?_
            obtain ⟨g65, hF⟩ := gd_at hF
            refine w_get hx hb hK hP g65 dL_law_511 ?_
            refine W.lcmp hx hb dL_law_512 ?_
            refine lv_if_ne (tgt := 527) hx hb dL_law_513 (by decide) (fun c66 => ?_) (fun c66 => ?_)
            · have hF := ite_f c66 hF
              refine lv_iconst (v := (0 : Int32)) hx hb dL_law_527 (by decide) ?_
              exact absurd hF (by decide)
            · have hF := ite_t c66 hF
              refine lv_aload_n hx hb dL_law_516 rfl (lv_at hl 1 rfl) ?_
              obtain ⟨k67, q68, u69, h70, hF⟩ := bd3_at hF
              obtain ⟨g71, hF⟩ := gd_at hF
              rw [g71] at h70
              refine ucallLi (X' := WS cI cZ cS a u69) (va_runV (As := []) (rest := []) S (NS_undo l D cI cZ cS cJ a st q68 u69 h70) (cwV 0 hts (gd_V wd_375 wd_376 wd_377 wd_22 wd_378) rfl rfl rfl hd5_undo ⟨Nat.le_of_ble_eq_true rfl, Nat.le_of_ble_eq_true rfl⟩) (uPreV hK (wP_l hP) (wD_l hD) (ci := 5) (q := (RX5, TX5, 3)) (WS_0 cI cZ cS a st) rfl) rfl rfl hl.1 rfl (lv_room (Nat.le_of_ble_eq_true rfl)) dL_law_517 ⟨(by show cl + 0 ≤ 600130; omega), (by show sl + 0 ≤ 7301080; omega)⟩) hS hP hD (fun H locs hP hS => ?_)
              have hD : va_D (lA s) (WS cI cZ cS a u69 ++ [(aQ, .inl (cJ, 64, .inr (.inl wq)))]) := wD_re hD (fun B h => WS_D u69 h)
              have hP : va_P D vwCl (WS cI cZ cS a u69 ++ [(aQ, .inl (cJ, 64, .inr (.inl wq)))]) H := hP
              refine lv_iload hx hb dL_law_520 (lv_at hl 0 rfl) ?_
              refine lv_iconst (v := (1 : Int32)) hx hb dL_law_522 (by decide) ?_
              refine lv_isub hx hb dL_law_523 ?_
              refine lv_icmp_eq (tgt := 529) hx hb dL_law_524 (by decide) (fun c72 => ?_) (fun c72 => ?_)
              · have hF := ite_t c72 hF
                refine lv_iinc (v := (x6 + 1)) (lv' := [(6, .int (x6 + 1)), (7, .int q59), (1, .ref a.1), (2, .ref aQ), (3, .int x3), (4, .long x4)]) hx hb dL_law_529 hl (k := 5) rfl rfl (by decide) rfl (fun ls hl => ?_)
                refine lv_goto (tgt := 473) hx hb dL_law_532 (by decide) ?_
                exact ih (x6 + 1) u69 wq _ _ _ _ (by omega) (by omega) hP hD hS ls (lv_sub hl [2, 3, 4, 5, 0] rfl) hF
              · have hF := ite_f c72 hF
                refine lv_iconst (v := (0 : Int32)) hx hb dL_law_527 (by decide) ?_
                exact absurd hF (by decide)
  have W_91 : ∀ (x4 : Int64) (n : Nat) (x3 : Int32) (x6 : Int32) (st : ST) (wq : Nat → Int64), ∀ (H : Heap) (locs : List Loc) (cl sl : Nat), cl + n * 3 + 687 ≤ 600130 → sl + n * 18 + 4122 ≤ 7301080 → va_P D vwCl (WS cI cZ cS a st ++ [(aQ, .inl (cJ, 64, .inr (.inl wq)))]) H → va_D (lA s) (WS cI cZ cS a st ++ [(aQ, .inl (cJ, 64, .inr (.inl wq)))]) → va_S (lA s) s.heap H locs → ∀ (ls : Array Slot), lv_has ls 16 [(0, .ref b), (1, .ref a.1), (2, .ref aQ), (3, .int x3), (4, .long x4), (6, .int x6)] → fL_law_l91 nL xs x4 n x3 x6 st wq = some ((1 : Int32)) → W p l e room_1 s m #[Value.ref b] below meth c H locs cl sl Q (F0 m 91 ls []) := by
    intro x4  n
    induction n with
    | zero =>
      intro x3 x6 st wq H locs cl sl hc1 hc2 hP hD hS ls hl hF
      rw [fL_law_l91] at hF
      cases hF
    | succ n ih =>
      intro x3 x6 st wq H locs cl sl hc1 hc2 hP hD hS ls hl hF
      rw [fL_law_l91] at hF
      refine lv_iload hx hb dL_law_91 (lv_at hl 5 rfl) ?_
      refine lv_bipush (v := (28 : Int32)) hx hb dL_law_93 (by decide) ?_
      refine lv_icmp_ge (tgt := 454) hx hb dL_law_95 (by decide) (fun c27 => ?_) (fun c27 => ?_)
      · have hF := ite_t c27 hF
        refine lv_aload_n hx hb dL_law_454 rfl (lv_at hl 2 rfl) ?_
        refine lv_iload_n hx hb dL_law_455 rfl (lv_at hl 3 rfl) ?_
        refine lv_aload_n hx hb dL_law_456 rfl (lv_at hl 1 rfl) ?_
        obtain ⟨q28, h29, hF⟩ := bd1_at hF
        refine rcall (va_runS (As := [.ref a.1]) (rest := [.int x3, .ref aQ]) S (KL_seen l D cI cZ cS cJ a st q28 h29) (va_cwS 1 hts (gd_S wd_697 wd_698 wd_21 wd_699) rfl rfl rfl hdnL_seen ⟨Nat.le_of_ble_eq_true rfl, Nat.le_of_ble_eq_true rfl⟩) (rPreS hK (wP_l hP)) rfl rfl hl.1 rfl (lv_room (Nat.le_of_ble_eq_true rfl)) dL_law_457 ⟨(by show cl + 0 ≤ 600130; omega), (by show sl + 0 ≤ 7301080; omega)⟩) ?_
        obtain ⟨g30, hF⟩ := gd_at hF
        refine w_put hx hb hK hP hD hS g30 dL_law_460 (fun H locs hP hD hS => ?_)
        refine lv_aload_n hx hb dL_law_461 rfl (lv_at hl 1 rfl) ?_
        obtain ⟨q31, u33, h32, hF⟩ := bd2_at hF
        refine ucallLi (X' := WS cI cZ cS a u33) (va_runS (As := [.ref a.1]) (rest := []) S (KL_refused l hfl D cI cZ cS cJ a st q31 u33 h32) (va_cwS 1 hts (gd_S wd_704 wd_705 wd_21 wd_706) rfl rfl rfl hdnL_refused ⟨Nat.le_of_ble_eq_true rfl, Nat.le_of_ble_eq_true rfl⟩) (wPreS hK hX hZ hY hS (wP_l hP) (wD_l hD)) rfl rfl hl.1 rfl (lv_room (Nat.le_of_ble_eq_true rfl)) dL_law_462 ⟨(by show cl + 684 ≤ 600130; omega), (by show sl + 4104 ≤ 7301080; omega)⟩) hS hP hD (fun H locs hP hS => ?_)
        have hD : va_D (lA s) (WS cI cZ cS a u33 ++ [(aQ, .inl (cJ, 64, .inr (.inl (vp_updL wq x3.toNatClampNeg q28))))]) := wD_re hD (fun B h => WS_D u33 h)
        have hP : va_P D vwCl (WS cI cZ cS a u33 ++ [(aQ, .inl (cJ, 64, .inr (.inl (vp_updL wq x3.toNatClampNeg q28))))]) H := hP
        refine lv_if_ne (tgt := 470) hx hb dL_law_465 (by decide) (fun c34 => ?_) (fun c34 => ?_)
        · have hF := ite_f c34 hF
          refine lv_iconst (v := (0 : Int32)) hx hb dL_law_470 (by decide) ?_
          refine lv_istore (lv' := [(6, .int (0 : Int32)), (0, .ref b), (1, .ref a.1), (2, .ref aQ), (3, .int x3), (4, .long x4)]) hx hb dL_law_471 hl (by decide) rfl (fun ls hl => ?_)
          exact W_473 x3 x4  30 (0 : Int32) u33 (vp_updL wq x3.toNatClampNeg q28) _ _ _ _ (by omega) (by omega) hP hD hS ls (lv_sub hl [2, 3, 4, 5, 0] rfl) hF
        · have hF := ite_t c34 hF
          refine lv_iconst (v := (0 : Int32)) hx hb dL_law_468 (by decide) ?_
          exact absurd hF (by decide)
      · have hF := ite_f c27 hF
        refine lv_aload_n hx hb dL_law_98 rfl (lv_at hl 0 rfl) ?_
        refine lv_iload hx hb dL_law_99 (lv_at hl 5 rfl) ?_
        obtain ⟨q35, h36, hF⟩ := bd1_at hF
        refine rcall (va_runS (As := [.ref b, .int x6]) (rest := []) S (KL_drawn l D cI cZ cS cJ b nL xs x6 q35 h36) (va_cwS 2 hts (gd_S wd_444 wd_445 wd_21 wd_446) rfl rfl rfl hdnL_drawn ⟨Nat.le_of_ble_eq_true rfl, Nat.le_of_ble_eq_true rfl⟩) (dPreS hK hXs hbl hbA hS) rfl rfl hl.1 rfl (lv_room (Nat.le_of_ble_eq_true rfl)) dL_law_101 ⟨(by show cl + 0 ≤ 600130; omega), (by show sl + 0 ≤ 7301080; omega)⟩) ?_
        refine lv_istore (lv' := [(7, .int q35), (0, .ref b), (1, .ref a.1), (2, .ref aQ), (3, .int x3), (4, .long x4), (6, .int x6)]) hx hb dL_law_104 hl (by decide) rfl (fun ls hl => ?_)
        refine lv_iload hx hb dL_law_106 (lv_at hl 0 rfl) ?_
        refine lv_bipush (v := (18 : Int32)) hx hb dL_law_108 (by decide) ?_
        obtain ⟨q37, h38, hF⟩ := bd1_at hF
        refine rcall (va_runS (As := [.int q35, .int (18 : Int32)]) (rest := []) S (KL_part l D cI cZ cS cJ q35 (18 : Int32) q37 h38) (va_cwS 2 hts (gd_S wd_440 wd_441 wd_21 wd_442) rfl rfl rfl hdnL_part ⟨Nat.le_of_ble_eq_true rfl, Nat.le_of_ble_eq_true rfl⟩) (rPreS hK (hP.sub (ws' := ([] : va_W)) [] rfl)) rfl rfl hl.1 rfl (lv_room (Nat.le_of_ble_eq_true rfl)) dL_law_110 ⟨(by show cl + 0 ≤ 600130; omega), (by show sl + 0 ≤ 7301080; omega)⟩) ?_
        refine lv_istore (lv' := [(8, .int q37), (7, .int q35), (0, .ref b), (1, .ref a.1), (2, .ref aQ), (3, .int x3), (4, .long x4), (6, .int x6)]) hx hb dL_law_113 hl (by decide) rfl (fun ls hl => ?_)
        refine lv_aload_n hx hb dL_law_115 rfl (lv_at hl 4 rfl) ?_
        refine lv_iload_n hx hb dL_law_116 rfl (lv_at hl 5 rfl) ?_
        refine lv_aload_n hx hb dL_law_117 rfl (lv_at hl 3 rfl) ?_
        obtain ⟨q39, h40, hF⟩ := bd1_at hF
        refine rcall (va_runS (As := [.ref a.1]) (rest := [.int x3, .ref aQ]) S (KL_seen l D cI cZ cS cJ a st q39 h40) (va_cwS 1 hts (gd_S wd_697 wd_698 wd_21 wd_699) rfl rfl rfl hdnL_seen ⟨Nat.le_of_ble_eq_true rfl, Nat.le_of_ble_eq_true rfl⟩) (rPreS hK (wP_l hP)) rfl rfl hl.1 rfl (lv_room (Nat.le_of_ble_eq_true rfl)) dL_law_118 ⟨(by show cl + 0 ≤ 600130; omega), (by show sl + 0 ≤ 7301080; omega)⟩) ?_
        obtain ⟨g41, hF⟩ := gd_at hF
        refine w_put hx hb hK hP hD hS g41 dL_law_121 (fun H locs hP hD hS => ?_)
        refine lv_aload_n hx hb dL_law_122 rfl (lv_at hl 3 rfl) ?_
        refine lv_bipush (v := (10 : Int32)) hx hb dL_law_123 (by decide) ?_
        obtain ⟨k42, q43, h44, hF⟩ := bd2_at hF
        obtain ⟨g45, hF⟩ := gd_at hF
        rw [g45] at h44
        refine rcall (va_runV (As := [.int (10 : Int32)]) (rest := []) S (NS_count l D cI cZ cS cJ a st (10 : Int32) q43 h44) (cwV 1 hts (gd_V wd_413 wd_414 wd_415 wd_22 wd_416) rfl rfl rfl hd5_count ⟨Nat.le_of_ble_eq_true rfl, Nat.le_of_ble_eq_true rfl⟩) (rPreV hK (wP_l hP) (ci := 5) (q := (RX5, TX5, 3)) (WS_0 cI cZ cS a st) rfl) rfl rfl hl.1 rfl (lv_room (Nat.le_of_ble_eq_true rfl)) dL_law_125 ⟨(by show cl + 0 ≤ 600130; omega), (by show sl + 0 ≤ 7301080; omega)⟩) ?_
        refine lv_istore (lv' := [(9, .int q43), (8, .int q37), (7, .int q35), (0, .ref b), (1, .ref a.1), (2, .ref aQ), (3, .int x3), (4, .long x4), (6, .int x6)]) hx hb dL_law_128 hl (by decide) rfl (fun ls hl => ?_)
        refine lv_bipush (v := (8 : Int32)) hx hb dL_law_130 (by decide) ?_
        refine lv_iload hx hb dL_law_132 (lv_at hl 2 rfl) ?_
        refine lv_iconst (v := (5 : Int32)) hx hb dL_law_134 (by decide) ?_
        refine lv_ishr hx hb dL_law_135 ?_
        refine lv_bipush (v := (16 : Int32)) hx hb dL_law_136 (by decide) ?_
        obtain ⟨q46, h47, hF⟩ := bd1_at hF
        refine rcall (va_runS (As := [.int (q35 >>> ((5 : Int32) &&& 31)), .int (16 : Int32)]) (rest := [.int (8 : Int32)]) S (KL_part l D cI cZ cS cJ (q35 >>> ((5 : Int32) &&& 31)) (16 : Int32) q46 h47) (va_cwS 2 hts (gd_S wd_440 wd_441 wd_21 wd_442) rfl rfl rfl hdnL_part ⟨Nat.le_of_ble_eq_true rfl, Nat.le_of_ble_eq_true rfl⟩) (rPreS hK (hP.sub (ws' := ([] : va_W)) [] rfl)) rfl rfl hl.1 rfl (lv_room (Nat.le_of_ble_eq_true rfl)) dL_law_138 ⟨(by show cl + 0 ≤ 600130; omega), (by show sl + 0 ≤ 7301080; omega)⟩) ?_
        refine lv_iadd hx hb dL_law_141 ?_
        refine lv_istore (lv' := [(10, .int ((8 : Int32) + q46)), (9, .int q43), (8, .int q37), (7, .int q35), (0, .ref b), (1, .ref a.1), (2, .ref aQ), (3, .int x3), (4, .long x4), (6, .int x6)]) hx hb dL_law_142 hl (by decide) rfl (fun ls hl => ?_)
        refine lv_iload hx hb dL_law_144 (lv_at hl 3 rfl) ?_
        refine lv_bipush (v := (9 : Int32)) hx hb dL_law_146 (by decide) ?_
        refine lv_ishr hx hb dL_law_148 ?_
        refine lv_sipush (v := (1001 : Int32)) hx hb dL_law_149 (by decide) ?_
        obtain ⟨q48, h49, hF⟩ := bd1_at hF
        refine rcall (va_runS (As := [.int (q35 >>> ((9 : Int32) &&& 31)), .int (1001 : Int32)]) (rest := []) S (KL_part l D cI cZ cS cJ (q35 >>> ((9 : Int32) &&& 31)) (1001 : Int32) q48 h49) (va_cwS 2 hts (gd_S wd_440 wd_441 wd_21 wd_442) rfl rfl rfl hdnL_part ⟨Nat.le_of_ble_eq_true rfl, Nat.le_of_ble_eq_true rfl⟩) (rPreS hK (hP.sub (ws' := ([] : va_W)) [] rfl)) rfl rfl hl.1 rfl (lv_room (Nat.le_of_ble_eq_true rfl)) dL_law_152 ⟨(by show cl + 0 ≤ 600130; omega), (by show sl + 0 ≤ 7301080; omega)⟩) ?_
        refine lv_istore (lv' := [(11, .int q48), (10, .int ((8 : Int32) + q46)), (9, .int q43), (8, .int q37), (7, .int q35), (0, .ref b), (1, .ref a.1), (2, .ref aQ), (3, .int x3), (4, .long x4), (6, .int x6)]) hx hb dL_law_155 hl (by decide) rfl (fun ls hl => ?_)
        refine lv_iload hx hb dL_law_157 (lv_at hl 3 rfl) ?_
        refine lv_iconst (v := (4 : Int32)) hx hb dL_law_159 (by decide) ?_
        refine lv_icmp_le (tgt := 174) hx hb dL_law_160 (by decide) (fun c50 => ?_) (fun c50 => ?_)
        · have hF := ite_t c50 hF
          exact W_174 st (vp_updL wq x3.toNatClampNeg q39) x3 x4 x6 q35 q37 q43 ((8 : Int32) + q46) q48 (fL_law_l91 nL xs x4 n) n ih _ _ _ _ (by omega) (by omega) hP hD hS ls (lv_sub hl [5, 6, 7, 8, 9, 10, 4, 3, 2, 1, 0] rfl) hF
        · have hF := ite_f c50 hF
          refine lv_iload hx hb dL_law_163 (lv_at hl 3 rfl) ?_
          refine lv_bipush (v := (10 : Int32)) hx hb dL_law_165 (by decide) ?_
          refine lv_icmp_ge (tgt := 174) hx hb dL_law_167 (by decide) (fun c51 => ?_) (fun c51 => ?_)
          · have hF := ite_t c51 hF
            exact W_174 st (vp_updL wq x3.toNatClampNeg q39) x3 x4 x6 q35 q37 q43 ((8 : Int32) + q46) q48 (fL_law_l91 nL xs x4 n) n ih _ _ _ _ (by omega) (by omega) hP hD hS ls (lv_sub hl [5, 6, 7, 8, 9, 10, 4, 3, 2, 1, 0] rfl) hF
          · have hF := ite_f c51 hF
            refine lv_iconst (v := (1 : Int32)) hx hb dL_law_170 (by decide) ?_
            refine lv_goto (tgt := 175) hx hb dL_law_171 (by decide) ?_
            exact W_175 st (vp_updL wq x3.toNatClampNeg q39) x3 x4 x6 q35 q37 q43 ((8 : Int32) + q46) q48 (1 : Int32) (fL_law_l91 nL xs x4 n) n ih _ _ _ _ (by omega) (by omega) hP hD hS ls (lv_sub hl [5, 6, 7, 8, 9, 10, 4, 3, 2, 1, 0] rfl) hF
  unfold fL_lawB at hF
  refine lv_iconst (v := (0 : Int32)) hx hb dL_law_33 (by decide) ?_
  refine lv_istore_n (lv' := [(3, .int (0 : Int32)), (0, .ref b), (1, .ref a.1), (2, .ref aQ)]) hx hb dL_law_34 rfl hl (by decide) rfl (fun ls hl => ?_)
  refine lv_aload_n hx hb dL_law_35 rfl (lv_at hl 2 rfl) ?_
  refine lv_bipush (v := (10 : Int32)) hx hb dL_law_36 (by decide) ?_
  refine lv_bipush (v := (6 : Int32)) hx hb dL_law_38 (by decide) ?_
  obtain ⟨k1, q2, u3, h4, hF⟩ := bd3_at hF
  obtain ⟨g5, hF⟩ := gd_at hF
  rw [g5] at h4
  refine ucallLi (X' := WS cI cZ cS a u3) (va_runV (As := [.int (10 : Int32), .int (6 : Int32)]) (rest := []) S (NS_book l D cI cZ cS cJ a st (10 : Int32) (6 : Int32) q2 u3 h4) (cwV 2 hts (gd_V wd_149 wd_150 wd_151 wd_22 wd_152) rfl rfl rfl hd5_book ⟨Nat.le_of_ble_eq_true rfl, Nat.le_of_ble_eq_true rfl⟩) (uPreV hK (wP_l hP) (wD_l hD) (ci := 5) (q := (RX5, TX5, 3)) (WS_0 cI cZ cS a st) rfl) rfl rfl hl.1 rfl (lv_room (Nat.le_of_ble_eq_true rfl)) dL_law_40 ⟨(by show cl + 0 ≤ 600130; omega), (by show sl + 0 ≤ 7301080; omega)⟩) hS hP hD (fun H locs hP hS => ?_)
  have hD : va_D (lA s) (WS cI cZ cS a u3 ++ [(aQ, .inl (cJ, 64, .inr (.inl wq)))]) := wD_re hD (fun B h => WS_D u3 h)
  have hP : va_P D vwCl (WS cI cZ cS a u3 ++ [(aQ, .inl (cJ, 64, .inr (.inl wq)))]) H := hP
  refine lv_if_ne (tgt := 80) hx hb dL_law_43 (by decide) (fun c6 => ?_) (fun c6 => ?_)
  · have hF := ite_f c6 hF
    refine lv_iconst (v := (0 : Int32)) hx hb dL_law_80 (by decide) ?_
    exact absurd hF (by decide)
  · have hF := ite_t c6 hF
    refine lv_aload_n hx hb dL_law_46 rfl (lv_at hl 2 rfl) ?_
    refine lv_bipush (v := (12 : Int32)) hx hb dL_law_47 (by decide) ?_
    refine lv_bipush (v := (90 : Int32)) hx hb dL_law_49 (by decide) ?_
    obtain ⟨k7, q8, u9, h10, hF⟩ := bd3_at hF
    obtain ⟨g11, hF⟩ := gd_at hF
    rw [g11] at h10
    refine ucallLi (X' := WS cI cZ cS a u9) (va_runV (As := [.int (12 : Int32), .int (90 : Int32)]) (rest := []) S (NS_write l D cI cZ cS cJ a u3 (12 : Int32) (90 : Int32) q8 u9 h10) (cwV 2 hts (gd_V wd_311 wd_312 wd_313 wd_22 wd_314) rfl rfl rfl hd5_write ⟨Nat.le_of_ble_eq_true rfl, Nat.le_of_ble_eq_true rfl⟩) (uPreV hK (wP_l hP) (wD_l hD) (ci := 5) (q := (RX5, TX5, 3)) (WS_0 cI cZ cS a u3) rfl) rfl rfl hl.1 rfl (lv_room (Nat.le_of_ble_eq_true rfl)) dL_law_51 ⟨(by show cl + 0 ≤ 600130; omega), (by show sl + 0 ≤ 7301080; omega)⟩) hS hP hD (fun H locs hP hS => ?_)
    have hD : va_D (lA s) (WS cI cZ cS a u9 ++ [(aQ, .inl (cJ, 64, .inr (.inl wq)))]) := wD_re hD (fun B h => WS_D u9 h)
    have hP : va_P D vwCl (WS cI cZ cS a u9 ++ [(aQ, .inl (cJ, 64, .inr (.inl wq)))]) H := hP
    refine lv_bipush (v := (6 : Int32)) hx hb dL_law_54 (by decide) ?_
    refine lv_icmp_ne (tgt := 80) hx hb dL_law_56 (by decide) (fun c12 => ?_) (fun c12 => ?_)
    · have hF := ite_f c12 hF
      refine lv_iconst (v := (0 : Int32)) hx hb dL_law_80 (by decide) ?_
      exact absurd hF (by decide)
    · have hF := ite_t c12 hF
      refine lv_aload_n hx hb dL_law_59 rfl (lv_at hl 2 rfl) ?_
      refine lv_bipush (v := (13 : Int32)) hx hb dL_law_60 (by decide) ?_
      refine lv_bipush (v := (9 : Int32)) hx hb dL_law_62 (by decide) ?_
      obtain ⟨k13, q14, u15, h16, hF⟩ := bd3_at hF
      obtain ⟨g17, hF⟩ := gd_at hF
      rw [g17] at h16
      refine ucallLi (X' := WS cI cZ cS a u15) (va_runV (As := [.int (13 : Int32), .int (9 : Int32)]) (rest := []) S (NS_cash l D cI cZ cS cJ a u9 (13 : Int32) (9 : Int32) q14 u15 h16) (cwV 2 hts (gd_V wd_343 wd_344 wd_345 wd_22 wd_346) rfl rfl rfl hd5_cash ⟨Nat.le_of_ble_eq_true rfl, Nat.le_of_ble_eq_true rfl⟩) (uPreV hK (wP_l hP) (wD_l hD) (ci := 5) (q := (RX5, TX5, 3)) (WS_0 cI cZ cS a u9) rfl) rfl rfl hl.1 rfl (lv_room (Nat.le_of_ble_eq_true rfl)) dL_law_64 ⟨(by show cl + 0 ≤ 600130; omega), (by show sl + 0 ≤ 7301080; omega)⟩) hS hP hD (fun H locs hP hS => ?_)
      have hD : va_D (lA s) (WS cI cZ cS a u15 ++ [(aQ, .inl (cJ, 64, .inr (.inl wq)))]) := wD_re hD (fun B h => WS_D u15 h)
      have hP : va_P D vwCl (WS cI cZ cS a u15 ++ [(aQ, .inl (cJ, 64, .inr (.inl wq)))]) H := hP
      refine lv_iconst (v := (-1 : Int32)) hx hb dL_law_67 (by decide) ?_
      refine lv_icmp_ne (tgt := 80) hx hb dL_law_68 (by decide) (fun c18 => ?_) (fun c18 => ?_)
      · have hF := ite_f c18 hF
        refine lv_iconst (v := (0 : Int32)) hx hb dL_law_80 (by decide) ?_
        exact absurd hF (by decide)
      · have hF := ite_t c18 hF
        refine lv_aload_n hx hb dL_law_71 rfl (lv_at hl 2 rfl) ?_
        refine lv_iconst (v := (1 : Int32)) hx hb dL_law_72 (by decide) ?_
        obtain ⟨k19, q20, u21, h22, hF⟩ := bd3_at hF
        obtain ⟨g23, hF⟩ := gd_at hF
        rw [g23] at h22
        refine ucallLi (X' := WS cI cZ cS a u21) (va_runV (As := [.int (1 : Int32)]) (rest := []) S (NS_keep l D cI cZ cS cJ a u15 (1 : Int32) q20 u21 h22) (cwV 1 hts (gd_V wd_384 wd_385 wd_386 wd_22 wd_387) rfl rfl rfl hd5_keep ⟨Nat.le_of_ble_eq_true rfl, Nat.le_of_ble_eq_true rfl⟩) (uPreV hK (wP_l hP) (wD_l hD) (ci := 5) (q := (RX5, TX5, 3)) (WS_0 cI cZ cS a u15) rfl) rfl rfl hl.1 rfl (lv_room (Nat.le_of_ble_eq_true rfl)) dL_law_73 ⟨(by show cl + 0 ≤ 600130; omega), (by show sl + 0 ≤ 7301080; omega)⟩) hS hP hD (fun H locs hP hS => ?_)
        have hD : va_D (lA s) (WS cI cZ cS a u21 ++ [(aQ, .inl (cJ, 64, .inr (.inl wq)))]) := wD_re hD (fun B h => WS_D u21 h)
        have hP : va_P D vwCl (WS cI cZ cS a u21 ++ [(aQ, .inl (cJ, 64, .inr (.inl wq)))]) H := hP
        refine lv_iconst (v := (1 : Int32)) hx hb dL_law_76 (by decide) ?_
        refine lv_icmp_eq (tgt := 82) hx hb dL_law_77 (by decide) (fun c24 => ?_) (fun c24 => ?_)
        · have hF := ite_t c24 hF
          refine lv_aload_n hx hb dL_law_82 rfl (lv_at hl 2 rfl) ?_
          obtain ⟨q25, h26, hF⟩ := bd1_at hF
          refine rcall (va_runS (As := [.ref a.1]) (rest := []) S (KL_seen l D cI cZ cS cJ a u21 q25 h26) (va_cwS 1 hts (gd_S wd_697 wd_698 wd_21 wd_699) rfl rfl rfl hdnL_seen ⟨Nat.le_of_ble_eq_true rfl, Nat.le_of_ble_eq_true rfl⟩) (rPreS hK (wP_l hP)) rfl rfl hl.1 rfl (lv_room (Nat.le_of_ble_eq_true rfl)) dL_law_83 ⟨(by show cl + 0 ≤ 600130; omega), (by show sl + 0 ≤ 7301080; omega)⟩) ?_
          refine lv_lstore (lv' := [(4, .long q25), (3, .int (0 : Int32)), (0, .ref b), (1, .ref a.1), (2, .ref aQ)]) hx hb dL_law_86 hl (by decide) rfl (fun ls hl => ?_)
          refine lv_iconst (v := (0 : Int32)) hx hb dL_law_88 (by decide) ?_
          refine lv_istore (lv' := [(6, .int (0 : Int32)), (4, .long q25), (3, .int (0 : Int32)), (0, .ref b), (1, .ref a.1), (2, .ref aQ)]) hx hb dL_law_89 hl (by decide) rfl (fun ls hl => ?_)
          exact W_91 q25  30 (0 : Int32) (0 : Int32) u21 wq _ _ _ _ (by omega) (by omega) hP hD hS ls (lv_sub hl [3, 4, 5, 2, 1, 0] rfl) hF
        · have hF := ite_f c24 hF
          refine lv_iconst (v := (0 : Int32)) hx hb dL_law_80 (by decide) ?_
          exact absurd hF (by decide)
end Law
