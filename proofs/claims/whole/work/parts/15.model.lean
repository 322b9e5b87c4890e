abbrev rm6_in : Room := { frames := 0, cells := 0, slots := 0, locals := 0 }
theorem hdn6_in : yX6_in.cls ≠ "java/lang/invoke/MethodHandle" ∧ yX6_in.cls ≠ "java/lang/invoke/VarHandle" ∧ (parseMethodDescriptor yX6_in.desc).map (fun d => d.parameters.length) = some 3 := by decide +kernel
set_option maxHeartbeats 4000000 in
set_option maxRecDepth 100000 in
theorem K6_in (l : Launch) (D : va_G) (cI cZ cS cJ : ClassId) (x0 : Int32) (x1 : Int32) (x2 : Int32) (r : Int32) (hF : f6_in x0 x1 x2 = some (r)) : Met l yX6_in wsX6_in rm6_in (rP D (gT cI cZ cS cJ) ([] : va_W) [.int x0, .int x1, .int x2]) (rQ (.int r)) 0 0 (fun _ => False) := by
  refine Met.ofW (cc := cX6_in) (maxL := 3) (ret := (some .boolean)) (by decide) rfl ?_
  intro p e s m args below meth c s₁ B hml hv
  obtain ⟨ha, hK, hP⟩ := hv
  have hx := B.exec
  have hb := B.bytes
  have hr := B.returns
  have hlocks := B.notSynchronized
  have hts : ∀ w ∈ lw_all, w.before args s = true := fun w h => atoms_spec (ws := wsX6_in) B.pre w (List.mem_cons_of_mem _ h)
  have hown : s.vm.findClass RX6 = some m.cls := findClass_of_methodNamed B.named
  have S : CallFix p m c cX6_in 3 s args lw_all RX6 := ⟨hx, hb, hml, hown, hts⟩
  have hl := lv_entry ([.int x0, .int x1, .int x2] : List Value) (n := 3) (Nat.le_of_ble_eq_true rfl)
  refine W.eq (g2 := F0 m 0 ((lg_sl ([.int x0, .int x1, .int x2] : List Value) ++ List.replicate (3 - (lg_sl ([.int x0, .int x1, .int x2] : List Value)).length) Slot.unset).toArray) []) (by rw [ha]; exact lg_entry_eq _ _ _) ?_
  generalize (lg_sl ([.int x0, .int x1, .int x2] : List Value) ++ List.replicate (3 - (lg_sl ([.int x0, .int x1, .int x2] : List Value)).length) Slot.unset).toArray = ls at hl ⊢
  have hl : lv_has ls 3 [(0, .int x0), (1, .int x1), (2, .int x2)] := hl
  rw [f6_in] at hF
  show rW p l e wsX6_in rm6_in s m args below meth c (.int r) (F0 m 0 ls [])
  refine lv_iload_n hx hb dX6_in_0 rfl (lv_at hl 0 rfl) ?_
  refine lv_iload_n hx hb dX6_in_1 rfl (lv_at hl 1 rfl) ?_
  refine lv_icmp_lt (tgt := 14) hx hb dX6_in_2 (by decide) (fun c1 => ?_) (fun c1 => ?_)
  · rw [if_pos c1] at hF
    refine lv_iconst hx hb dX6_in_14 kc_iconst_0 ?_
    exact rretz (by decide) hF hx hb hr hlocks dX6_in_15
  · rw [if_neg c1] at hF
    refine lv_iload_n hx hb dX6_in_5 rfl (lv_at hl 0 rfl) ?_
    refine lv_iload_n hx hb dX6_in_6 rfl (lv_at hl 2 rfl) ?_
    refine lv_icmp_gt (tgt := 14) hx hb dX6_in_7 (by decide) (fun c2 => ?_) (fun c2 => ?_)
    · rw [if_pos c2] at hF
      refine lv_iconst hx hb dX6_in_14 kc_iconst_0 ?_
      exact rretz (by decide) hF hx hb hr hlocks dX6_in_15
    · rw [if_neg c2] at hF
      refine lv_iconst hx hb dX6_in_10 kc_iconst_1 ?_
      refine lv_goto (tgt := 15) hx hb dX6_in_11 (by decide) ?_
      exact rretz (by decide) hF hx hb hr hlocks dX6_in_15
abbrev rm6_isSerial : Room := { frames := 1, cells := 0, slots := 0, locals := 22 }
theorem hdn6_isSerial : yX6_isSerial.cls ≠ "java/lang/invoke/MethodHandle" ∧ yX6_isSerial.cls ≠ "java/lang/invoke/VarHandle" ∧ (parseMethodDescriptor yX6_isSerial.desc).map (fun d => d.parameters.length) = some 1 := by decide +kernel
set_option maxHeartbeats 4000000 in
set_option maxRecDepth 100000 in
theorem K6_isSerial (l : Launch) (D : va_G) (cI cZ cS cJ : ClassId) (x0 : Int32) (r : Int32) (hF : f6_isSerial x0 = some (r)) : Met l yX6_isSerial wsX6_isSerial rm6_isSerial (rP D (gT cI cZ cS cJ) ([] : va_W) [.int x0]) (rQ (.int r)) 0 0 (fun _ => False) := by
  refine Met.ofW (cc := cX6_isSerial) (maxL := 1) (ret := (some .boolean)) (by decide) rfl ?_
  intro p e s m args below meth c s₁ B hml hv
  obtain ⟨ha, hK, hP⟩ := hv
  have hx := B.exec
  have hb := B.bytes
  have hr := B.returns
  have hlocks := B.notSynchronized
  have hts : ∀ w ∈ lw_all, w.before args s = true := fun w h => atoms_spec (ws := wsX6_isSerial) B.pre w (List.mem_cons_of_mem _ h)
  have hown : s.vm.findClass RX6 = some m.cls := findClass_of_methodNamed B.named
  have S : CallFix p m c cX6_isSerial 1 s args lw_all RX6 := ⟨hx, hb, hml, hown, hts⟩
  have hl := lv_entry ([.int x0] : List Value) (n := 1) (Nat.le_of_ble_eq_true rfl)
  refine W.eq (g2 := F0 m 0 ((lg_sl ([.int x0] : List Value) ++ List.replicate (1 - (lg_sl ([.int x0] : List Value)).length) Slot.unset).toArray) []) (by rw [ha]; exact lg_entry_eq _ _ _) ?_
  generalize (lg_sl ([.int x0] : List Value) ++ List.replicate (1 - (lg_sl ([.int x0] : List Value)).length) Slot.unset).toArray = ls at hl ⊢
  have hl : lv_has ls 1 [(0, .int x0)] := hl
  rw [f6_isSerial] at hF
  show rW p l e wsX6_isSerial rm6_isSerial s m args below meth c (.int r) (F0 m 0 ls [])
  refine lv_iload_n hx hb dX6_isSerial_0 rfl (lv_at hl 0 rfl) ?_
  refine lv_iconst hx hb dX6_isSerial_1 kc_iconst_0 ?_
  refine lv_ldc hx hb hown (hts _ wd_878) dX6_isSerial_2 ?_
  obtain ⟨q2, h1, hF⟩ := bd1_at hF
  refine rcall (va_runS (As := [.int x0, .int (0 : Int32), .int (999999 : Int32)]) (rest := []) S (K6_in l D cI cZ cS cJ x0 (0 : Int32) (999999 : Int32) q2 h1) (va_cwS 3 hts (gd_S wd_853 wd_854 wd_67 wd_855) rfl rfl rfl hdn6_in ⟨Nat.le_of_ble_eq_true rfl, Nat.le_of_ble_eq_true rfl⟩) (rPreS hK hP) rfl rfl hl.1 rfl (lv_room (Nat.le_of_ble_eq_true rfl)) dX6_isSerial_4 ⟨(Nat.zero_le _), (Nat.zero_le _)⟩) ?_
  obtain ⟨hz, hF⟩ := gd_at hF
  exact rretz hz hF hx hb hr hlocks dX6_isSerial_7
abbrev rm6_isLetter : Room := { frames := 1, cells := 0, slots := 0, locals := 22 }
theorem hdn6_isLetter : yX6_isLetter.cls ≠ "java/lang/invoke/MethodHandle" ∧ yX6_isLetter.cls ≠ "java/lang/invoke/VarHandle" ∧ (parseMethodDescriptor yX6_isLetter.desc).map (fun d => d.parameters.length) = some 1 := by decide +kernel
set_option maxHeartbeats 4000000 in
set_option maxRecDepth 100000 in
theorem K6_isLetter (l : Launch) (D : va_G) (cI cZ cS cJ : ClassId) (x0 : Int32) (r : Int32) (hF : f6_isLetter x0 = some (r)) : Met l yX6_isLetter wsX6_isLetter rm6_isLetter (rP D (gT cI cZ cS cJ) ([] : va_W) [.int x0]) (rQ (.int r)) 0 0 (fun _ => False) := by
  refine Met.ofW (cc := cX6_isLetter) (maxL := 1) (ret := (some .boolean)) (by decide) rfl ?_
  intro p e s m args below meth c s₁ B hml hv
  obtain ⟨ha, hK, hP⟩ := hv
  have hx := B.exec
  have hb := B.bytes
  have hr := B.returns
  have hlocks := B.notSynchronized
  have hts : ∀ w ∈ lw_all, w.before args s = true := fun w h => atoms_spec (ws := wsX6_isLetter) B.pre w (List.mem_cons_of_mem _ h)
  have hown : s.vm.findClass RX6 = some m.cls := findClass_of_methodNamed B.named
  have S : CallFix p m c cX6_isLetter 1 s args lw_all RX6 := ⟨hx, hb, hml, hown, hts⟩
  have hl := lv_entry ([.int x0] : List Value) (n := 1) (Nat.le_of_ble_eq_true rfl)
  refine W.eq (g2 := F0 m 0 ((lg_sl ([.int x0] : List Value) ++ List.replicate (1 - (lg_sl ([.int x0] : List Value)).length) Slot.unset).toArray) []) (by rw [ha]; exact lg_entry_eq _ _ _) ?_
  generalize (lg_sl ([.int x0] : List Value) ++ List.replicate (1 - (lg_sl ([.int x0] : List Value)).length) Slot.unset).toArray = ls at hl ⊢
  have hl : lv_has ls 1 [(0, .int x0)] := hl
  rw [f6_isLetter] at hF
  show rW p l e wsX6_isLetter rm6_isLetter s m args below meth c (.int r) (F0 m 0 ls [])
  refine lv_iload_n hx hb dX6_isLetter_0 rfl (lv_at hl 0 rfl) ?_
  refine lv_iconst hx hb dX6_isLetter_1 kc_iconst_0 ?_
  refine lv_bipush hx hb dX6_isLetter_2 kc_bipush_25 ?_
  obtain ⟨q2, h1, hF⟩ := bd1_at hF
  refine rcall (va_runS (As := [.int x0, .int (0 : Int32), .int (25 : Int32)]) (rest := []) S (K6_in l D cI cZ cS cJ x0 (0 : Int32) (25 : Int32) q2 h1) (va_cwS 3 hts (gd_S wd_853 wd_854 wd_67 wd_855) rfl rfl rfl hdn6_in ⟨Nat.le_of_ble_eq_true rfl, Nat.le_of_ble_eq_true rfl⟩) (rPreS hK hP) rfl rfl hl.1 rfl (lv_room (Nat.le_of_ble_eq_true rfl)) dX6_isLetter_4 ⟨(Nat.zero_le _), (Nat.zero_le _)⟩) ?_
  obtain ⟨hz, hF⟩ := gd_at hF
  exact rretz hz hF hx hb hr hlocks dX6_isLetter_7
abbrev rm6_digit : Room := { frames := 0, cells := 0, slots := 0, locals := 0 }
theorem hdn6_digit : yX6_digit.cls ≠ "java/lang/invoke/MethodHandle" ∧ yX6_digit.cls ≠ "java/lang/invoke/VarHandle" ∧ (parseMethodDescriptor yX6_digit.desc).map (fun d => d.parameters.length) = some 2 := by decide +kernel
set_option maxHeartbeats 4000000 in
set_option maxRecDepth 100000 in
theorem K6_digit (l : Launch) (D : va_G) (cI cZ cS cJ : ClassId) (x0 : Int32) (x1 : Int32) (r : Int32) (hF : f6_digit x0 x1 = some (r)) : Met l yX6_digit wsX6_digit rm6_digit (rP D (gT cI cZ cS cJ) ([] : va_W) [.int x0, .int x1]) (rQ (.int r)) 0 0 (fun _ => False) := by
  refine Met.ofW (cc := cX6_digit) (maxL := 4) (ret := (some .int)) (by decide) rfl ?_
  intro p e s m args below meth c s₁ B hml hv
  obtain ⟨ha, hK, hP⟩ := hv
  have hx := B.exec
  have hb := B.bytes
  have hr := B.returns
  have hlocks := B.notSynchronized
  have hts : ∀ w ∈ lw_all, w.before args s = true := fun w h => atoms_spec (ws := wsX6_digit) B.pre w (List.mem_cons_of_mem _ h)
  have hown : s.vm.findClass RX6 = some m.cls := findClass_of_methodNamed B.named
  have S : CallFix p m c cX6_digit 4 s args lw_all RX6 := ⟨hx, hb, hml, hown, hts⟩
  have hl := lv_entry ([.int x0, .int x1] : List Value) (n := 4) (Nat.le_of_ble_eq_true rfl)
  refine W.eq (g2 := F0 m 0 ((lg_sl ([.int x0, .int x1] : List Value) ++ List.replicate (4 - (lg_sl ([.int x0, .int x1] : List Value)).length) Slot.unset).toArray) []) (by rw [ha]; exact lg_entry_eq _ _ _) ?_
  generalize (lg_sl ([.int x0, .int x1] : List Value) ++ List.replicate (4 - (lg_sl ([.int x0, .int x1] : List Value)).length) Slot.unset).toArray = ls at hl ⊢
  have hl : lv_has ls 4 [(0, .int x0), (1, .int x1)] := hl
  clear ha
  have W_4 : ∀ (x1 : Int32) (n : Nat) (x2 : Int32) (x3 : Int32), ∀ (ls : Array Slot), lv_has ls 4 [(1, .int x1), (2, .int x2), (3, .int x3)] → f6_digit_l4 x1 n x2 x3 = some (r) → rW p l e wsX6_digit rm6_digit s m args below meth c (.int r) (F0 m 4 ls []) := by
    intro x1  n
    induction n with
    | zero =>
      intro x2 x3 ls hl hF
      rw [f6_digit_l4] at hF
      cases hF
    | succ n ih =>
      intro x2 x3 ls hl hF
      rw [f6_digit_l4] at hF
      refine lv_iload_n hx hb dX6_digit_4 rfl (lv_at hl 2 rfl) ?_
      refine lv_iload_n hx hb dX6_digit_5 rfl (lv_at hl 0 rfl) ?_
      refine lv_icmp_le (tgt := 20) hx hb dX6_digit_6 (by decide) (fun c1 => ?_) (fun c1 => ?_)
      · have hF := ite_t c1 hF
        refine lv_iload_n hx hb dX6_digit_20 rfl (lv_at hl 1 rfl) ?_
        refine lv_bipush hx hb dX6_digit_21 kc_bipush_10 ?_
        refine lv_irem hx hb dX6_digit_23 (by decide) ?_
        exact rret hF hx hb hr hlocks dX6_digit_24
      · have hF := ite_f c1 hF
        refine lv_iload_n hx hb dX6_digit_9 rfl (lv_at hl 1 rfl) ?_
        refine lv_bipush hx hb dX6_digit_10 kc_bipush_10 ?_
        refine lv_idiv hx hb dX6_digit_12 (by decide) ?_
        refine lv_istore_n (lv' := [(2, .int (x2 / (10 : Int32))), (1, .int x1), (3, .int x3)]) hx hb dX6_digit_13 rfl hl (by decide) rfl (fun ls hl => ?_)
        refine lv_iinc (v := (x3 + (-1))) (lv' := [(3, .int (x3 + (-1))), (2, .int (x2 / (10 : Int32))), (1, .int x1)]) hx hb dX6_digit_14 hl (k := 2) rfl rfl (by decide) rfl (fun ls hl => ?_)
        refine lv_goto (tgt := 4) hx hb dX6_digit_17 (by decide) ?_
        exact ih (x2 / (10 : Int32)) (x3 + (-1)) ls (lv_sub hl [2, 1, 0] rfl) hF
  rw [f6_digit] at hF
  show rW p l e wsX6_digit rm6_digit s m args below meth c (.int r) (F0 m 0 ls [])
  refine lv_iload_n hx hb dX6_digit_0 rfl (lv_at hl 0 rfl) ?_
  refine lv_istore_n (lv' := [(2, .int x0), (0, .int x0), (1, .int x1)]) hx hb dX6_digit_1 rfl hl (by decide) rfl (fun ls hl => ?_)
  refine lv_iconst hx hb dX6_digit_2 kc_iconst_5 ?_
  refine lv_istore_n (lv' := [(3, .int (5 : Int32)), (2, .int x0), (0, .int x0), (1, .int x1)]) hx hb dX6_digit_3 rfl hl (by decide) rfl (fun ls hl => ?_)
  exact W_4 x1  fu x0 (5 : Int32) ls (lv_sub hl [3, 1, 0] rfl) hF
abbrev rm6_way : Room := { frames := 1, cells := 0, slots := 0, locals := 23 }
theorem hdn6_way : yX6_way.cls ≠ "java/lang/invoke/MethodHandle" ∧ yX6_way.cls ≠ "java/lang/invoke/VarHandle" ∧ (parseMethodDescriptor yX6_way.desc).map (fun d => d.parameters.length) = some 2 := by decide +kernel
set_option maxHeartbeats 4000000 in
set_option maxRecDepth 100000 in
theorem K6_way (l : Launch) (D : va_G) (cI cZ cS cJ : ClassId) (x0 : Int32) (x1 : Int32) (r : Int32) (hF : f6_way x0 x1 = some (r)) : Met l yX6_way wsX6_way rm6_way (rP D (gT cI cZ cS cJ) ([] : va_W) [.int x0, .int x1]) (rQ (.int r)) 0 0 (fun _ => False) := by
  refine Met.ofW (cc := cX6_way) (maxL := 6) (ret := (some .int)) (by decide) rfl ?_
  intro p e s m args below meth c s₁ B hml hv
  obtain ⟨ha, hK, hP⟩ := hv
  have hx := B.exec
  have hb := B.bytes
  have hr := B.returns
  have hlocks := B.notSynchronized
  have hts : ∀ w ∈ lw_all, w.before args s = true := fun w h => atoms_spec (ws := wsX6_way) B.pre w (List.mem_cons_of_mem _ h)
  have hown : s.vm.findClass RX6 = some m.cls := findClass_of_methodNamed B.named
  have S : CallFix p m c cX6_way 6 s args lw_all RX6 := ⟨hx, hb, hml, hown, hts⟩
  have hl := lv_entry ([.int x0, .int x1] : List Value) (n := 6) (Nat.le_of_ble_eq_true rfl)
  refine W.eq (g2 := F0 m 0 ((lg_sl ([.int x0, .int x1] : List Value) ++ List.replicate (6 - (lg_sl ([.int x0, .int x1] : List Value)).length) Slot.unset).toArray) []) (by rw [ha]; exact lg_entry_eq _ _ _) ?_
  generalize (lg_sl ([.int x0, .int x1] : List Value) ++ List.replicate (6 - (lg_sl ([.int x0, .int x1] : List Value)).length) Slot.unset).toArray = ls at hl ⊢
  have hl : lv_has ls 6 [(0, .int x0), (1, .int x1)] := hl
  clear ha
  have W_47 : ∀ (x0 : Int32) (x1 : Int32) (x3 : Int32) (x4 : Int32) (x5 : Int32) (s0 : Int32) (s1 : Int32) (k7 : Int32 → Int32 → Int32 → Option (Int32)) (hk7 : ∀ (x2 : Int32) (x3 : Int32) (x4 : Int32), ∀ (ls : Array Slot), lv_has ls 6 [(0, .int x0), (1, .int x1), (2, .int x2), (3, .int x3), (4, .int x4)] → k7 x2 x3 x4 = some (r) → rW p l e wsX6_way rm6_way s m args below meth c (.int r) (F0 m 7 ls [])), ∀ (ls : Array Slot), lv_has ls 6 [(0, .int x0), (1, .int x1), (3, .int x3), (4, .int x4), (5, .int x5)] → f6_way_j47 k7 x0 x1 x3 x4 x5 s0 s1 = some (r) → rW p l e wsX6_way rm6_way s m args below meth c (.int r) (F0 m 47 ls [.int s0, .int s1]) := by
    intro x0 x1 x3 x4 x5 s0 s1 k7 hk7 ls hl hF
    rw [f6_way_j47] at hF
    refine lv_iadd hx hb dX6_way_47 ?_
    refine lv_istore_n (lv' := [(2, .int (s1 + s0)), (0, .int x0), (1, .int x1), (3, .int x3), (4, .int x4), (5, .int x5)]) hx hb dX6_way_48 rfl hl (by decide) rfl (fun ls hl => ?_)
    refine lv_iload hx hb dX6_way_49 (lv_at hl 5 rfl) ?_
    refine lv_if_eq (tgt := 59) hx hb dX6_way_51 (by decide) (fun c22 => ?_) (fun c22 => ?_)
    · rw [if_pos c22] at hF
      refine lv_iload_n hx hb dX6_way_59 rfl (lv_at hl 3 rfl) ?_
      refine lv_istore_n (lv' := [(3, .int x3), (2, .int (s1 + s0)), (0, .int x0), (1, .int x1), (4, .int x4), (5, .int x5)]) hx hb dX6_way_60 rfl hl (by decide) rfl (fun ls hl => ?_)
      refine lv_iinc (v := (x4 + 1)) (lv' := [(4, .int (x4 + 1)), (3, .int x3), (2, .int (s1 + s0)), (0, .int x0), (1, .int x1), (5, .int x5)]) hx hb dX6_way_61 hl (k := 4) rfl rfl (by decide) rfl (fun ls hl => ?_)
      refine lv_goto (tgt := 7) hx hb dX6_way_64 (by decide) ?_
      exact hk7 (s1 + s0) x3 (x4 + 1) ls (lv_sub hl [3, 4, 2, 1, 0] rfl) hF
    · rw [if_neg c22] at hF
      refine lv_iload hx hb dX6_way_54 (lv_at hl 4 rfl) ?_
      refine lv_goto (tgt := 60) hx hb dX6_way_56 (by decide) ?_
      refine lv_istore_n (lv' := [(3, .int x4), (2, .int (s1 + s0)), (0, .int x0), (1, .int x1), (4, .int x4), (5, .int x5)]) hx hb dX6_way_60 rfl hl (by decide) rfl (fun ls hl => ?_)
      refine lv_iinc (v := (x4 + 1)) (lv' := [(4, .int (x4 + 1)), (3, .int x4), (2, .int (s1 + s0)), (0, .int x0), (1, .int x1), (5, .int x5)]) hx hb dX6_way_61 hl (k := 4) rfl rfl (by decide) rfl (fun ls hl => ?_)
      refine lv_goto (tgt := 7) hx hb dX6_way_64 (by decide) ?_
      exact hk7 (s1 + s0) x4 (x4 + 1) ls (lv_sub hl [3, 4, 2, 1, 0] rfl) hF
  have W_34 : ∀ (x0 : Int32) (x1 : Int32) (x2 : Int32) (x3 : Int32) (x4 : Int32) (s0 : Int32) (k7 : Int32 → Int32 → Int32 → Option (Int32)) (hk7 : ∀ (x2 : Int32) (x3 : Int32) (x4 : Int32), ∀ (ls : Array Slot), lv_has ls 6 [(0, .int x0), (1, .int x1), (2, .int x2), (3, .int x3), (4, .int x4)] → k7 x2 x3 x4 = some (r) → rW p l e wsX6_way rm6_way s m args below meth c (.int r) (F0 m 7 ls [])), ∀ (ls : Array Slot), lv_has ls 6 [(0, .int x0), (1, .int x1), (2, .int x2), (3, .int x3), (4, .int x4)] → f6_way_j34 k7 x0 x1 x2 x3 x4 s0 = some (r) → rW p l e wsX6_way rm6_way s m args below meth c (.int r) (F0 m 34 ls [.int s0]) := by
    intro x0 x1 x2 x3 x4 s0 k7 hk7 ls hl hF
    rw [f6_way_j34] at hF
    refine lv_istore (lv' := [(5, .int s0), (0, .int x0), (1, .int x1), (2, .int x2), (3, .int x3), (4, .int x4)]) hx hb dX6_way_34 hl (by decide) rfl (fun ls hl => ?_)
    refine lv_iload_n hx hb dX6_way_36 rfl (lv_at hl 3 rfl) ?_
    refine lv_iload hx hb dX6_way_37 (lv_at hl 0 rfl) ?_
    refine lv_if_eq (tgt := 46) hx hb dX6_way_39 (by decide) (fun c21 => ?_) (fun c21 => ?_)
    · rw [if_pos c21] at hF
      refine lv_iconst hx hb dX6_way_46 kc_iconst_0 ?_
      exact W_47 x0 x1 x3 x4 s0 (0 : Int32) x2 k7 hk7 ls (lv_sub hl [1, 2, 4, 5, 0] rfl) hF
    · rw [if_neg c21] at hF
      refine lv_iconst hx hb dX6_way_42 kc_iconst_1 ?_
      refine lv_goto (tgt := 47) hx hb dX6_way_43 (by decide) ?_
      exact W_47 x0 x1 x3 x4 s0 (1 : Int32) x2 k7 hk7 ls (lv_sub hl [1, 2, 4, 5, 0] rfl) hF
  have W_122 : ∀ (s0 : Int32), ∀ (ls : Array Slot), lv_has ls 6 [] → f6_way_j122 s0 = some (r) → rW p l e wsX6_way rm6_way s m args below meth c (.int r) (F0 m 122 ls [.int s0]) := by
    intro s0  ls hl hF
    rw [f6_way_j122] at hF
    refine lv_istore (lv' := [(4, .int s0)]) hx hb dX6_way_122 hl (by decide) rfl (fun ls hl => ?_)
    refine lv_iload hx hb dX6_way_124 (lv_at hl 0 rfl) ?_
    refine lv_if_eq (tgt := 133) hx hb dX6_way_126 (by decide) (fun c20 => ?_) (fun c20 => ?_)
    · rw [if_pos c20] at hF
      refine lv_iconst hx hb dX6_way_133 kc_iconst_m1 ?_
      exact rret hF hx hb hr hlocks dX6_way_134
    · rw [if_neg c20] at hF
      refine lv_iconst hx hb dX6_way_129 kc_iconst_1 ?_
      refine lv_goto (tgt := 134) hx hb dX6_way_130 (by decide) ?_
      exact rret hF hx hb hr hlocks dX6_way_134
  have W_121 : ∀ (ls : Array Slot), lv_has ls 6 [] → f6_way_j121 = some (r) → rW p l e wsX6_way rm6_way s m args below meth c (.int r) (F0 m 121 ls []) := by
    intro   ls hl hF
    rw [f6_way_j121] at hF
    refine lv_iconst hx hb dX6_way_121 kc_iconst_0 ?_
    exact W_122 (0 : Int32)  ls (lv_sub hl [] rfl) hF
  have W_7 : ∀ (x0 : Int32) (x1 : Int32) (n : Nat) (x2 : Int32) (x3 : Int32) (x4 : Int32), ∀ (ls : Array Slot), lv_has ls 6 [(0, .int x0), (1, .int x1), (2, .int x2), (3, .int x3), (4, .int x4)] → f6_way_l7 x0 x1 n x2 x3 x4 = some (r) → rW p l e wsX6_way rm6_way s m args below meth c (.int r) (F0 m 7 ls []) := by
    intro x0 x1  n
    induction n with
    | zero =>
      intro x2 x3 x4 ls hl hF
      rw [f6_way_l7] at hF
      cases hF
    | succ n ih =>
      intro x2 x3 x4 ls hl hF
      rw [f6_way_l7] at hF
      refine lv_iload hx hb dX6_way_7 (lv_at hl 4 rfl) ?_
      refine lv_bipush hx hb dX6_way_9 kc_bipush_6 ?_
      refine lv_icmp_ge (tgt := 67) hx hb dX6_way_11 (by decide) (fun c1 => ?_) (fun c1 => ?_)
      · have hF := ite_t c1 hF
        refine lv_iload_n hx hb dX6_way_67 rfl (lv_at hl 2 rfl) ?_
        refine lv_iconst hx hb dX6_way_68 kc_iconst_2 ?_
        refine lv_icmp_ge (tgt := 82) hx hb dX6_way_69 (by decide) (fun c2 => ?_) (fun c2 => ?_)
        · have hF := ite_t c2 hF
          refine lv_iload_n hx hb dX6_way_82 rfl (lv_at hl 2 rfl) ?_
          refine lv_iconst hx hb dX6_way_83 kc_iconst_2 ?_
          refine lv_icmp_ne (tgt := 121) hx hb dX6_way_84 (by decide) (fun c3 => ?_) (fun c3 => ?_)
          · have hF := ite_f c3 hF
            exact W_121   ls (lv_sub hl [] rfl) hF
          · have hF := ite_t c3 hF
            refine lv_iload_n hx hb dX6_way_87 rfl (lv_at hl 0 rfl) ?_
            refine lv_iload_n hx hb dX6_way_88 rfl (lv_at hl 3 rfl) ?_
            obtain ⟨q5, h4, hF⟩ := bd1_at hF
            refine rcall (va_runS (As := [.int x0, .int x3]) (rest := []) S (K6_digit l D cI cZ cS cJ x0 x3 q5 h4) (va_cwS 2 hts (gd_S wd_915 wd_916 wd_67 wd_917) rfl rfl rfl hdn6_digit ⟨Nat.le_of_ble_eq_true rfl, Nat.le_of_ble_eq_true rfl⟩) (rPreS hK hP) rfl rfl hl.1 rfl (lv_room (Nat.le_of_ble_eq_true rfl)) dX6_way_89 ⟨(Nat.zero_le _), (Nat.zero_le _)⟩) ?_
            refine lv_iload_n hx hb dX6_way_92 rfl (lv_at hl 1 rfl) ?_
            refine lv_iload_n hx hb dX6_way_93 rfl (lv_at hl 3 rfl) ?_
            refine lv_iconst hx hb dX6_way_94 kc_iconst_1 ?_
            refine lv_isub hx hb dX6_way_95 ?_
            obtain ⟨q7, h6, hF⟩ := bd1_at hF
            refine rcall (va_runS (As := [.int x1, .int (x3 - (1 : Int32))]) (rest := [.int q5]) S (K6_digit l D cI cZ cS cJ x1 (x3 - (1 : Int32)) q7 h6) (va_cwS 2 hts (gd_S wd_915 wd_916 wd_67 wd_917) rfl rfl rfl hdn6_digit ⟨Nat.le_of_ble_eq_true rfl, Nat.le_of_ble_eq_true rfl⟩) (rPreS hK hP) rfl rfl hl.1 rfl (lv_room (Nat.le_of_ble_eq_true rfl)) dX6_way_96 ⟨(Nat.zero_le _), (Nat.zero_le _)⟩) ?_
            refine lv_icmp_ne (tgt := 121) hx hb dX6_way_99 (by decide) (fun c8 => ?_) (fun c8 => ?_)
            · have hF := ite_f c8 hF
              exact W_121   ls (lv_sub hl [] rfl) hF
            · have hF := ite_t c8 hF
              refine lv_iload_n hx hb dX6_way_102 rfl (lv_at hl 0 rfl) ?_
              refine lv_iload_n hx hb dX6_way_103 rfl (lv_at hl 3 rfl) ?_
              refine lv_iconst hx hb dX6_way_104 kc_iconst_1 ?_
              refine lv_isub hx hb dX6_way_105 ?_
              obtain ⟨q10, h9, hF⟩ := bd1_at hF
              refine rcall (va_runS (As := [.int x0, .int (x3 - (1 : Int32))]) (rest := []) S (K6_digit l D cI cZ cS cJ x0 (x3 - (1 : Int32)) q10 h9) (va_cwS 2 hts (gd_S wd_915 wd_916 wd_67 wd_917) rfl rfl rfl hdn6_digit ⟨Nat.le_of_ble_eq_true rfl, Nat.le_of_ble_eq_true rfl⟩) (rPreS hK hP) rfl rfl hl.1 rfl (lv_room (Nat.le_of_ble_eq_true rfl)) dX6_way_106 ⟨(Nat.zero_le _), (Nat.zero_le _)⟩) ?_
              refine lv_iload_n hx hb dX6_way_109 rfl (lv_at hl 1 rfl) ?_
              refine lv_iload_n hx hb dX6_way_110 rfl (lv_at hl 3 rfl) ?_
              obtain ⟨q12, h11, hF⟩ := bd1_at hF
              refine rcall (va_runS (As := [.int x1, .int x3]) (rest := [.int q10]) S (K6_digit l D cI cZ cS cJ x1 x3 q12 h11) (va_cwS 2 hts (gd_S wd_915 wd_916 wd_67 wd_917) rfl rfl rfl hdn6_digit ⟨Nat.le_of_ble_eq_true rfl, Nat.le_of_ble_eq_true rfl⟩) (rPreS hK hP) rfl rfl hl.1 rfl (lv_room (Nat.le_of_ble_eq_true rfl)) dX6_way_111 ⟨(Nat.zero_le _), (Nat.zero_le _)⟩) ?_
              refine lv_icmp_ne (tgt := 121) hx hb dX6_way_114 (by decide) (fun c13 => ?_) (fun c13 => ?_)
              · have hF := ite_f c13 hF
                exact W_121   ls (lv_sub hl [] rfl) hF
              · have hF := ite_t c13 hF
                refine lv_iconst hx hb dX6_way_117 kc_iconst_1 ?_
                refine lv_goto (tgt := 122) hx hb dX6_way_118 (by decide) ?_
                exact W_122 (1 : Int32)  ls (lv_sub hl [] rfl) hF
        · have hF := ite_f c2 hF
          refine lv_iload_n hx hb dX6_way_72 rfl (lv_at hl 2 rfl) ?_
          refine lv_if_ne (tgt := 80) hx hb dX6_way_73 (by decide) (fun c14 => ?_) (fun c14 => ?_)
          · rw [if_neg c14] at hF
            refine lv_iconst hx hb dX6_way_80 kc_iconst_0 ?_
            exact rret hF hx hb hr hlocks dX6_way_81
          · rw [if_pos c14] at hF
            refine lv_iconst hx hb dX6_way_76 kc_iconst_3 ?_
            refine lv_goto (tgt := 81) hx hb dX6_way_77 (by decide) ?_
            exact rret hF hx hb hr hlocks dX6_way_81
      · have hF := ite_f c1 hF
        refine lv_iload_n hx hb dX6_way_14 rfl (lv_at hl 0 rfl) ?_
        refine lv_iload hx hb dX6_way_15 (lv_at hl 4 rfl) ?_
        obtain ⟨q16, h15, hF⟩ := bd1_at hF
        refine rcall (va_runS (As := [.int x0, .int x4]) (rest := []) S (K6_digit l D cI cZ cS cJ x0 x4 q16 h15) (va_cwS 2 hts (gd_S wd_915 wd_916 wd_67 wd_917) rfl rfl rfl hdn6_digit ⟨Nat.le_of_ble_eq_true rfl, Nat.le_of_ble_eq_true rfl⟩) (rPreS hK hP) rfl rfl hl.1 rfl (lv_room (Nat.le_of_ble_eq_true rfl)) dX6_way_17 ⟨(Nat.zero_le _), (Nat.zero_le _)⟩) ?_
        refine lv_iload_n hx hb dX6_way_20 rfl (lv_at hl 1 rfl) ?_
        refine lv_iload hx hb dX6_way_21 (lv_at hl 4 rfl) ?_
        obtain ⟨q18, h17, hF⟩ := bd1_at hF
        refine rcall (va_runS (As := [.int x1, .int x4]) (rest := [.int q16]) S (K6_digit l D cI cZ cS cJ x1 x4 q18 h17) (va_cwS 2 hts (gd_S wd_915 wd_916 wd_67 wd_917) rfl rfl rfl hdn6_digit ⟨Nat.le_of_ble_eq_true rfl, Nat.le_of_ble_eq_true rfl⟩) (rPreS hK hP) rfl rfl hl.1 rfl (lv_room (Nat.le_of_ble_eq_true rfl)) dX6_way_23 ⟨(Nat.zero_le _), (Nat.zero_le _)⟩) ?_
        refine lv_icmp_eq (tgt := 33) hx hb dX6_way_26 (by decide) (fun c19 => ?_) (fun c19 => ?_)
        · rw [if_pos c19] at hF
          refine lv_iconst hx hb dX6_way_33 kc_iconst_0 ?_
          exact W_34 x0 x1 x2 x3 x4 (0 : Int32) (f6_way_l7 x0 x1 n) ih ls (lv_sub hl [0, 1, 2, 3, 4] rfl) hF
        · rw [if_neg c19] at hF
          refine lv_iconst hx hb dX6_way_29 kc_iconst_1 ?_
          refine lv_goto (tgt := 34) hx hb dX6_way_30 (by decide) ?_
          exact W_34 x0 x1 x2 x3 x4 (1 : Int32) (f6_way_l7 x0 x1 n) ih ls (lv_sub hl [0, 1, 2, 3, 4] rfl) hF
  rw [f6_way] at hF
  show rW p l e wsX6_way rm6_way s m args below meth c (.int r) (F0 m 0 ls [])
  refine lv_iconst hx hb dX6_way_0 kc_iconst_0 ?_
  refine lv_istore_n (lv' := [(2, .int (0 : Int32)), (0, .int x0), (1, .int x1)]) hx hb dX6_way_1 rfl hl (by decide) rfl (fun ls hl => ?_)
  refine lv_iconst hx hb dX6_way_2 kc_iconst_0 ?_
  refine lv_istore_n (lv' := [(3, .int (0 : Int32)), (2, .int (0 : Int32)), (0, .int x0), (1, .int x1)]) hx hb dX6_way_3 rfl hl (by decide) rfl (fun ls hl => ?_)
  refine lv_iconst hx hb dX6_way_4 kc_iconst_0 ?_
  refine lv_istore (lv' := [(4, .int (0 : Int32)), (3, .int (0 : Int32)), (2, .int (0 : Int32)), (0, .int x0), (1, .int x1)]) hx hb dX6_way_5 hl (by decide) rfl (fun ls hl => ?_)
  exact W_7 x0 x1  fu (0 : Int32) (0 : Int32) (0 : Int32) ls (lv_sub hl [3, 4, 2, 1, 0] rfl) hF
abbrev rm6_lays : Room := { frames := 0, cells := 0, slots := 0, locals := 0 }
theorem hdn6_lays : yX6_lays.cls ≠ "java/lang/invoke/MethodHandle" ∧ yX6_lays.cls ≠ "java/lang/invoke/VarHandle" ∧ (parseMethodDescriptor yX6_lays.desc).map (fun d => d.parameters.length) = some 4 := by decide +kernel
set_option maxHeartbeats 4000000 in
set_option maxRecDepth 100000 in
theorem K6_lays (l : Launch) (D : va_G) (cI cZ cS cJ : ClassId) (aG aH nG nH : Nat) (gA : Nat → Int32) (gB : Nat → Int32) (x1 : Int32) (x3 : Int32) (z_gB : Nat → Int32) (hF : f6_lays nG nH gA gB x1 x3 = some (z_gB)) : Met l yX6_lays wsX6_lays rm6_lays (uP D (gT cI cZ cS cJ) (WC cI aG aH nG nH gA gB) [.ref aG, .int x1, .ref aH, .int x3]) (uQ D none (uA (WC cI aG aH nG nH gA gB)) (WC cI aG aH nG nH gA z_gB)) 0 0 (uA (WC cI aG aH nG nH gA gB)) := by
  refine Met.ofW (cc := cX6_lays) (maxL := 5) (ret := none) (by decide) rfl ?_
  intro p e s m args below meth c s₁ B hml hv
  obtain ⟨ha, hK, hP, hD0⟩ := hv
  have hx := B.exec
  have hb := B.bytes
  have hr := B.returns
  have hlocks := B.notSynchronized
  have hts : ∀ w ∈ lw_all, w.before args s = true := fun w h => atoms_spec (ws := wsX6_lays) B.pre w (List.mem_cons_of_mem _ h)
  have hown : s.vm.findClass RX6 = some m.cls := findClass_of_methodNamed B.named
  have S : CallFix p m c cX6_lays 5 s args lw_all RX6 := ⟨hx, hb, hml, hown, hts⟩
  have hD := hD0.own
  generalize uA (WC cI aG aH nG nH gA gB) = A0 at hD ⊢
  have hS : va_S A0 s.heap s.heap [] := va_S.rf
  have hl := lv_entry ([.ref aG, .int x1, .ref aH, .int x3] : List Value) (n := 5) (Nat.le_of_ble_eq_true rfl)
  refine W.eq (g2 := F0 m 0 ((lg_sl ([.ref aG, .int x1, .ref aH, .int x3] : List Value) ++ List.replicate (5 - (lg_sl ([.ref aG, .int x1, .ref aH, .int x3] : List Value)).length) Slot.unset).toArray) []) (by rw [ha]; exact lg_entry_eq _ _ _) ?_
  generalize (lg_sl ([.ref aG, .int x1, .ref aH, .int x3] : List Value) ++ List.replicate (5 - (lg_sl ([.ref aG, .int x1, .ref aH, .int x3] : List Value)).length) Slot.unset).toArray = ls at hl ⊢
  have hl : lv_has ls 5 [(0, .ref aG), (1, .int x1), (2, .ref aH), (3, .int x3)] := hl
  clear ha
  have W_3 : ∀ (x1 : Int32) (x3 : Int32) (n : Nat) (x4 : Int32) (gB : Nat → Int32), ∀ (H : Heap) (locs : List Loc), va_P D vwCl (WC cI aG aH nG nH gA gB) H → va_D A0 (WC cI aG aH nG nH gA gB) → va_S A0 s.heap H locs → ∀ (ls : Array Slot), lv_has ls 5 [(0, .ref aG), (1, .int x1), (2, .ref aH), (3, .int x3), (4, .int x4)] → f6_lays_l3 nG nH gA x1 x3 n x4 gB = some (z_gB) → uW p l e wsX6_lays rm6_lays s m args below meth c D none A0 (WC cI aG aH nG nH gA z_gB) H locs (F0 m 3 ls []) := by
    intro x1 x3  n
    induction n with
    | zero =>
      intro x4 gB H locs hP hD hS ls hl hF
      rw [f6_lays_l3] at hF
      cases hF
    | succ n ih =>
      intro x4 gB H locs hP hD hS ls hl hF
      rw [f6_lays_l3] at hF
      refine lv_iload hx hb dX6_lays_3 (lv_at hl 4 rfl) ?_
      refine lv_sipush hx hb dX6_lays_5 kc_sipush_501 ?_
      refine lv_icmp_ge (tgt := 29) hx hb dX6_lays_8 (by decide) (fun c1 => ?_) (fun c1 => ?_)
      · have hF := ite_t c1 hF
        cases hF
        exact uretv hx hb hr hlocks hP hS dX6_lays_29
      · have hF := ite_f c1 hF
        refine lv_aload_n hx hb dX6_lays_11 rfl (lv_at hl 2 rfl) ?_
        refine lv_iload_n hx hb dX6_lays_12 rfl (lv_at hl 3 rfl) ?_
        refine lv_iload hx hb dX6_lays_13 (lv_at hl 4 rfl) ?_
        refine lv_iadd hx hb dX6_lays_15 ?_
        refine lv_aload_n hx hb dX6_lays_16 rfl (lv_at hl 0 rfl) ?_
        refine lv_iload_n hx hb dX6_lays_17 rfl (lv_at hl 1 rfl) ?_
        refine lv_iload hx hb dX6_lays_18 (lv_at hl 4 rfl) ?_
        refine lv_iadd hx hb dX6_lays_20 ?_
        obtain ⟨g2, hF⟩ := gd_at hF
        refine va_iald hx hb hK.1 hP 0 0 rfl rfl g2 dX6_lays_21 ?_
        obtain ⟨g3, hF⟩ := gd_at hF
        refine va_iast hx hb hK.1 hP hD hS 1 0 rfl rfl g3 dX6_lays_22 (fun H locs hP hD hS => ?_)
        have hP : va_P D vwCl (WC cI aG aH nG nH gA (upd gB (x3 + x4).toNatClampNeg (gA (x1 + x4).toNatClampNeg))) H := hP
        have hD : va_D A0 (WC cI aG aH nG nH gA (upd gB (x3 + x4).toNatClampNeg (gA (x1 + x4).toNatClampNeg))) := hD
        refine lv_iinc (v := (x4 + 1)) (lv' := [(4, .int (x4 + 1)), (0, .ref aG), (1, .int x1), (2, .ref aH), (3, .int x3)]) hx hb dX6_lays_23 hl (k := 4) rfl rfl (by decide) rfl (fun ls hl => ?_)
        refine lv_goto (tgt := 3) hx hb dX6_lays_26 (by decide) ?_
        exact ih (x4 + 1) (upd gB (x3 + x4).toNatClampNeg (gA (x1 + x4).toNatClampNeg)) _ _ hP hD hS ls (lv_sub hl [1, 2, 3, 4, 0] rfl) hF
  rw [f6_lays] at hF
  show uW p l e wsX6_lays rm6_lays s m args below meth c D none A0 (WC cI aG aH nG nH gA z_gB) s.heap [] (F0 m 0 ls [])
  refine lv_iconst hx hb dX6_lays_0 kc_iconst_0 ?_
  refine lv_istore (lv' := [(4, .int (0 : Int32)), (0, .ref aG), (1, .int x1), (2, .ref aH), (3, .int x3)]) hx hb dX6_lays_1 hl (by decide) rfl (fun ls hl => ?_)
  exact W_3 x1 x3  fu (0 : Int32) gB _ _ hP hD hS ls (lv_sub hl [1, 2, 3, 4, 0] rfl) hF
abbrev rm6_thrown : Room := { frames := 0, cells := 0, slots := 0, locals := 0 }
theorem hd6_thrown : yX6_thrown.cls = RX6 ∧ yX6_thrown.cls ≠ "java/lang/invoke/MethodHandle" ∧ yX6_thrown.cls ≠ "java/lang/invoke/VarHandle" ∧ (parseMethodDescriptor yX6_thrown.desc).map (fun d => d.parameters.length) = some 0 := by decide +kernel
set_option maxHeartbeats 4000000 in
set_option maxRecDepth 100000 in
theorem K6_thrown (l : Launch) (D : va_G) (cI cZ cS cJ : ClassId) (aX aN aP aJ aI aT aD : Nat) (ms : Int32) (ml : Int32) (mt : Int32) (mq : Int32) (mu : Int32) (mN : Nat → Int32) (mP : Nat → Int32) (mK : Nat → Int32) (mI : Nat → Int32) (mT : Nat → Int32) (mD : Nat → Int32) (r : Int32) (hF : f6_thrown mt = some (r)) : Met l yX6_thrown wsX6_thrown rm6_thrown (rP D (gT cI cZ cS cJ) (W6 cI aX aN aP aJ aI aT aD ms ml mt mq mu mN mP mK mI mT mD) [.ref aX]) (rQ (.int r)) 0 0 (fun _ => False) := by
  refine Met.ofW (cc := cX6_thrown) (maxL := 1) (ret := (some .int)) (by decide) rfl ?_
  intro p e s m args below meth c s₁ B hml hv
  obtain ⟨ha, hK, hP⟩ := hv
  have hx := B.exec
  have hb := B.bytes
  have hr := B.returns
  have hlocks := B.notSynchronized
  have hts : ∀ w ∈ lw_all, w.before args s = true := fun w h => atoms_spec (ws := wsX6_thrown) B.pre w (List.mem_cons_of_mem _ h)
  have hown : s.vm.findClass RX6 = some m.cls := findClass_of_methodNamed B.named
  have S : CallFix p m c cX6_thrown 1 s args lw_all RX6 := ⟨hx, hb, hml, hown, hts⟩
  have hl := lv_entry ([.ref aX] : List Value) (n := 1) (Nat.le_of_ble_eq_true rfl)
  refine W.eq (g2 := F0 m 0 ((lg_sl ([.ref aX] : List Value) ++ List.replicate (1 - (lg_sl ([.ref aX] : List Value)).length) Slot.unset).toArray) []) (by rw [ha]; exact lg_entry_eq _ _ _) ?_
  generalize (lg_sl ([.ref aX] : List Value) ++ List.replicate (1 - (lg_sl ([.ref aX] : List Value)).length) Slot.unset).toArray = ls at hl ⊢
  have hl : lv_has ls 1 [(0, .ref aX)] := hl
  rw [f6_thrown] at hF
  show rW p l e wsX6_thrown rm6_thrown s m args below meth c (.int r) (F0 m 0 ls [])
  refine lv_aload_n hx hb dX6_thrown_0 rfl (lv_at hl 0 rfl) ?_
  refine va_get (D := D) (ci := 6) (v := .int mt) (C := RX6) (T := TX6) (N := 11) hx hb hts i_X6 hown hK.1 hP 0 rfl rfl 7 (by decide) (hts _ wd_818) (fun _ h9 => h9) rfl dX6_thrown_1 ?_
  exact rret hF hx hb hr hlocks dX6_thrown_4
abbrev rm6_refuses : Room := { frames := 0, cells := 0, slots := 0, locals := 0 }
theorem hd6_refuses : yX6_refuses.cls = RX6 ∧ yX6_refuses.cls ≠ "java/lang/invoke/MethodHandle" ∧ yX6_refuses.cls ≠ "java/lang/invoke/VarHandle" ∧ (parseMethodDescriptor yX6_refuses.desc).map (fun d => d.parameters.length) = some 1 := by decide +kernel
set_option maxHeartbeats 4000000 in
set_option maxRecDepth 100000 in
theorem K6_refuses (l : Launch) (D : va_G) (cI cZ cS cJ : ClassId) (aX aN aP aJ aI aT aD : Nat) (ms : Int32) (ml : Int32) (mt : Int32) (mq : Int32) (mu : Int32) (mN : Nat → Int32) (mP : Nat → Int32) (mK : Nat → Int32) (mI : Nat → Int32) (mT : Nat → Int32) (mD : Nat → Int32) (x1 : Int32) (r : Int32) (z_mt : Int32) (hF : f6_refuses mt x1 = some (r, z_mt)) : Met l yX6_refuses wsX6_refuses rm6_refuses (uP D (gT cI cZ cS cJ) (W6 cI aX aN aP aJ aI aT aD ms ml mt mq mu mN mP mK mI mT mD) [.ref aX, .int x1]) (uQ D (some (.int r)) (uA (W6 cI aX aN aP aJ aI aT aD ms ml mt mq mu mN mP mK mI mT mD)) (W6 cI aX aN aP aJ aI aT aD ms ml z_mt mq mu mN mP mK mI mT mD)) 0 0 (uA (W6 cI aX aN aP aJ aI aT aD ms ml mt mq mu mN mP mK mI mT mD)) := by
  refine Met.ofW (cc := cX6_refuses) (maxL := 2) (ret := (some .int)) (by decide) rfl ?_
  intro p e s m args below meth c s₁ B hml hv
  obtain ⟨ha, hK, hP, hD0⟩ := hv
  have hx := B.exec
  have hb := B.bytes
  have hr := B.returns
  have hlocks := B.notSynchronized
  have hts : ∀ w ∈ lw_all, w.before args s = true := fun w h => atoms_spec (ws := wsX6_refuses) B.pre w (List.mem_cons_of_mem _ h)
  have hown : s.vm.findClass RX6 = some m.cls := findClass_of_methodNamed B.named
  have S : CallFix p m c cX6_refuses 2 s args lw_all RX6 := ⟨hx, hb, hml, hown, hts⟩
  have hD := hD0.own
  generalize uA (W6 cI aX aN aP aJ aI aT aD ms ml mt mq mu mN mP mK mI mT mD) = A0 at hD ⊢
  have hS : va_S A0 s.heap s.heap [] := va_S.rf
  have hl := lv_entry ([.ref aX, .int x1] : List Value) (n := 2) (Nat.le_of_ble_eq_true rfl)
  refine W.eq (g2 := F0 m 0 ((lg_sl ([.ref aX, .int x1] : List Value) ++ List.replicate (2 - (lg_sl ([.ref aX, .int x1] : List Value)).length) Slot.unset).toArray) []) (by rw [ha]; exact lg_entry_eq _ _ _) ?_
  generalize (lg_sl ([.ref aX, .int x1] : List Value) ++ List.replicate (2 - (lg_sl ([.ref aX, .int x1] : List Value)).length) Slot.unset).toArray = ls at hl ⊢
  have hl : lv_has ls 2 [(0, .ref aX), (1, .int x1)] := hl
  rw [f6_refuses] at hF
  show uW p l e wsX6_refuses rm6_refuses s m args below meth c D (some (.int r)) A0 (W6 cI aX aN aP aJ aI aT aD ms ml z_mt mq mu mN mP mK mI mT mD) s.heap [] (F0 m 0 ls [])
  refine lv_aload_n hx hb dX6_refuses_0 rfl (lv_at hl 0 rfl) ?_
  refine lv_iload_n hx hb dX6_refuses_1 rfl (lv_at hl 1 rfl) ?_
  refine va_put (D := D) (ci := 6) (v := .int x1) (ty := .int) (C := RX6) (T := TX6) (N := 11) hx hb hts i_X6 tyX6 tyX6_ok nmX6 hown hK.1 hP hD hS 0 rfl rfl 7 (by decide) (hts _ wd_818) (fun _ h9 => h9) rfl (by decide +kernel) rfl rfl (Nat.le_of_ble_eq_true rfl) dX6_refuses_2 (fun H locs hP hD hS => ?_)
  have hP : va_P D vwCl (W6 cI aX aN aP aJ aI aT aD ms ml x1 mq mu mN mP mK mI mT mD) H := hP
  have hD : va_D A0 (W6 cI aX aN aP aJ aI aT aD ms ml x1 mq mu mN mP mK mI mT mD) := hD
  refine lv_iconst hx hb dX6_refuses_5 kc_iconst_0 ?_
  cases hF
  exact ureti hx hb hr hlocks hP hS dX6_refuses_6
abbrev rm6_saves : Room := { frames := 1, cells := 0, slots := 0, locals := 24 }
theorem hd6_saves : yX6_saves.cls = RX6 ∧ yX6_saves.cls ≠ "java/lang/invoke/MethodHandle" ∧ yX6_saves.cls ≠ "java/lang/invoke/VarHandle" ∧ (parseMethodDescriptor yX6_saves.desc).map (fun d => d.parameters.length) = some 0 := by decide +kernel
set_option maxHeartbeats 4000000 in
set_option maxRecDepth 100000 in
theorem K6_saves (l : Launch) (D : va_G) (cI cZ cS cJ : ClassId) (aX aN aP aJ aI aT aD : Nat) (ms : Int32) (ml : Int32) (mt : Int32) (mq : Int32) (mu : Int32) (mN : Nat → Int32) (mP : Nat → Int32) (mK : Nat → Int32) (mI : Nat → Int32) (mT : Nat → Int32) (mD : Nat → Int32) (z_ms : Int32) (z_mP : Nat → Int32) (hF : f6_saves ms mN mP = some (z_ms, z_mP)) : Met l yX6_saves wsX6_saves rm6_saves (uP D (gT cI cZ cS cJ) (W6 cI aX aN aP aJ aI aT aD ms ml mt mq mu mN mP mK mI mT mD) [.ref aX]) (uQ D none (uA (W6 cI aX aN aP aJ aI aT aD ms ml mt mq mu mN mP mK mI mT mD)) (W6 cI aX aN aP aJ aI aT aD z_ms ml mt mq mu mN z_mP mK mI mT mD)) 0 0 (uA (W6 cI aX aN aP aJ aI aT aD ms ml mt mq mu mN mP mK mI mT mD)) := by
  refine Met.ofW (cc := cX6_saves) (maxL := 2) (ret := none) (by decide) rfl ?_
  intro p e s m args below meth c s₁ B hml hv
  obtain ⟨ha, hK, hP, hD0⟩ := hv
  have hx := B.exec
  have hb := B.bytes
  have hr := B.returns
  have hlocks := B.notSynchronized
  have hts : ∀ w ∈ lw_all, w.before args s = true := fun w h => atoms_spec (ws := wsX6_saves) B.pre w (List.mem_cons_of_mem _ h)
  have hown : s.vm.findClass RX6 = some m.cls := findClass_of_methodNamed B.named
  have S : CallFix p m c cX6_saves 2 s args lw_all RX6 := ⟨hx, hb, hml, hown, hts⟩
  have hD := hD0.own
  generalize uA (W6 cI aX aN aP aJ aI aT aD ms ml mt mq mu mN mP mK mI mT mD) = A0 at hD ⊢
  have hS : va_S A0 s.heap s.heap [] := va_S.rf
  have hl := lv_entry ([.ref aX] : List Value) (n := 2) (Nat.le_of_ble_eq_true rfl)
  refine W.eq (g2 := F0 m 0 ((lg_sl ([.ref aX] : List Value) ++ List.replicate (2 - (lg_sl ([.ref aX] : List Value)).length) Slot.unset).toArray) []) (by rw [ha]; exact lg_entry_eq _ _ _) ?_
  generalize (lg_sl ([.ref aX] : List Value) ++ List.replicate (2 - (lg_sl ([.ref aX] : List Value)).length) Slot.unset).toArray = ls at hl ⊢
  have hl : lv_has ls 2 [(0, .ref aX)] := hl
  clear ha
  have W_50 : ∀ (ms : Int32) (mP : Nat → Int32), ∀ (H : Heap) (locs : List Loc), va_P D vwCl (W6 cI aX aN aP aJ aI aT aD ms ml mt mq mu mN mP mK mI mT mD) H → va_D A0 (W6 cI aX aN aP aJ aI aT aD ms ml mt mq mu mN mP mK mI mT mD) → va_S A0 s.heap H locs → ∀ (ls : Array Slot), lv_has ls 2 [(0, .ref aX)] → f6_saves_j50 ms mN mP = some (z_ms, z_mP) → uW p l e wsX6_saves rm6_saves s m args below meth c D none A0 (W6 cI aX aN aP aJ aI aT aD z_ms ml mt mq mu mN z_mP mK mI mT mD) H locs (F0 m 50 ls []) := by
    intro ms mP  H locs hP hD hS ls hl hF
    rw [f6_saves_j50] at hF
    refine lv_aload_n hx hb dX6_saves_50 rfl (lv_at hl 0 rfl) ?_
    refine va_get (D := D) (ci := 6) (v := .ref aN) (C := RX6) (T := TX6) (N := 11) hx hb hts i_X6 hown hK.1 hP 0 rfl rfl 0 (by decide) (hts _ wd_811) (fun _ h9 => h9) rfl dX6_saves_51 ?_
    refine lv_iconst hx hb dX6_saves_54 kc_iconst_0 ?_
    refine lv_aload_n hx hb dX6_saves_55 rfl (lv_at hl 0 rfl) ?_
    refine va_get (D := D) (ci := 6) (v := .ref aP) (C := RX6) (T := TX6) (N := 11) hx hb hts i_X6 hown hK.1 hP 0 rfl rfl 1 (by decide) (hts _ wd_812) (fun _ h9 => h9) rfl dX6_saves_56 ?_
    refine lv_sipush hx hb dX6_saves_59 kc_sipush_501 ?_
    refine lv_aload_n hx hb dX6_saves_62 rfl (lv_at hl 0 rfl) ?_
    refine va_get (D := D) (ci := 6) (v := .int ms) (C := RX6) (T := TX6) (N := 11) hx hb hts i_X6 hown hK.1 hP 0 rfl rfl 2 (by decide) (hts _ wd_813) (fun _ h9 => h9) rfl dX6_saves_63 ?_
    refine lv_imul hx hb dX6_saves_66 ?_
    obtain ⟨u3, h2, hF⟩ := bd1_at hF
    refine ucallv (ws' := (W6 cI aX aN aP aJ aI aT aD ms ml mt mq mu mN u3 mK mI mT mD)) (va_runS (As := [.ref aN, .int (0 : Int32), .ref aP, .int ((501 : Int32) * ms)]) (rest := []) S (K6_lays l D cI cZ cS cJ aN aP 501 3006 mN mP (0 : Int32) ((501 : Int32) * ms) u3 h2) (va_cwS 4 hts (gd_S wd_864 wd_865 wd_67 wd_866) rfl rfl rfl hdn6_lays ⟨Nat.le_of_ble_eq_true rfl, Nat.le_of_ble_eq_true rfl⟩) (uPreS hK (hP.sub (ws' := (WC cI aN aP 501 3006 mN mP)) [1, 2] rfl) (hD.sub (ws' := (WC cI aN aP 501 3006 mN mP)) [1, 2] (by decide) rfl)) rfl rfl hl.1 rfl (lv_room (Nat.le_of_ble_eq_true rfl)) dX6_saves_67 ⟨(Nat.zero_le _), (Nat.zero_le _)⟩) hS hP hD [1, 2] rfl rfl rfl rfl (fun H locs hP hD hS => ?_)
    refine lv_aload_n hx hb dX6_saves_70 rfl (lv_at hl 0 rfl) ?_
    refine lv_dup hx hb dX6_saves_71 rfl ?_
    refine va_get (D := D) (ci := 6) (v := .int ms) (C := RX6) (T := TX6) (N := 11) hx hb hts i_X6 hown hK.1 hP 0 rfl rfl 2 (by decide) (hts _ wd_813) (fun _ h9 => h9) rfl dX6_saves_72 ?_
    refine lv_iconst hx hb dX6_saves_75 kc_iconst_1 ?_
    refine lv_iadd hx hb dX6_saves_76 ?_
    refine va_put (D := D) (ci := 6) (v := .int (ms + (1 : Int32))) (ty := .int) (C := RX6) (T := TX6) (N := 11) hx hb hts i_X6 tyX6 tyX6_ok nmX6 hown hK.1 hP hD hS 0 rfl rfl 2 (by decide) (hts _ wd_813) (fun _ h9 => h9) rfl (by decide +kernel) rfl rfl (Nat.le_of_ble_eq_true rfl) dX6_saves_77 (fun H locs hP hD hS => ?_)
    have hP : va_P D vwCl (W6 cI aX aN aP aJ aI aT aD (ms + (1 : Int32)) ml mt mq mu mN u3 mK mI mT mD) H := hP
    have hD : va_D A0 (W6 cI aX aN aP aJ aI aT aD (ms + (1 : Int32)) ml mt mq mu mN u3 mK mI mT mD) := hD
    cases hF
    exact uretv hx hb hr hlocks hP hS dX6_saves_80
  have W_11 : ∀  (n : Nat) (x1 : Int32) (ms : Int32) (mP : Nat → Int32), ∀ (H : Heap) (locs : List Loc), va_P D vwCl (W6 cI aX aN aP aJ aI aT aD ms ml mt mq mu mN mP mK mI mT mD) H → va_D A0 (W6 cI aX aN aP aJ aI aT aD ms ml mt mq mu mN mP mK mI mT mD) → va_S A0 s.heap H locs → ∀ (ls : Array Slot), lv_has ls 2 [(0, .ref aX), (1, .int x1)] → f6_saves_l11 mN n x1 ms mP = some (z_ms, z_mP) → uW p l e wsX6_saves rm6_saves s m args below meth c D none A0 (W6 cI aX aN aP aJ aI aT aD z_ms ml mt mq mu mN z_mP mK mI mT mD) H locs (F0 m 11 ls []) := by
    intro   n
    induction n with
    | zero =>
      intro x1 ms mP H locs hP hD hS ls hl hF
      rw [f6_saves_l11] at hF
      cases hF
    | succ n ih =>
      intro x1 ms mP H locs hP hD hS ls hl hF
      rw [f6_saves_l11] at hF
      refine lv_iload_n hx hb dX6_saves_11 rfl (lv_at hl 1 rfl) ?_
      refine lv_sipush hx hb dX6_saves_12 kc_sipush_2505 ?_
      refine lv_icmp_ge (tgt := 40) hx hb dX6_saves_15 (by decide) (fun c4 => ?_) (fun c4 => ?_)
      · have hF := ite_t c4 hF
        refine lv_aload_n hx hb dX6_saves_40 rfl (lv_at hl 0 rfl) ?_
        refine lv_dup hx hb dX6_saves_41 rfl ?_
        refine va_get (D := D) (ci := 6) (v := .int ms) (C := RX6) (T := TX6) (N := 11) hx hb hts i_X6 hown hK.1 hP 0 rfl rfl 2 (by decide) (hts _ wd_813) (fun _ h9 => h9) rfl dX6_saves_42 ?_
        refine lv_iconst hx hb dX6_saves_45 kc_iconst_1 ?_
        refine lv_isub hx hb dX6_saves_46 ?_
        refine va_put (D := D) (ci := 6) (v := .int (ms - (1 : Int32))) (ty := .int) (C := RX6) (T := TX6) (N := 11) hx hb hts i_X6 tyX6 tyX6_ok nmX6 hown hK.1 hP hD hS 0 rfl rfl 2 (by decide) (hts _ wd_813) (fun _ h9 => h9) rfl (by decide +kernel) rfl rfl (Nat.le_of_ble_eq_true rfl) dX6_saves_47 (fun H locs hP hD hS => ?_)
        have hP : va_P D vwCl (W6 cI aX aN aP aJ aI aT aD (ms - (1 : Int32)) ml mt mq mu mN mP mK mI mT mD) H := hP
        have hD : va_D A0 (W6 cI aX aN aP aJ aI aT aD (ms - (1 : Int32)) ml mt mq mu mN mP mK mI mT mD) := hD
        exact W_50 (ms - (1 : Int32)) mP  _ _ hP hD hS ls (lv_sub hl [0] rfl) hF
      · have hF := ite_f c4 hF
        refine lv_aload_n hx hb dX6_saves_18 rfl (lv_at hl 0 rfl) ?_
        refine va_get (D := D) (ci := 6) (v := .ref aP) (C := RX6) (T := TX6) (N := 11) hx hb hts i_X6 hown hK.1 hP 0 rfl rfl 1 (by decide) (hts _ wd_812) (fun _ h9 => h9) rfl dX6_saves_19 ?_
        refine lv_iload_n hx hb dX6_saves_22 rfl (lv_at hl 1 rfl) ?_
        refine lv_aload_n hx hb dX6_saves_23 rfl (lv_at hl 0 rfl) ?_
        refine va_get (D := D) (ci := 6) (v := .ref aP) (C := RX6) (T := TX6) (N := 11) hx hb hts i_X6 hown hK.1 hP 0 rfl rfl 1 (by decide) (hts _ wd_812) (fun _ h9 => h9) rfl dX6_saves_24 ?_
        refine lv_iload_n hx hb dX6_saves_27 rfl (lv_at hl 1 rfl) ?_
        refine lv_sipush hx hb dX6_saves_28 kc_sipush_501 ?_
        refine lv_iadd hx hb dX6_saves_31 ?_
        obtain ⟨g5, hF⟩ := gd_at hF
        refine va_iald hx hb hK.1 hP 2 0 rfl rfl g5 dX6_saves_32 ?_
        obtain ⟨g6, hF⟩ := gd_at hF
        refine va_iast hx hb hK.1 hP hD hS 2 0 rfl rfl g6 dX6_saves_33 (fun H locs hP hD hS => ?_)
        have hP : va_P D vwCl (W6 cI aX aN aP aJ aI aT aD ms ml mt mq mu mN (upd mP x1.toNatClampNeg (mP (x1 + (501 : Int32)).toNatClampNeg)) mK mI mT mD) H := hP
        have hD : va_D A0 (W6 cI aX aN aP aJ aI aT aD ms ml mt mq mu mN (upd mP x1.toNatClampNeg (mP (x1 + (501 : Int32)).toNatClampNeg)) mK mI mT mD) := hD
        refine lv_iinc (v := (x1 + 1)) (lv' := [(1, .int (x1 + 1)), (0, .ref aX)]) hx hb dX6_saves_34 hl (k := 1) rfl rfl (by decide) rfl (fun ls hl => ?_)
        refine lv_goto (tgt := 11) hx hb dX6_saves_37 (by decide) ?_
        exact ih (x1 + 1) ms (upd mP x1.toNatClampNeg (mP (x1 + (501 : Int32)).toNatClampNeg)) _ _ hP hD hS ls (lv_sub hl [1, 0] rfl) hF
  rw [f6_saves] at hF
  show uW p l e wsX6_saves rm6_saves s m args below meth c D none A0 (W6 cI aX aN aP aJ aI aT aD z_ms ml mt mq mu mN z_mP mK mI mT mD) s.heap [] (F0 m 0 ls [])
  refine lv_aload_n hx hb dX6_saves_0 rfl (lv_at hl 0 rfl) ?_
  refine va_get (D := D) (ci := 6) (v := .int ms) (C := RX6) (T := TX6) (N := 11) hx hb hts i_X6 hown hK.1 hP 0 rfl rfl 2 (by decide) (hts _ wd_813) (fun _ h9 => h9) rfl dX6_saves_1 ?_
  refine lv_bipush hx hb dX6_saves_4 kc_bipush_6 ?_
  refine lv_icmp_ne (tgt := 50) hx hb dX6_saves_6 (by decide) (fun c1 => ?_) (fun c1 => ?_)
  · have hF := ite_f c1 hF
    exact W_50 ms mP  _ _ hP hD hS ls (lv_sub hl [0] rfl) hF
  · have hF := ite_t c1 hF
    refine lv_iconst hx hb dX6_saves_9 kc_iconst_0 ?_
    refine lv_istore_n (lv' := [(1, .int (0 : Int32)), (0, .ref aX)]) hx hb dX6_saves_10 rfl hl (by decide) rfl (fun ls hl => ?_)
    exact W_11   fu (0 : Int32) ms mP _ _ hP hD hS ls (lv_sub hl [1, 0] rfl) hF
abbrev rm6_letterOf : Room := { frames := 1, cells := 0, slots := 0, locals := 23 }
theorem hd6_letterOf : yX6_letterOf.cls = RX6 ∧ yX6_letterOf.cls ≠ "java/lang/invoke/MethodHandle" ∧ yX6_letterOf.cls ≠ "java/lang/invoke/VarHandle" ∧ (parseMethodDescriptor yX6_letterOf.desc).map (fun d => d.parameters.length) = some 1 := by decide +kernel
set_option maxHeartbeats 4000000 in
set_option maxRecDepth 100000 in
theorem K6_letterOf (l : Launch) (D : va_G) (cI cZ cS cJ : ClassId) (aX aN aP aJ aI aT aD : Nat) (ms : Int32) (ml : Int32) (mt : Int32) (mq : Int32) (mu : Int32) (mN : Nat → Int32) (mP : Nat → Int32) (mK : Nat → Int32) (mI : Nat → Int32) (mT : Nat → Int32) (mD : Nat → Int32) (x1 : Int32) (r : Int32) (hF : f6_letterOf mN x1 = some (r)) : Met l yX6_letterOf wsX6_letterOf rm6_letterOf (rP D (gT cI cZ cS cJ) (W6 cI aX aN aP aJ aI aT aD ms ml mt mq mu mN mP mK mI mT mD) [.ref aX, .int x1]) (rQ (.int r)) 0 0 (fun _ => False) := by
  refine Met.ofW (cc := cX6_letterOf) (maxL := 4) (ret := (some .int)) (by decide) rfl ?_
  intro p e s m args below meth c s₁ B hml hv
  obtain ⟨ha, hK, hP⟩ := hv
  have hx := B.exec
  have hb := B.bytes
  have hr := B.returns
  have hlocks := B.notSynchronized
  have hts : ∀ w ∈ lw_all, w.before args s = true := fun w h => atoms_spec (ws := wsX6_letterOf) B.pre w (List.mem_cons_of_mem _ h)
  have hown : s.vm.findClass RX6 = some m.cls := findClass_of_methodNamed B.named
  have S : CallFix p m c cX6_letterOf 4 s args lw_all RX6 := ⟨hx, hb, hml, hown, hts⟩
  have hl := lv_entry ([.ref aX, .int x1] : List Value) (n := 4) (Nat.le_of_ble_eq_true rfl)
  refine W.eq (g2 := F0 m 0 ((lg_sl ([.ref aX, .int x1] : List Value) ++ List.replicate (4 - (lg_sl ([.ref aX, .int x1] : List Value)).length) Slot.unset).toArray) []) (by rw [ha]; exact lg_entry_eq _ _ _) ?_
  generalize (lg_sl ([.ref aX, .int x1] : List Value) ++ List.replicate (4 - (lg_sl ([.ref aX, .int x1] : List Value)).length) Slot.unset).toArray = ls at hl ⊢
  have hl : lv_has ls 4 [(0, .ref aX), (1, .int x1)] := hl
  clear ha
  have W_4 : ∀ (x1 : Int32) (n : Nat) (x2 : Int32) (x3 : Int32), ∀ (ls : Array Slot), lv_has ls 4 [(0, .ref aX), (1, .int x1), (2, .int x2), (3, .int x3)] → f6_letterOf_l4 mN x1 n x2 x3 = some (r) → rW p l e wsX6_letterOf rm6_letterOf s m args below meth c (.int r) (F0 m 4 ls []) := by
    intro x1  n
    induction n with
    | zero =>
      intro x2 x3 ls hl hF
      rw [f6_letterOf_l4] at hF
      cases hF
    | succ n ih =>
      intro x2 x3 ls hl hF
      rw [f6_letterOf_l4] at hF
      refine lv_iload_n hx hb dX6_letterOf_4 rfl (lv_at hl 3 rfl) ?_
      refine lv_bipush hx hb dX6_letterOf_5 kc_bipush_6 ?_
      refine lv_icmp_ge (tgt := 33) hx hb dX6_letterOf_7 (by decide) (fun c1 => ?_) (fun c1 => ?_)
      · have hF := ite_t c1 hF
        refine lv_iload_n hx hb dX6_letterOf_33 rfl (lv_at hl 2 rfl) ?_
        refine lv_aload_n hx hb dX6_letterOf_34 rfl (lv_at hl 0 rfl) ?_
        refine va_get (D := D) (ci := 6) (v := .ref aN) (C := RX6) (T := TX6) (N := 11) hx hb hts i_X6 hown hK.1 hP 0 rfl rfl 0 (by decide) (hts _ wd_811) (fun _ h9 => h9) rfl dX6_letterOf_35 ?_
        refine lv_iconst hx hb dX6_letterOf_38 kc_iconst_1 ?_
        refine va_iald hx hb hK.1 hP 1 0 rfl rfl (inb_lit (by decide)) dX6_letterOf_39 ?_
        obtain ⟨g2, hF⟩ := gd_at hF
        refine lv_irem hx hb dX6_letterOf_40 g2 ?_
        exact rret hF hx hb hr hlocks dX6_letterOf_41
      · have hF := ite_f c1 hF
        refine lv_iload_n hx hb dX6_letterOf_10 rfl (lv_at hl 2 rfl) ?_
        refine lv_aload_n hx hb dX6_letterOf_11 rfl (lv_at hl 0 rfl) ?_
        refine va_get (D := D) (ci := 6) (v := .ref aN) (C := RX6) (T := TX6) (N := 11) hx hb hts i_X6 hown hK.1 hP 0 rfl rfl 0 (by decide) (hts _ wd_811) (fun _ h9 => h9) rfl dX6_letterOf_12 ?_
        refine lv_iconst hx hb dX6_letterOf_15 kc_iconst_3 ?_
        refine lv_iload_n hx hb dX6_letterOf_16 rfl (lv_at hl 3 rfl) ?_
        refine lv_iadd hx hb dX6_letterOf_17 ?_
        obtain ⟨g3, hF⟩ := gd_at hF
        refine va_iald hx hb hK.1 hP 1 0 rfl rfl g3 dX6_letterOf_18 ?_
        refine lv_iload_n hx hb dX6_letterOf_19 rfl (lv_at hl 1 rfl) ?_
        refine lv_iload_n hx hb dX6_letterOf_20 rfl (lv_at hl 3 rfl) ?_
        obtain ⟨q5, h4, hF⟩ := bd1_at hF
        refine rcall (va_runS (As := [.int x1, .int x3]) (rest := [.int (mN ((3 : Int32) + x3).toNatClampNeg), .int x2]) S (K6_digit l D cI cZ cS cJ x1 x3 q5 h4) (va_cwS 2 hts (gd_S wd_915 wd_916 wd_67 wd_917) rfl rfl rfl hdn6_digit ⟨Nat.le_of_ble_eq_true rfl, Nat.le_of_ble_eq_true rfl⟩) (rPreS hK (hP.sub (ws' := ([] : va_W)) [] rfl)) rfl rfl hl.1 rfl (lv_room (Nat.le_of_ble_eq_true rfl)) dX6_letterOf_21 ⟨(Nat.zero_le _), (Nat.zero_le _)⟩) ?_
        refine lv_imul hx hb dX6_letterOf_24 ?_
        refine lv_iadd hx hb dX6_letterOf_25 ?_
        refine lv_topi (fun t6 e7 => ?_)
        have hF := lt_at e7 hF
        refine lv_istore_n (lv' := [(2, .int t6), (0, .ref aX), (1, .int x1), (3, .int x3)]) hx hb dX6_letterOf_26 rfl hl (by decide) rfl (fun ls hl => ?_)
        refine lv_iinc (v := (x3 + 1)) (lv' := [(3, .int (x3 + 1)), (2, .int t6), (0, .ref aX), (1, .int x1)]) hx hb dX6_letterOf_27 hl (k := 3) rfl rfl (by decide) rfl (fun ls hl => ?_)
        refine lv_goto (tgt := 4) hx hb dX6_letterOf_30 (by decide) ?_
        exact ih t6 (x3 + 1) ls (lv_sub hl [2, 3, 1, 0] rfl) hF
  rw [f6_letterOf] at hF
  show rW p l e wsX6_letterOf rm6_letterOf s m args below meth c (.int r) (F0 m 0 ls [])
  refine lv_iconst hx hb dX6_letterOf_0 kc_iconst_0 ?_
  refine lv_istore_n (lv' := [(2, .int (0 : Int32)), (0, .ref aX), (1, .int x1)]) hx hb dX6_letterOf_1 rfl hl (by decide) rfl (fun ls hl => ?_)
  refine lv_iconst hx hb dX6_letterOf_2 kc_iconst_0 ?_
  refine lv_istore_n (lv' := [(3, .int (0 : Int32)), (2, .int (0 : Int32)), (0, .ref aX), (1, .int x1)]) hx hb dX6_letterOf_3 rfl hl (by decide) rfl (fun ls hl => ?_)
  exact W_4 x1  fu (0 : Int32) (0 : Int32) ls (lv_sub hl [2, 3, 1, 0] rfl) hF
abbrev rm6_firstOf : Room := { frames := 0, cells := 0, slots := 0, locals := 0 }
theorem hd6_firstOf : yX6_firstOf.cls = RX6 ∧ yX6_firstOf.cls ≠ "java/lang/invoke/MethodHandle" ∧ yX6_firstOf.cls ≠ "java/lang/invoke/VarHandle" ∧ (parseMethodDescriptor yX6_firstOf.desc).map (fun d => d.parameters.length) = some 1 := by decide +kernel
set_option maxHeartbeats 4000000 in
set_option maxRecDepth 100000 in
theorem K6_firstOf (l : Launch) (D : va_G) (cI cZ cS cJ : ClassId) (aX aN aP aJ aI aT aD : Nat) (ms : Int32) (ml : Int32) (mt : Int32) (mq : Int32) (mu : Int32) (mN : Nat → Int32) (mP : Nat → Int32) (mK : Nat → Int32) (mI : Nat → Int32) (mT : Nat → Int32) (mD : Nat → Int32) (x1 : Int32) (r : Int32) (hF : f6_firstOf mN x1 = some (r)) : Met l yX6_firstOf wsX6_firstOf rm6_firstOf (rP D (gT cI cZ cS cJ) (W6 cI aX aN aP aJ aI aT aD ms ml mt mq mu mN mP mK mI mT mD) [.ref aX, .int x1]) (rQ (.int r)) 0 0 (fun _ => False) := by
  refine Met.ofW (cc := cX6_firstOf) (maxL := 2) (ret := (some .int)) (by decide) rfl ?_
  intro p e s m args below meth c s₁ B hml hv
  obtain ⟨ha, hK, hP⟩ := hv
  have hx := B.exec
  have hb := B.bytes
  have hr := B.returns
  have hlocks := B.notSynchronized
  have hts : ∀ w ∈ lw_all, w.before args s = true := fun w h => atoms_spec (ws := wsX6_firstOf) B.pre w (List.mem_cons_of_mem _ h)
  have hown : s.vm.findClass RX6 = some m.cls := findClass_of_methodNamed B.named
  have S : CallFix p m c cX6_firstOf 2 s args lw_all RX6 := ⟨hx, hb, hml, hown, hts⟩
  have hl := lv_entry ([.ref aX, .int x1] : List Value) (n := 2) (Nat.le_of_ble_eq_true rfl)
  refine W.eq (g2 := F0 m 0 ((lg_sl ([.ref aX, .int x1] : List Value) ++ List.replicate (2 - (lg_sl ([.ref aX, .int x1] : List Value)).length) Slot.unset).toArray) []) (by rw [ha]; exact lg_entry_eq _ _ _) ?_
  generalize (lg_sl ([.ref aX, .int x1] : List Value) ++ List.replicate (2 - (lg_sl ([.ref aX, .int x1] : List Value)).length) Slot.unset).toArray = ls at hl ⊢
  have hl : lv_has ls 2 [(0, .ref aX), (1, .int x1)] := hl
  rw [f6_firstOf] at hF
  show rW p l e wsX6_firstOf rm6_firstOf s m args below meth c (.int r) (F0 m 0 ls [])
  refine lv_aload_n hx hb dX6_firstOf_0 rfl (lv_at hl 0 rfl) ?_
  refine va_get (D := D) (ci := 6) (v := .ref aN) (C := RX6) (T := TX6) (N := 11) hx hb hts i_X6 hown hK.1 hP 0 rfl rfl 0 (by decide) (hts _ wd_811) (fun _ h9 => h9) rfl dX6_firstOf_1 ?_
  refine lv_bipush hx hb dX6_firstOf_4 kc_bipush_9 ?_
  refine lv_iconst hx hb dX6_firstOf_6 kc_iconst_2 ?_
  refine lv_iload_n hx hb dX6_firstOf_7 rfl (lv_at hl 1 rfl) ?_
  refine lv_imul hx hb dX6_firstOf_8 ?_
  refine lv_iadd hx hb dX6_firstOf_9 ?_
  obtain ⟨g1, hF⟩ := gd_at hF
  refine va_iald hx hb hK.1 hP 1 0 rfl rfl g1 dX6_firstOf_10 ?_
  exact rret hF hx hb hr hlocks dX6_firstOf_11
abbrev rm6_countOf : Room := { frames := 0, cells := 0, slots := 0, locals := 0 }
theorem hd6_countOf : yX6_countOf.cls = RX6 ∧ yX6_countOf.cls ≠ "java/lang/invoke/MethodHandle" ∧ yX6_countOf.cls ≠ "java/lang/invoke/VarHandle" ∧ (parseMethodDescriptor yX6_countOf.desc).map (fun d => d.parameters.length) = some 1 := by decide +kernel
set_option maxHeartbeats 4000000 in
set_option maxRecDepth 100000 in
theorem K6_countOf (l : Launch) (D : va_G) (cI cZ cS cJ : ClassId) (aX aN aP aJ aI aT aD : Nat) (ms : Int32) (ml : Int32) (mt : Int32) (mq : Int32) (mu : Int32) (mN : Nat → Int32) (mP : Nat → Int32) (mK : Nat → Int32) (mI : Nat → Int32) (mT : Nat → Int32) (mD : Nat → Int32) (x1 : Int32) (r : Int32) (hF : f6_countOf mN x1 = some (r)) : Met l yX6_countOf wsX6_countOf rm6_countOf (rP D (gT cI cZ cS cJ) (W6 cI aX aN aP aJ aI aT aD ms ml mt mq mu mN mP mK mI mT mD) [.ref aX, .int x1]) (rQ (.int r)) 0 0 (fun _ => False) := by
  refine Met.ofW (cc := cX6_countOf) (maxL := 2) (ret := (some .int)) (by decide) rfl ?_
  intro p e s m args below meth c s₁ B hml hv
  obtain ⟨ha, hK, hP⟩ := hv
  have hx := B.exec
  have hb := B.bytes
  have hr := B.returns
  have hlocks := B.notSynchronized
  have hts : ∀ w ∈ lw_all, w.before args s = true := fun w h => atoms_spec (ws := wsX6_countOf) B.pre w (List.mem_cons_of_mem _ h)
  have hown : s.vm.findClass RX6 = some m.cls := findClass_of_methodNamed B.named
  have S : CallFix p m c cX6_countOf 2 s args lw_all RX6 := ⟨hx, hb, hml, hown, hts⟩
  have hl := lv_entry ([.ref aX, .int x1] : List Value) (n := 2) (Nat.le_of_ble_eq_true rfl)
  refine W.eq (g2 := F0 m 0 ((lg_sl ([.ref aX, .int x1] : List Value) ++ List.replicate (2 - (lg_sl ([.ref aX, .int x1] : List Value)).length) Slot.unset).toArray) []) (by rw [ha]; exact lg_entry_eq _ _ _) ?_
  generalize (lg_sl ([.ref aX, .int x1] : List Value) ++ List.replicate (2 - (lg_sl ([.ref aX, .int x1] : List Value)).length) Slot.unset).toArray = ls at hl ⊢
  have hl : lv_has ls 2 [(0, .ref aX), (1, .int x1)] := hl
  rw [f6_countOf] at hF
  show rW p l e wsX6_countOf rm6_countOf s m args below meth c (.int r) (F0 m 0 ls [])
  refine lv_aload_n hx hb dX6_countOf_0 rfl (lv_at hl 0 rfl) ?_
  refine va_get (D := D) (ci := 6) (v := .ref aN) (C := RX6) (T := TX6) (N := 11) hx hb hts i_X6 hown hK.1 hP 0 rfl rfl 0 (by decide) (hts _ wd_811) (fun _ h9 => h9) rfl dX6_countOf_1 ?_
  refine lv_bipush hx hb dX6_countOf_4 kc_bipush_9 ?_
  refine lv_iconst hx hb dX6_countOf_6 kc_iconst_2 ?_
  refine lv_iload_n hx hb dX6_countOf_7 rfl (lv_at hl 1 rfl) ?_
  refine lv_imul hx hb dX6_countOf_8 ?_
  refine lv_iadd hx hb dX6_countOf_9 ?_
  refine lv_iconst hx hb dX6_countOf_10 kc_iconst_1 ?_
  refine lv_iadd hx hb dX6_countOf_11 ?_
  obtain ⟨g1, hF⟩ := gd_at hF
  refine va_iald hx hb hK.1 hP 1 0 rfl rfl g1 dX6_countOf_12 ?_
  exact rret hF hx hb hr hlocks dX6_countOf_13
abbrev rm6_spotOf : Room := { frames := 1, cells := 0, slots := 0, locals := 22 }
theorem hd6_spotOf : yX6_spotOf.cls = RX6 ∧ yX6_spotOf.cls ≠ "java/lang/invoke/MethodHandle" ∧ yX6_spotOf.cls ≠ "java/lang/invoke/VarHandle" ∧ (parseMethodDescriptor yX6_spotOf.desc).map (fun d => d.parameters.length) = some 1 := by decide +kernel
set_option maxHeartbeats 4000000 in
set_option maxRecDepth 100000 in
theorem K6_spotOf (l : Launch) (D : va_G) (cI cZ cS cJ : ClassId) (aX aN aP aJ aI aT aD : Nat) (ms : Int32) (ml : Int32) (mt : Int32) (mq : Int32) (mu : Int32) (mN : Nat → Int32) (mP : Nat → Int32) (mK : Nat → Int32) (mI : Nat → Int32) (mT : Nat → Int32) (mD : Nat → Int32) (x1 : Int32) (r : Int32) (hF : f6_spotOf mN x1 = some (r)) : Met l yX6_spotOf wsX6_spotOf rm6_spotOf (rP D (gT cI cZ cS cJ) (W6 cI aX aN aP aJ aI aT aD ms ml mt mq mu mN mP mK mI mT mD) [.ref aX, .int x1]) (rQ (.int r)) 0 0 (fun _ => False) := by
  refine Met.ofW (cc := cX6_spotOf) (maxL := 5) (ret := (some .int)) (by decide) rfl ?_
  intro p e s m args below meth c s₁ B hml hv
  obtain ⟨ha, hK, hP⟩ := hv
  have hx := B.exec
  have hb := B.bytes
  have hr := B.returns
  have hlocks := B.notSynchronized
  have hts : ∀ w ∈ lw_all, w.before args s = true := fun w h => atoms_spec (ws := wsX6_spotOf) B.pre w (List.mem_cons_of_mem _ h)
  have hown : s.vm.findClass RX6 = some m.cls := findClass_of_methodNamed B.named
  have S : CallFix p m c cX6_spotOf 5 s args lw_all RX6 := ⟨hx, hb, hml, hown, hts⟩
  have hl := lv_entry ([.ref aX, .int x1] : List Value) (n := 5) (Nat.le_of_ble_eq_true rfl)
  refine W.eq (g2 := F0 m 0 ((lg_sl ([.ref aX, .int x1] : List Value) ++ List.replicate (5 - (lg_sl ([.ref aX, .int x1] : List Value)).length) Slot.unset).toArray) []) (by rw [ha]; exact lg_entry_eq _ _ _) ?_
  generalize (lg_sl ([.ref aX, .int x1] : List Value) ++ List.replicate (5 - (lg_sl ([.ref aX, .int x1] : List Value)).length) Slot.unset).toArray = ls at hl ⊢
  have hl : lv_has ls 5 [(0, .ref aX), (1, .int x1)] := hl
  clear ha
  have W_4 : ∀ (x1 : Int32) (n : Nat) (x2 : Int32) (x3 : Int32), ∀ (ls : Array Slot), lv_has ls 5 [(0, .ref aX), (1, .int x1), (2, .int x2), (3, .int x3)] → f6_spotOf_l4 mN x1 n x2 x3 = some (r) → rW p l e wsX6_spotOf rm6_spotOf s m args below meth c (.int r) (F0 m 4 ls []) := by
    intro x1  n
    induction n with
    | zero =>
      intro x2 x3 ls hl hF
      rw [f6_spotOf_l4] at hF
      cases hF
    | succ n ih =>
      intro x2 x3 ls hl hF
      rw [f6_spotOf_l4] at hF
      refine lv_iload_n hx hb dX6_spotOf_4 rfl (lv_at hl 3 rfl) ?_
      refine lv_aload_n hx hb dX6_spotOf_5 rfl (lv_at hl 0 rfl) ?_
      refine va_get (D := D) (ci := 6) (v := .ref aN) (C := RX6) (T := TX6) (N := 11) hx hb hts i_X6 hown hK.1 hP 0 rfl rfl 0 (by decide) (hts _ wd_811) (fun _ h9 => h9) rfl dX6_spotOf_6 ?_
      refine lv_iconst hx hb dX6_spotOf_9 kc_iconst_0 ?_
      refine va_iald hx hb hK.1 hP 1 0 rfl rfl (inb_lit (by decide)) dX6_spotOf_10 ?_
      refine lv_icmp_ge (tgt := 66) hx hb dX6_spotOf_11 (by decide) (fun c1 => ?_) (fun c1 => ?_)
      · have hF := ite_t c1 hF
        refine lv_iload_n hx hb dX6_spotOf_66 rfl (lv_at hl 2 rfl) ?_
        exact rret hF hx hb hr hlocks dX6_spotOf_67
      · have hF := ite_f c1 hF
        refine lv_iload_n hx hb dX6_spotOf_14 rfl (lv_at hl 1 rfl) ?_
        refine lv_aload_n hx hb dX6_spotOf_15 rfl (lv_at hl 0 rfl) ?_
        refine lv_iload_n hx hb dX6_spotOf_16 rfl (lv_at hl 3 rfl) ?_
        obtain ⟨q3, h2, hF⟩ := bd1_at hF
        refine rcall (va_runV (As := [.int x3]) (rest := [.int x1]) S (K6_firstOf l D cI cZ cS cJ aX aN aP aJ aI aT aD ms ml mt mq mu mN mP mK mI mT mD x3 q3 h2) (cwV 1 hts (gd_V wd_887 wd_889 wd_25 wd_67 wd_890) rfl rfl rfl hd6_firstOf ⟨Nat.le_of_ble_eq_true rfl, Nat.le_of_ble_eq_true rfl⟩) (rPreV hK hP (ci := 6) (q := (RX6, TX6, 11)) rfl rfl) rfl rfl hl.1 rfl (lv_room (Nat.le_of_ble_eq_true rfl)) dX6_spotOf_17 ⟨(Nat.zero_le _), (Nat.zero_le _)⟩) ?_
        refine lv_aload_n hx hb dX6_spotOf_20 rfl (lv_at hl 0 rfl) ?_
        refine lv_iload_n hx hb dX6_spotOf_21 rfl (lv_at hl 3 rfl) ?_
        obtain ⟨q5, h4, hF⟩ := bd1_at hF
        refine rcall (va_runV (As := [.int x3]) (rest := [.int q3, .int x1]) S (K6_firstOf l D cI cZ cS cJ aX aN aP aJ aI aT aD ms ml mt mq mu mN mP mK mI mT mD x3 q5 h4) (cwV 1 hts (gd_V wd_887 wd_889 wd_25 wd_67 wd_890) rfl rfl rfl hd6_firstOf ⟨Nat.le_of_ble_eq_true rfl, Nat.le_of_ble_eq_true rfl⟩) (rPreV hK hP (ci := 6) (q := (RX6, TX6, 11)) rfl rfl) rfl rfl hl.1 rfl (lv_room (Nat.le_of_ble_eq_true rfl)) dX6_spotOf_22 ⟨(Nat.zero_le _), (Nat.zero_le _)⟩) ?_
        refine lv_aload_n hx hb dX6_spotOf_25 rfl (lv_at hl 0 rfl) ?_
        refine lv_iload_n hx hb dX6_spotOf_26 rfl (lv_at hl 3 rfl) ?_
        obtain ⟨q7, h6, hF⟩ := bd1_at hF
        refine rcall (va_runV (As := [.int x3]) (rest := [.int q5, .int q3, .int x1]) S (K6_countOf l D cI cZ cS cJ aX aN aP aJ aI aT aD ms ml mt mq mu mN mP mK mI mT mD x3 q7 h6) (cwV 1 hts (gd_V wd_891 wd_893 wd_26 wd_67 wd_894) rfl rfl rfl hd6_countOf ⟨Nat.le_of_ble_eq_true rfl, Nat.le_of_ble_eq_true rfl⟩) (rPreV hK hP (ci := 6) (q := (RX6, TX6, 11)) rfl rfl) rfl rfl hl.1 rfl (lv_room (Nat.le_of_ble_eq_true rfl)) dX6_spotOf_27 ⟨(Nat.zero_le _), (Nat.zero_le _)⟩) ?_
        refine lv_iadd hx hb dX6_spotOf_30 ?_
        refine lv_iconst hx hb dX6_spotOf_31 kc_iconst_1 ?_
        refine lv_isub hx hb dX6_spotOf_32 ?_
        obtain ⟨q9, h8, hF⟩ := bd1_at hF
        refine rcall (va_runS (As := [.int x1, .int q3, .int ((q5 + q7) - (1 : Int32))]) (rest := []) S (K6_in l D cI cZ cS cJ x1 q3 ((q5 + q7) - (1 : Int32)) q9 h8) (va_cwS 3 hts (gd_S wd_853 wd_854 wd_67 wd_855) rfl rfl rfl hdn6_in ⟨Nat.le_of_ble_eq_true rfl, Nat.le_of_ble_eq_true rfl⟩) (rPreS hK (hP.sub (ws' := ([] : va_W)) [] rfl)) rfl rfl hl.1 rfl (lv_room (Nat.le_of_ble_eq_true rfl)) dX6_spotOf_33 ⟨(Nat.zero_le _), (Nat.zero_le _)⟩) ?_
        refine lv_istore (lv' := [(4, .int q9), (0, .ref aX), (1, .int x1), (2, .int x2), (3, .int x3)]) hx hb dX6_spotOf_36 hl (by decide) rfl (fun ls hl => ?_)
        refine lv_iload hx hb dX6_spotOf_38 (lv_at hl 0 rfl) ?_
        refine lv_if_eq (tgt := 58) hx hb dX6_spotOf_40 (by decide) (fun c10 => ?_) (fun c10 => ?_)
        · have hF := ite_t c10 hF
          refine lv_iload_n hx hb dX6_spotOf_58 rfl (lv_at hl 3 rfl) ?_
          refine lv_istore_n (lv' := [(2, .int x2), (4, .int q9), (0, .ref aX), (1, .int x1), (3, .int x3)]) hx hb dX6_spotOf_59 rfl hl (by decide) rfl (fun ls hl => ?_)
          refine lv_iinc (v := (x3 + 1)) (lv' := [(3, .int (x3 + 1)), (2, .int x2), (4, .int q9), (0, .ref aX), (1, .int x1)]) hx hb dX6_spotOf_60 hl (k := 4) rfl rfl (by decide) rfl (fun ls hl => ?_)
          refine lv_goto (tgt := 4) hx hb dX6_spotOf_63 (by decide) ?_
          exact ih x2 (x3 + 1) ls (lv_sub hl [3, 4, 1, 0] rfl) hF
        · have hF := ite_f c10 hF
          refine lv_bipush hx hb dX6_spotOf_43 kc_bipush_40 ?_
          refine lv_iload_n hx hb dX6_spotOf_45 rfl (lv_at hl 4 rfl) ?_
          refine lv_imul hx hb dX6_spotOf_46 ?_
          refine lv_iload_n hx hb dX6_spotOf_47 rfl (lv_at hl 2 rfl) ?_
          refine lv_iadd hx hb dX6_spotOf_48 ?_
          refine lv_aload_n hx hb dX6_spotOf_49 rfl (lv_at hl 1 rfl) ?_
          refine lv_iload_n hx hb dX6_spotOf_50 rfl (lv_at hl 4 rfl) ?_
          obtain ⟨q12, h11, hF⟩ := bd1_at hF
          refine rcall (va_runV (As := [.int x3]) (rest := [.int (((40 : Int32) * x3) + x1)]) S (K6_firstOf l D cI cZ cS cJ aX aN aP aJ aI aT aD ms ml mt mq mu mN mP mK mI mT mD x3 q12 h11) (cwV 1 hts (gd_V wd_887 wd_889 wd_25 wd_67 wd_890) rfl rfl rfl hd6_firstOf ⟨Nat.le_of_ble_eq_true rfl, Nat.le_of_ble_eq_true rfl⟩) (rPreV hK hP (ci := 6) (q := (RX6, TX6, 11)) rfl rfl) rfl rfl hl.1 rfl (lv_room (Nat.le_of_ble_eq_true rfl)) dX6_spotOf_51 ⟨(Nat.zero_le _), (Nat.zero_le _)⟩) ?_
          refine lv_isub hx hb dX6_spotOf_54 ?_
          refine lv_goto (tgt := 59) hx hb dX6_spotOf_55 (by decide) ?_
          refine lv_istore_n (lv' := [(2, .int ((((40 : Int32) * x3) + x1) - q12)), (4, .int q9), (0, .ref aX), (1, .int x1), (3, .int x3)]) hx hb dX6_spotOf_59 rfl hl (by decide) rfl (fun ls hl => ?_)
          refine lv_iinc (v := (x3 + 1)) (lv' := [(3, .int (x3 + 1)), (2, .int ((((40 : Int32) * x3) + x1) - q12)), (4, .int q9), (0, .ref aX), (1, .int x1)]) hx hb dX6_spotOf_60 hl (k := 4) rfl rfl (by decide) rfl (fun ls hl => ?_)
          refine lv_goto (tgt := 4) hx hb dX6_spotOf_63 (by decide) ?_
          exact ih ((((40 : Int32) * x3) + x1) - q12) (x3 + 1) ls (lv_sub hl [3, 4, 1, 0] rfl) hF
  rw [f6_spotOf] at hF
  show rW p l e wsX6_spotOf rm6_spotOf s m args below meth c (.int r) (F0 m 0 ls [])
  refine lv_iconst hx hb dX6_spotOf_0 kc_iconst_m1 ?_
  refine lv_istore_n (lv' := [(2, .int (-1 : Int32)), (0, .ref aX), (1, .int x1)]) hx hb dX6_spotOf_1 rfl hl (by decide) rfl (fun ls hl => ?_)
  refine lv_iconst hx hb dX6_spotOf_2 kc_iconst_0 ?_
  refine lv_istore_n (lv' := [(3, .int (0 : Int32)), (2, .int (-1 : Int32)), (0, .ref aX), (1, .int x1)]) hx hb dX6_spotOf_3 rfl hl (by decide) rfl (fun ls hl => ?_)
  exact W_4 x1  fu (-1 : Int32) (0 : Int32) ls (lv_sub hl [2, 3, 1, 0] rfl) hF
abbrev rm6_serialAt : Room := { frames := 1, cells := 0, slots := 0, locals := 21 }
theorem hd6_serialAt : yX6_serialAt.cls = RX6 ∧ yX6_serialAt.cls ≠ "java/lang/invoke/MethodHandle" ∧ yX6_serialAt.cls ≠ "java/lang/invoke/VarHandle" ∧ (parseMethodDescriptor yX6_serialAt.desc).map (fun d => d.parameters.length) = some 1 := by decide +kernel
set_option maxHeartbeats 4000000 in
set_option maxRecDepth 100000 in
theorem K6_serialAt (l : Launch) (D : va_G) (cI cZ cS cJ : ClassId) (aX aN aP aJ aI aT aD : Nat) (ms : Int32) (ml : Int32) (mt : Int32) (mq : Int32) (mu : Int32) (mN : Nat → Int32) (mP : Nat → Int32) (mK : Nat → Int32) (mI : Nat → Int32) (mT : Nat → Int32) (mD : Nat → Int32) (x1 : Int32) (r : Int32) (hF : f6_serialAt mN x1 = some (r)) : Met l yX6_serialAt wsX6_serialAt rm6_serialAt (rP D (gT cI cZ cS cJ) (W6 cI aX aN aP aJ aI aT aD ms ml mt mq mu mN mP mK mI mT mD) [.ref aX, .int x1]) (rQ (.int r)) 0 0 (fun _ => False) := by
  refine Met.ofW (cc := cX6_serialAt) (maxL := 2) (ret := (some .int)) (by decide) rfl ?_
  intro p e s m args below meth c s₁ B hml hv
  obtain ⟨ha, hK, hP⟩ := hv
  have hx := B.exec
  have hb := B.bytes
  have hr := B.returns
  have hlocks := B.notSynchronized
  have hts : ∀ w ∈ lw_all, w.before args s = true := fun w h => atoms_spec (ws := wsX6_serialAt) B.pre w (List.mem_cons_of_mem _ h)
  have hown : s.vm.findClass RX6 = some m.cls := findClass_of_methodNamed B.named
  have S : CallFix p m c cX6_serialAt 2 s args lw_all RX6 := ⟨hx, hb, hml, hown, hts⟩
  have hl := lv_entry ([.ref aX, .int x1] : List Value) (n := 2) (Nat.le_of_ble_eq_true rfl)
  refine W.eq (g2 := F0 m 0 ((lg_sl ([.ref aX, .int x1] : List Value) ++ List.replicate (2 - (lg_sl ([.ref aX, .int x1] : List Value)).length) Slot.unset).toArray) []) (by rw [ha]; exact lg_entry_eq _ _ _) ?_
  generalize (lg_sl ([.ref aX, .int x1] : List Value) ++ List.replicate (2 - (lg_sl ([.ref aX, .int x1] : List Value)).length) Slot.unset).toArray = ls at hl ⊢
  have hl : lv_has ls 2 [(0, .ref aX), (1, .int x1)] := hl
  rw [f6_serialAt] at hF
  show rW p l e wsX6_serialAt rm6_serialAt s m args below meth c (.int r) (F0 m 0 ls [])
  refine lv_aload_n hx hb dX6_serialAt_0 rfl (lv_at hl 0 rfl) ?_
  refine lv_iload_n hx hb dX6_serialAt_1 rfl (lv_at hl 1 rfl) ?_
  refine lv_bipush hx hb dX6_serialAt_2 kc_bipush_40 ?_
  refine lv_idiv hx hb dX6_serialAt_4 (by decide) ?_
  obtain ⟨q2, h1, hF⟩ := bd1_at hF
  refine rcall (va_runV (As := [.int (x1 / (40 : Int32))]) (rest := []) S (K6_firstOf l D cI cZ cS cJ aX aN aP aJ aI aT aD ms ml mt mq mu mN mP mK mI mT mD (x1 / (40 : Int32)) q2 h1) (cwV 1 hts (gd_V wd_887 wd_889 wd_25 wd_67 wd_890) rfl rfl rfl hd6_firstOf ⟨Nat.le_of_ble_eq_true rfl, Nat.le_of_ble_eq_true rfl⟩) (rPreV hK hP (ci := 6) (q := (RX6, TX6, 11)) rfl rfl) rfl rfl hl.1 rfl (lv_room (Nat.le_of_ble_eq_true rfl)) dX6_serialAt_5 ⟨(Nat.zero_le _), (Nat.zero_le _)⟩) ?_
  refine lv_iload_n hx hb dX6_serialAt_8 rfl (lv_at hl 1 rfl) ?_
  refine lv_bipush hx hb dX6_serialAt_9 kc_bipush_40 ?_
  refine lv_irem hx hb dX6_serialAt_11 (by decide) ?_
  refine lv_iadd hx hb dX6_serialAt_12 ?_
  exact rret hF hx hb hr hlocks dX6_serialAt_13
abbrev rm6_isCheque : Room := { frames := 1, cells := 0, slots := 0, locals := 21 }
theorem hd6_isCheque : yX6_isCheque.cls = RX6 ∧ yX6_isCheque.cls ≠ "java/lang/invoke/MethodHandle" ∧ yX6_isCheque.cls ≠ "java/lang/invoke/VarHandle" ∧ (parseMethodDescriptor yX6_isCheque.desc).map (fun d => d.parameters.length) = some 1 := by decide +kernel
set_option maxHeartbeats 4000000 in
set_option maxRecDepth 100000 in
theorem K6_isCheque (l : Launch) (D : va_G) (cI cZ cS cJ : ClassId) (aX aN aP aJ aI aT aD : Nat) (ms : Int32) (ml : Int32) (mt : Int32) (mq : Int32) (mu : Int32) (mN : Nat → Int32) (mP : Nat → Int32) (mK : Nat → Int32) (mI : Nat → Int32) (mT : Nat → Int32) (mD : Nat → Int32) (x1 : Int32) (r : Int32) (hF : f6_isCheque mN x1 = some (r)) : Met l yX6_isCheque wsX6_isCheque rm6_isCheque (rP D (gT cI cZ cS cJ) (W6 cI aX aN aP aJ aI aT aD ms ml mt mq mu mN mP mK mI mT mD) [.ref aX, .int x1]) (rQ (.int r)) 0 0 (fun _ => False) := by
  refine Met.ofW (cc := cX6_isCheque) (maxL := 2) (ret := (some .boolean)) (by decide) rfl ?_
  intro p e s m args below meth c s₁ B hml hv
  obtain ⟨ha, hK, hP⟩ := hv
  have hx := B.exec
  have hb := B.bytes
  have hr := B.returns
  have hlocks := B.notSynchronized
  have hts : ∀ w ∈ lw_all, w.before args s = true := fun w h => atoms_spec (ws := wsX6_isCheque) B.pre w (List.mem_cons_of_mem _ h)
  have hown : s.vm.findClass RX6 = some m.cls := findClass_of_methodNamed B.named
  have S : CallFix p m c cX6_isCheque 2 s args lw_all RX6 := ⟨hx, hb, hml, hown, hts⟩
  have hl := lv_entry ([.ref aX, .int x1] : List Value) (n := 2) (Nat.le_of_ble_eq_true rfl)
  refine W.eq (g2 := F0 m 0 ((lg_sl ([.ref aX, .int x1] : List Value) ++ List.replicate (2 - (lg_sl ([.ref aX, .int x1] : List Value)).length) Slot.unset).toArray) []) (by rw [ha]; exact lg_entry_eq _ _ _) ?_
  generalize (lg_sl ([.ref aX, .int x1] : List Value) ++ List.replicate (2 - (lg_sl ([.ref aX, .int x1] : List Value)).length) Slot.unset).toArray = ls at hl ⊢
  have hl : lv_has ls 2 [(0, .ref aX), (1, .int x1)] := hl
  rw [f6_isCheque] at hF
  show rW p l e wsX6_isCheque rm6_isCheque s m args below meth c (.int r) (F0 m 0 ls [])
  refine lv_iload_n hx hb dX6_isCheque_0 rfl (lv_at hl 1 rfl) ?_
  refine lv_bipush hx hb dX6_isCheque_1 kc_bipush_40 ?_
  refine lv_irem hx hb dX6_isCheque_3 (by decide) ?_
  refine lv_aload_n hx hb dX6_isCheque_4 rfl (lv_at hl 0 rfl) ?_
  refine lv_iload_n hx hb dX6_isCheque_5 rfl (lv_at hl 1 rfl) ?_
  refine lv_bipush hx hb dX6_isCheque_6 kc_bipush_40 ?_
  refine lv_idiv hx hb dX6_isCheque_8 (by decide) ?_
  obtain ⟨q2, h1, hF⟩ := bd1_at hF
  refine rcall (va_runV (As := [.int (x1 / (40 : Int32))]) (rest := [.int (x1 - x1 / (40 : Int32) * (40 : Int32))]) S (K6_countOf l D cI cZ cS cJ aX aN aP aJ aI aT aD ms ml mt mq mu mN mP mK mI mT mD (x1 / (40 : Int32)) q2 h1) (cwV 1 hts (gd_V wd_891 wd_893 wd_26 wd_67 wd_894) rfl rfl rfl hd6_countOf ⟨Nat.le_of_ble_eq_true rfl, Nat.le_of_ble_eq_true rfl⟩) (rPreV hK hP (ci := 6) (q := (RX6, TX6, 11)) rfl rfl) rfl rfl hl.1 rfl (lv_room (Nat.le_of_ble_eq_true rfl)) dX6_isCheque_9 ⟨(Nat.zero_le _), (Nat.zero_le _)⟩) ?_
  refine lv_icmp_ge (tgt := 19) hx hb dX6_isCheque_12 (by decide) (fun c3 => ?_) (fun c3 => ?_)
  · rw [if_pos c3] at hF
    refine lv_iconst hx hb dX6_isCheque_19 kc_iconst_0 ?_
    exact rretz (by decide) hF hx hb hr hlocks dX6_isCheque_20
  · rw [if_neg c3] at hF
    refine lv_iconst hx hb dX6_isCheque_15 kc_iconst_1 ?_
    refine lv_goto (tgt := 20) hx hb dX6_isCheque_16 (by decide) ?_
    exact rretz (by decide) hF hx hb hr hlocks dX6_isCheque_20
abbrev rm6_isTaken : Room := { frames := 1, cells := 0, slots := 0, locals := 21 }
theorem hd6_isTaken : yX6_isTaken.cls = RX6 ∧ yX6_isTaken.cls ≠ "java/lang/invoke/MethodHandle" ∧ yX6_isTaken.cls ≠ "java/lang/invoke/VarHandle" ∧ (parseMethodDescriptor yX6_isTaken.desc).map (fun d => d.parameters.length) = some 2 := by decide +kernel
set_option maxHeartbeats 4000000 in
set_option maxRecDepth 100000 in
theorem K6_isTaken (l : Launch) (D : va_G) (cI cZ cS cJ : ClassId) (aX aN aP aJ aI aT aD : Nat) (ms : Int32) (ml : Int32) (mt : Int32) (mq : Int32) (mu : Int32) (mN : Nat → Int32) (mP : Nat → Int32) (mK : Nat → Int32) (mI : Nat → Int32) (mT : Nat → Int32) (mD : Nat → Int32) (x1 : Int32) (x2 : Int32) (r : Int32) (hF : f6_isTaken mN x1 x2 = some (r)) : Met l yX6_isTaken wsX6_isTaken rm6_isTaken (rP D (gT cI cZ cS cJ) (W6 cI aX aN aP aJ aI aT aD ms ml mt mq mu mN mP mK mI mT mD) [.ref aX, .int x1, .int x2]) (rQ (.int r)) 0 0 (fun _ => False) := by
  refine Met.ofW (cc := cX6_isTaken) (maxL := 5) (ret := (some .boolean)) (by decide) rfl ?_
  intro p e s m args below meth c s₁ B hml hv
  obtain ⟨ha, hK, hP⟩ := hv
  have hx := B.exec
  have hb := B.bytes
  have hr := B.returns
  have hlocks := B.notSynchronized
  have hts : ∀ w ∈ lw_all, w.before args s = true := fun w h => atoms_spec (ws := wsX6_isTaken) B.pre w (List.mem_cons_of_mem _ h)
  have hown : s.vm.findClass RX6 = some m.cls := findClass_of_methodNamed B.named
  have S : CallFix p m c cX6_isTaken 5 s args lw_all RX6 := ⟨hx, hb, hml, hown, hts⟩
  have hl := lv_entry ([.ref aX, .int x1, .int x2] : List Value) (n := 5) (Nat.le_of_ble_eq_true rfl)
  refine W.eq (g2 := F0 m 0 ((lg_sl ([.ref aX, .int x1, .int x2] : List Value) ++ List.replicate (5 - (lg_sl ([.ref aX, .int x1, .int x2] : List Value)).length) Slot.unset).toArray) []) (by rw [ha]; exact lg_entry_eq _ _ _) ?_
  generalize (lg_sl ([.ref aX, .int x1, .int x2] : List Value) ++ List.replicate (5 - (lg_sl ([.ref aX, .int x1, .int x2] : List Value)).length) Slot.unset).toArray = ls at hl ⊢
  have hl : lv_has ls 5 [(0, .ref aX), (1, .int x1), (2, .int x2)] := hl
  clear ha
  have W_49 : ∀ (x1 : Int32) (x2 : Int32) (x4 : Int32) (k5 : Int32 → Int32 → Option (Int32)) (hk5 : ∀ (x3 : Int32) (x4 : Int32), ∀ (ls : Array Slot), lv_has ls 5 [(0, .ref aX), (1, .int x1), (2, .int x2), (3, .int x3), (4, .int x4)] → k5 x3 x4 = some (r) → rW p l e wsX6_isTaken rm6_isTaken s m args below meth c (.int r) (F0 m 5 ls [])), ∀ (ls : Array Slot), lv_has ls 5 [(0, .ref aX), (1, .int x1), (2, .int x2), (4, .int x4)] → f6_isTaken_j49 k5 mN x1 x2 x4 = some (r) → rW p l e wsX6_isTaken rm6_isTaken s m args below meth c (.int r) (F0 m 49 ls []) := by
    intro x1 x2 x4 k5 hk5 ls hl hF
    rw [f6_isTaken_j49] at hF
    refine lv_iconst hx hb dX6_isTaken_49 kc_iconst_1 ?_
    refine lv_goto (tgt := 54) hx hb dX6_isTaken_50 (by decide) ?_
    refine lv_istore_n (lv' := [(3, .int (1 : Int32)), (0, .ref aX), (1, .int x1), (2, .int x2), (4, .int x4)]) hx hb dX6_isTaken_54 rfl hl (by decide) rfl (fun ls hl => ?_)
    refine lv_iinc (v := (x4 + 1)) (lv' := [(4, .int (x4 + 1)), (3, .int (1 : Int32)), (0, .ref aX), (1, .int x1), (2, .int x2)]) hx hb dX6_isTaken_55 hl (k := 4) rfl rfl (by decide) rfl (fun ls hl => ?_)
    refine lv_goto (tgt := 5) hx hb dX6_isTaken_58 (by decide) ?_
    exact hk5 (1 : Int32) (x4 + 1) ls (lv_sub hl [2, 3, 4, 1, 0] rfl) hF
  have W_53 : ∀ (x1 : Int32) (x2 : Int32) (x4 : Int32) (k5 : Int32 → Int32 → Option (Int32)) (hk5 : ∀ (x3 : Int32) (x4 : Int32), ∀ (ls : Array Slot), lv_has ls 5 [(0, .ref aX), (1, .int x1), (2, .int x2), (3, .int x3), (4, .int x4)] → k5 x3 x4 = some (r) → rW p l e wsX6_isTaken rm6_isTaken s m args below meth c (.int r) (F0 m 5 ls [])), ∀ (ls : Array Slot), lv_has ls 5 [(0, .ref aX), (1, .int x1), (2, .int x2), (4, .int x4)] → f6_isTaken_j53 k5 mN x1 x2 x4 = some (r) → rW p l e wsX6_isTaken rm6_isTaken s m args below meth c (.int r) (F0 m 53 ls []) := by
    intro x1 x2 x4 k5 hk5 ls hl hF
    rw [f6_isTaken_j53] at hF
    refine lv_iconst hx hb dX6_isTaken_53 kc_iconst_0 ?_
    refine lv_istore_n (lv' := [(3, .int (0 : Int32)), (0, .ref aX), (1, .int x1), (2, .int x2), (4, .int x4)]) hx hb dX6_isTaken_54 rfl hl (by decide) rfl (fun ls hl => ?_)
    refine lv_iinc (v := (x4 + 1)) (lv' := [(4, .int (x4 + 1)), (3, .int (0 : Int32)), (0, .ref aX), (1, .int x1), (2, .int x2)]) hx hb dX6_isTaken_55 hl (k := 4) rfl rfl (by decide) rfl (fun ls hl => ?_)
    refine lv_goto (tgt := 5) hx hb dX6_isTaken_58 (by decide) ?_
    exact hk5 (0 : Int32) (x4 + 1) ls (lv_sub hl [2, 3, 4, 1, 0] rfl) hF
  have W_5 : ∀ (x1 : Int32) (x2 : Int32) (n : Nat) (x3 : Int32) (x4 : Int32), ∀ (ls : Array Slot), lv_has ls 5 [(0, .ref aX), (1, .int x1), (2, .int x2), (3, .int x3), (4, .int x4)] → f6_isTaken_l5 mN x1 x2 n x3 x4 = some (r) → rW p l e wsX6_isTaken rm6_isTaken s m args below meth c (.int r) (F0 m 5 ls []) := by
    intro x1 x2  n
    induction n with
    | zero =>
      intro x3 x4 ls hl hF
      rw [f6_isTaken_l5] at hF
      cases hF
    | succ n ih =>
      intro x3 x4 ls hl hF
      rw [f6_isTaken_l5] at hF
      refine lv_iload hx hb dX6_isTaken_5 (lv_at hl 4 rfl) ?_
      refine lv_aload_n hx hb dX6_isTaken_7 rfl (lv_at hl 0 rfl) ?_
      refine va_get (D := D) (ci := 6) (v := .ref aN) (C := RX6) (T := TX6) (N := 11) hx hb hts i_X6 hown hK.1 hP 0 rfl rfl 0 (by decide) (hts _ wd_811) (fun _ h9 => h9) rfl dX6_isTaken_8 ?_
      refine lv_iconst hx hb dX6_isTaken_11 kc_iconst_0 ?_
      refine va_iald hx hb hK.1 hP 1 0 rfl rfl (inb_lit (by decide)) dX6_isTaken_12 ?_
      refine lv_icmp_ge (tgt := 61) hx hb dX6_isTaken_13 (by decide) (fun c1 => ?_) (fun c1 => ?_)
      · have hF := ite_t c1 hF
        refine lv_iload_n hx hb dX6_isTaken_61 rfl (lv_at hl 3 rfl) ?_
        obtain ⟨hz, hF⟩ := gd_at hF
        exact rretz hz hF hx hb hr hlocks dX6_isTaken_62
      · have hF := ite_f c1 hF
        refine lv_iload_n hx hb dX6_isTaken_16 rfl (lv_at hl 3 rfl) ?_
        refine lv_if_ne (tgt := 49) hx hb dX6_isTaken_17 (by decide) (fun c2 => ?_) (fun c2 => ?_)
        · have hF := ite_f c2 hF
          exact W_49 x1 x2 x4 (f6_isTaken_l5 mN x1 x2 n) ih ls (lv_sub hl [0, 1, 2, 4] rfl) hF
        · have hF := ite_t c2 hF
          refine lv_iload_n hx hb dX6_isTaken_20 rfl (lv_at hl 1 rfl) ?_
          refine lv_aload_n hx hb dX6_isTaken_21 rfl (lv_at hl 0 rfl) ?_
          refine lv_iload hx hb dX6_isTaken_22 (lv_at hl 4 rfl) ?_
          obtain ⟨q4, h3, hF⟩ := bd1_at hF
          refine rcall (va_runV (As := [.int x4]) (rest := [.int x1]) S (K6_firstOf l D cI cZ cS cJ aX aN aP aJ aI aT aD ms ml mt mq mu mN mP mK mI mT mD x4 q4 h3) (cwV 1 hts (gd_V wd_887 wd_889 wd_25 wd_67 wd_890) rfl rfl rfl hd6_firstOf ⟨Nat.le_of_ble_eq_true rfl, Nat.le_of_ble_eq_true rfl⟩) (rPreV hK hP (ci := 6) (q := (RX6, TX6, 11)) rfl rfl) rfl rfl hl.1 rfl (lv_room (Nat.le_of_ble_eq_true rfl)) dX6_isTaken_24 ⟨(Nat.zero_le _), (Nat.zero_le _)⟩) ?_
          refine lv_aload_n hx hb dX6_isTaken_27 rfl (lv_at hl 0 rfl) ?_
          refine lv_iload hx hb dX6_isTaken_28 (lv_at hl 4 rfl) ?_
          obtain ⟨q6, h5, hF⟩ := bd1_at hF
          refine rcall (va_runV (As := [.int x4]) (rest := [.int q4, .int x1]) S (K6_countOf l D cI cZ cS cJ aX aN aP aJ aI aT aD ms ml mt mq mu mN mP mK mI mT mD x4 q6 h5) (cwV 1 hts (gd_V wd_891 wd_893 wd_26 wd_67 wd_894) rfl rfl rfl hd6_countOf ⟨Nat.le_of_ble_eq_true rfl, Nat.le_of_ble_eq_true rfl⟩) (rPreV hK hP (ci := 6) (q := (RX6, TX6, 11)) rfl rfl) rfl rfl hl.1 rfl (lv_room (Nat.le_of_ble_eq_true rfl)) dX6_isTaken_30 ⟨(Nat.zero_le _), (Nat.zero_le _)⟩) ?_
          refine lv_iadd hx hb dX6_isTaken_33 ?_
          refine lv_icmp_ge (tgt := 53) hx hb dX6_isTaken_34 (by decide) (fun c7 => ?_) (fun c7 => ?_)
          · have hF := ite_t c7 hF
            exact W_53 x1 x2 x4 (f6_isTaken_l5 mN x1 x2 n) ih ls (lv_sub hl [0, 1, 2, 4] rfl) hF
          · have hF := ite_f c7 hF
            refine lv_aload_n hx hb dX6_isTaken_37 rfl (lv_at hl 0 rfl) ?_
            refine lv_iload hx hb dX6_isTaken_38 (lv_at hl 4 rfl) ?_
            obtain ⟨q9, h8, hF⟩ := bd1_at hF
            refine rcall (va_runV (As := [.int x4]) (rest := []) S (K6_firstOf l D cI cZ cS cJ aX aN aP aJ aI aT aD ms ml mt mq mu mN mP mK mI mT mD x4 q9 h8) (cwV 1 hts (gd_V wd_887 wd_889 wd_25 wd_67 wd_890) rfl rfl rfl hd6_firstOf ⟨Nat.le_of_ble_eq_true rfl, Nat.le_of_ble_eq_true rfl⟩) (rPreV hK hP (ci := 6) (q := (RX6, TX6, 11)) rfl rfl) rfl rfl hl.1 rfl (lv_room (Nat.le_of_ble_eq_true rfl)) dX6_isTaken_40 ⟨(Nat.zero_le _), (Nat.zero_le _)⟩) ?_
            refine lv_iload_n hx hb dX6_isTaken_43 rfl (lv_at hl 1 rfl) ?_
            refine lv_iload_n hx hb dX6_isTaken_44 rfl (lv_at hl 2 rfl) ?_
            refine lv_iadd hx hb dX6_isTaken_45 ?_
            refine lv_icmp_ge (tgt := 53) hx hb dX6_isTaken_46 (by decide) (fun c10 => ?_) (fun c10 => ?_)
            · have hF := ite_t c10 hF
              exact W_53 x1 x2 x4 (f6_isTaken_l5 mN x1 x2 n) ih ls (lv_sub hl [0, 1, 2, 4] rfl) hF
            · have hF := ite_f c10 hF
              exact W_49 x1 x2 x4 (f6_isTaken_l5 mN x1 x2 n) ih ls (lv_sub hl [0, 1, 2, 4] rfl) hF
  rw [f6_isTaken] at hF
  show rW p l e wsX6_isTaken rm6_isTaken s m args below meth c (.int r) (F0 m 0 ls [])
  refine lv_iconst hx hb dX6_isTaken_0 kc_iconst_0 ?_
  refine lv_istore_n (lv' := [(3, .int (0 : Int32)), (0, .ref aX), (1, .int x1), (2, .int x2)]) hx hb dX6_isTaken_1 rfl hl (by decide) rfl (fun ls hl => ?_)
  refine lv_iconst hx hb dX6_isTaken_2 kc_iconst_0 ?_
  refine lv_istore (lv' := [(4, .int (0 : Int32)), (3, .int (0 : Int32)), (0, .ref aX), (1, .int x1), (2, .int x2)]) hx hb dX6_isTaken_3 hl (by decide) rfl (fun ls hl => ?_)
  exact W_5 x1 x2  fu (0 : Int32) (0 : Int32) ls (lv_sub hl [2, 3, 4, 1, 0] rfl) hF
abbrev rm6_canBook : Room := { frames := 2, cells := 0, slots := 0, locals := 45 }
theorem hd6_canBook : yX6_canBook.cls = RX6 ∧ yX6_canBook.cls ≠ "java/lang/invoke/MethodHandle" ∧ yX6_canBook.cls ≠ "java/lang/invoke/VarHandle" ∧ (parseMethodDescriptor yX6_canBook.desc).map (fun d => d.parameters.length) = some 2 := by decide +kernel
set_option maxHeartbeats 4000000 in
set_option maxRecDepth 100000 in
theorem K6_canBook (l : Launch) (D : va_G) (cI cZ cS cJ : ClassId) (aX aN aP aJ aI aT aD : Nat) (ms : Int32) (ml : Int32) (mt : Int32) (mq : Int32) (mu : Int32) (mN : Nat → Int32) (mP : Nat → Int32) (mK : Nat → Int32) (mI : Nat → Int32) (mT : Nat → Int32) (mD : Nat → Int32) (x1 : Int32) (x2 : Int32) (r : Int32) (hF : f6_canBook mN x1 x2 = some (r)) : Met l yX6_canBook wsX6_canBook rm6_canBook (rP D (gT cI cZ cS cJ) (W6 cI aX aN aP aJ aI aT aD ms ml mt mq mu mN mP mK mI mT mD) [.ref aX, .int x1, .int x2]) (rQ (.int r)) 0 0 (fun _ => False) := by
  refine Met.ofW (cc := cX6_canBook) (maxL := 3) (ret := (some .boolean)) (by decide) rfl ?_
  intro p e s m args below meth c s₁ B hml hv
  obtain ⟨ha, hK, hP⟩ := hv
  have hx := B.exec
  have hb := B.bytes
  have hr := B.returns
  have hlocks := B.notSynchronized
  have hts : ∀ w ∈ lw_all, w.before args s = true := fun w h => atoms_spec (ws := wsX6_canBook) B.pre w (List.mem_cons_of_mem _ h)
  have hown : s.vm.findClass RX6 = some m.cls := findClass_of_methodNamed B.named
  have S : CallFix p m c cX6_canBook 3 s args lw_all RX6 := ⟨hx, hb, hml, hown, hts⟩
  have hl := lv_entry ([.ref aX, .int x1, .int x2] : List Value) (n := 3) (Nat.le_of_ble_eq_true rfl)
  refine W.eq (g2 := F0 m 0 ((lg_sl ([.ref aX, .int x1, .int x2] : List Value) ++ List.replicate (3 - (lg_sl ([.ref aX, .int x1, .int x2] : List Value)).length) Slot.unset).toArray) []) (by rw [ha]; exact lg_entry_eq _ _ _) ?_
  generalize (lg_sl ([.ref aX, .int x1, .int x2] : List Value) ++ List.replicate (3 - (lg_sl ([.ref aX, .int x1, .int x2] : List Value)).length) Slot.unset).toArray = ls at hl ⊢
  have hl : lv_has ls 3 [(0, .ref aX), (1, .int x1), (2, .int x2)] := hl
  rw [f6_canBook] at hF
  show rW p l e wsX6_canBook rm6_canBook s m args below meth c (.int r) (F0 m 0 ls [])
  refine lv_aload_n hx hb dX6_canBook_0 rfl (lv_at hl 0 rfl) ?_
  refine va_get (D := D) (ci := 6) (v := .ref aN) (C := RX6) (T := TX6) (N := 11) hx hb hts i_X6 hown hK.1 hP 0 rfl rfl 0 (by decide) (hts _ wd_811) (fun _ h9 => h9) rfl dX6_canBook_1 ?_
  refine lv_iconst hx hb dX6_canBook_4 kc_iconst_0 ?_
  refine va_iald hx hb hK.1 hP 1 0 rfl rfl (inb_lit (by decide)) dX6_canBook_5 ?_
  refine lv_bipush hx hb dX6_canBook_6 kc_bipush_6 ?_
  refine lv_icmp_ge (tgt := 24) hx hb dX6_canBook_8 (by decide) (fun c1 => ?_) (fun c1 => ?_)
  · have hF := ite_t c1 hF
    refine lv_iconst hx hb dX6_canBook_24 kc_iconst_0 ?_
    exact rretz (by decide) hF hx hb hr hlocks dX6_canBook_25
  · have hF := ite_f c1 hF
    refine lv_aload_n hx hb dX6_canBook_11 rfl (lv_at hl 0 rfl) ?_
    refine lv_iload_n hx hb dX6_canBook_12 rfl (lv_at hl 1 rfl) ?_
    refine lv_iload_n hx hb dX6_canBook_13 rfl (lv_at hl 2 rfl) ?_
    obtain ⟨q3, h2, hF⟩ := bd1_at hF
    refine rcall (va_runV (As := [.int x1, .int x2]) (rest := []) S (K6_isTaken l D cI cZ cS cJ aX aN aP aJ aI aT aD ms ml mt mq mu mN mP mK mI mT mD x1 x2 q3 h2) (cwV 2 hts (gd_V wd_883 wd_885 wd_24 wd_67 wd_886) rfl rfl rfl hd6_isTaken ⟨Nat.le_of_ble_eq_true rfl, Nat.le_of_ble_eq_true rfl⟩) (rPreV hK hP (ci := 6) (q := (RX6, TX6, 11)) rfl rfl) rfl rfl hl.1 rfl (lv_room (Nat.le_of_ble_eq_true rfl)) dX6_canBook_14 ⟨(Nat.zero_le _), (Nat.zero_le _)⟩) ?_
    refine lv_if_ne (tgt := 24) hx hb dX6_canBook_17 (by decide) (fun c4 => ?_) (fun c4 => ?_)
    · rw [if_neg c4] at hF
      refine lv_iconst hx hb dX6_canBook_24 kc_iconst_0 ?_
      exact rretz (by decide) hF hx hb hr hlocks dX6_canBook_25
    · rw [if_pos c4] at hF
      refine lv_iconst hx hb dX6_canBook_20 kc_iconst_1 ?_
      refine lv_goto (tgt := 25) hx hb dX6_canBook_21 (by decide) ?_
      exact rretz (by decide) hF hx hb hr hlocks dX6_canBook_25
abbrev rm6_books : Room := { frames := 0, cells := 0, slots := 0, locals := 0 }
theorem hd6_books : yX6_books.cls = RX6 ∧ yX6_books.cls ≠ "java/lang/invoke/MethodHandle" ∧ yX6_books.cls ≠ "java/lang/invoke/VarHandle" ∧ (parseMethodDescriptor yX6_books.desc).map (fun d => d.parameters.length) = some 2 := by decide +kernel
set_option maxHeartbeats 4000000 in
set_option maxRecDepth 100000 in
theorem K6_books (l : Launch) (D : va_G) (cI cZ cS cJ : ClassId) (aX aN aP aJ aI aT aD : Nat) (ms : Int32) (ml : Int32) (mt : Int32) (mq : Int32) (mu : Int32) (mN : Nat → Int32) (mP : Nat → Int32) (mK : Nat → Int32) (mI : Nat → Int32) (mT : Nat → Int32) (mD : Nat → Int32) (x1 : Int32) (x2 : Int32) (r : Int32) (z_mN : Nat → Int32) (hF : f6_books mN x1 x2 = some (r, z_mN)) : Met l yX6_books wsX6_books rm6_books (uP D (gT cI cZ cS cJ) (W6 cI aX aN aP aJ aI aT aD ms ml mt mq mu mN mP mK mI mT mD) [.ref aX, .int x1, .int x2]) (uQ D (some (.int r)) (uA (W6 cI aX aN aP aJ aI aT aD ms ml mt mq mu mN mP mK mI mT mD)) (W6 cI aX aN aP aJ aI aT aD ms ml mt mq mu z_mN mP mK mI mT mD)) 0 0 (uA (W6 cI aX aN aP aJ aI aT aD ms ml mt mq mu mN mP mK mI mT mD)) := by
  refine Met.ofW (cc := cX6_books) (maxL := 5) (ret := (some .int)) (by decide) rfl ?_
  intro p e s m args below meth c s₁ B hml hv
  obtain ⟨ha, hK, hP, hD0⟩ := hv
  have hx := B.exec
  have hb := B.bytes
  have hr := B.returns
  have hlocks := B.notSynchronized
  have hts : ∀ w ∈ lw_all, w.before args s = true := fun w h => atoms_spec (ws := wsX6_books) B.pre w (List.mem_cons_of_mem _ h)
  have hown : s.vm.findClass RX6 = some m.cls := findClass_of_methodNamed B.named
  have S : CallFix p m c cX6_books 5 s args lw_all RX6 := ⟨hx, hb, hml, hown, hts⟩
  have hD := hD0.own
  generalize uA (W6 cI aX aN aP aJ aI aT aD ms ml mt mq mu mN mP mK mI mT mD) = A0 at hD ⊢
  have hS : va_S A0 s.heap s.heap [] := va_S.rf
  have hl := lv_entry ([.ref aX, .int x1, .int x2] : List Value) (n := 5) (Nat.le_of_ble_eq_true rfl)
  refine W.eq (g2 := F0 m 0 ((lg_sl ([.ref aX, .int x1, .int x2] : List Value) ++ List.replicate (5 - (lg_sl ([.ref aX, .int x1, .int x2] : List Value)).length) Slot.unset).toArray) []) (by rw [ha]; exact lg_entry_eq _ _ _) ?_
  generalize (lg_sl ([.ref aX, .int x1, .int x2] : List Value) ++ List.replicate (5 - (lg_sl ([.ref aX, .int x1, .int x2] : List Value)).length) Slot.unset).toArray = ls at hl ⊢
  have hl : lv_has ls 5 [(0, .ref aX), (1, .int x1), (2, .int x2)] := hl
  clear ha
  have W_39 : ∀ (x3 : Int32) (n : Nat) (x4 : Int32) (mN : Nat → Int32), ∀ (H : Heap) (locs : List Loc), va_P D vwCl (W6 cI aX aN aP aJ aI aT aD ms ml mt mq mu mN mP mK mI mT mD) H → va_D A0 (W6 cI aX aN aP aJ aI aT aD ms ml mt mq mu mN mP mK mI mT mD) → va_S A0 s.heap H locs → ∀ (ls : Array Slot), lv_has ls 5 [(0, .ref aX), (3, .int x3), (4, .int x4)] → f6_books_l39 x3 n x4 mN = some (r, z_mN) → uW p l e wsX6_books rm6_books s m args below meth c D (some (.int r)) A0 (W6 cI aX aN aP aJ aI aT aD ms ml mt mq mu z_mN mP mK mI mT mD) H locs (F0 m 39 ls []) := by
    intro x3  n
    induction n with
    | zero =>
      intro x4 mN H locs hP hD hS ls hl hF
      rw [f6_books_l39] at hF
      cases hF
    | succ n ih =>
      intro x4 mN H locs hP hD hS ls hl hF
      rw [f6_books_l39] at hF
      refine lv_iload hx hb dX6_books_39 (lv_at hl 2 rfl) ?_
      refine lv_bipush hx hb dX6_books_41 kc_bipush_40 ?_
      refine lv_iload_n hx hb dX6_books_43 rfl (lv_at hl 1 rfl) ?_
      refine lv_iconst hx hb dX6_books_44 kc_iconst_1 ?_
      refine lv_iadd hx hb dX6_books_45 ?_
      refine lv_imul hx hb dX6_books_46 ?_
      refine lv_icmp_ge (tgt := 79) hx hb dX6_books_47 (by decide) (fun c3 => ?_) (fun c3 => ?_)
      · have hF := ite_t c3 hF
        refine lv_aload_n hx hb dX6_books_79 rfl (lv_at hl 0 rfl) ?_
        refine va_get (D := D) (ci := 6) (v := .ref aN) (C := RX6) (T := TX6) (N := 11) hx hb hts i_X6 hown hK.1 hP 0 rfl rfl 0 (by decide) (hts _ wd_811) (fun _ h9 => h9) rfl dX6_books_80 ?_
        refine lv_iconst hx hb dX6_books_83 kc_iconst_0 ?_
        refine lv_dup2_11 hx hb dX6_books_84 rfl rfl ?_
        refine va_iald hx hb hK.1 hP 1 0 rfl rfl (inb_lit (by decide)) dX6_books_85 ?_
        refine lv_iconst hx hb dX6_books_86 kc_iconst_1 ?_
        refine lv_iadd hx hb dX6_books_87 ?_
        refine va_iast hx hb hK.1 hP hD hS 1 0 rfl rfl (inb_lit (by decide)) dX6_books_88 (fun H locs hP hD hS => ?_)
        have hP : va_P D vwCl (W6 cI aX aN aP aJ aI aT aD ms ml mt mq mu (upd mN (0 : Int32).toNatClampNeg ((mN (0 : Int32).toNatClampNeg) + (1 : Int32))) mP mK mI mT mD) H := hP
        have hD : va_D A0 (W6 cI aX aN aP aJ aI aT aD ms ml mt mq mu (upd mN (0 : Int32).toNatClampNeg ((mN (0 : Int32).toNatClampNeg) + (1 : Int32))) mP mK mI mT mD) := hD
        refine lv_iload_n hx hb dX6_books_89 rfl (lv_at hl 1 rfl) ?_
        cases hF
        exact ureti hx hb hr hlocks hP hS dX6_books_90
      · have hF := ite_f c3 hF
        refine lv_aload_n hx hb dX6_books_50 rfl (lv_at hl 0 rfl) ?_
        refine va_get (D := D) (ci := 6) (v := .ref aN) (C := RX6) (T := TX6) (N := 11) hx hb hts i_X6 hown hK.1 hP 0 rfl rfl 0 (by decide) (hts _ wd_811) (fun _ h9 => h9) rfl dX6_books_51 ?_
        refine lv_bipush hx hb dX6_books_54 kc_bipush_21 ?_
        refine lv_iload hx hb dX6_books_56 (lv_at hl 2 rfl) ?_
        refine lv_iadd hx hb dX6_books_58 ?_
        refine lv_iconst hx hb dX6_books_59 kc_iconst_0 ?_
        obtain ⟨g4, hF⟩ := gd_at hF
        refine va_iast hx hb hK.1 hP hD hS 1 0 rfl rfl g4 dX6_books_60 (fun H locs hP hD hS => ?_)
        have hP : va_P D vwCl (W6 cI aX aN aP aJ aI aT aD ms ml mt mq mu (upd mN ((21 : Int32) + x4).toNatClampNeg (0 : Int32)) mP mK mI mT mD) H := hP
        have hD : va_D A0 (W6 cI aX aN aP aJ aI aT aD ms ml mt mq mu (upd mN ((21 : Int32) + x4).toNatClampNeg (0 : Int32)) mP mK mI mT mD) := hD
        refine lv_aload_n hx hb dX6_books_61 rfl (lv_at hl 0 rfl) ?_
        refine va_get (D := D) (ci := 6) (v := .ref aN) (C := RX6) (T := TX6) (N := 11) hx hb hts i_X6 hown hK.1 hP 0 rfl rfl 0 (by decide) (hts _ wd_811) (fun _ h9 => h9) rfl dX6_books_62 ?_
        refine lv_sipush hx hb dX6_books_65 kc_sipush_261 ?_
        refine lv_iload hx hb dX6_books_68 (lv_at hl 2 rfl) ?_
        refine lv_iadd hx hb dX6_books_70 ?_
        refine lv_iconst hx hb dX6_books_71 kc_iconst_0 ?_
        obtain ⟨g5, hF⟩ := gd_at hF
        refine va_iast hx hb hK.1 hP hD hS 1 0 rfl rfl g5 dX6_books_72 (fun H locs hP hD hS => ?_)
        have hP : va_P D vwCl (W6 cI aX aN aP aJ aI aT aD ms ml mt mq mu (upd (upd mN ((21 : Int32) + x4).toNatClampNeg (0 : Int32)) ((261 : Int32) + x4).toNatClampNeg (0 : Int32)) mP mK mI mT mD) H := hP
        have hD : va_D A0 (W6 cI aX aN aP aJ aI aT aD ms ml mt mq mu (upd (upd mN ((21 : Int32) + x4).toNatClampNeg (0 : Int32)) ((261 : Int32) + x4).toNatClampNeg (0 : Int32)) mP mK mI mT mD) := hD
        refine lv_iinc (v := (x4 + 1)) (lv' := [(4, .int (x4 + 1)), (0, .ref aX), (3, .int x3)]) hx hb dX6_books_73 hl (k := 2) rfl rfl (by decide) rfl (fun ls hl => ?_)
        refine lv_goto (tgt := 39) hx hb dX6_books_76 (by decide) ?_
        exact ih (x4 + 1) (upd (upd mN ((21 : Int32) + x4).toNatClampNeg (0 : Int32)) ((261 : Int32) + x4).toNatClampNeg (0 : Int32)) _ _ hP hD hS ls (lv_sub hl [1, 2, 0] rfl) hF
  rw [f6_books] at hF
  show uW p l e wsX6_books rm6_books s m args below meth c D (some (.int r)) A0 (W6 cI aX aN aP aJ aI aT aD ms ml mt mq mu z_mN mP mK mI mT mD) s.heap [] (F0 m 0 ls [])
  refine lv_aload_n hx hb dX6_books_0 rfl (lv_at hl 0 rfl) ?_
  refine va_get (D := D) (ci := 6) (v := .ref aN) (C := RX6) (T := TX6) (N := 11) hx hb hts i_X6 hown hK.1 hP 0 rfl rfl 0 (by decide) (hts _ wd_811) (fun _ h9 => h9) rfl dX6_books_1 ?_
  refine lv_iconst hx hb dX6_books_4 kc_iconst_0 ?_
  refine va_iald hx hb hK.1 hP 1 0 rfl rfl (inb_lit (by decide)) dX6_books_5 ?_
  refine lv_istore_n (lv' := [(3, .int (mN (0 : Int32).toNatClampNeg)), (0, .ref aX), (1, .int x1), (2, .int x2)]) hx hb dX6_books_6 rfl hl (by decide) rfl (fun ls hl => ?_)
  refine lv_aload_n hx hb dX6_books_7 rfl (lv_at hl 1 rfl) ?_
  refine va_get (D := D) (ci := 6) (v := .ref aN) (C := RX6) (T := TX6) (N := 11) hx hb hts i_X6 hown hK.1 hP 0 rfl rfl 0 (by decide) (hts _ wd_811) (fun _ h9 => h9) rfl dX6_books_8 ?_
  refine lv_bipush hx hb dX6_books_11 kc_bipush_9 ?_
  refine lv_iconst hx hb dX6_books_13 kc_iconst_2 ?_
  refine lv_iload_n hx hb dX6_books_14 rfl (lv_at hl 0 rfl) ?_
  refine lv_imul hx hb dX6_books_15 ?_
  refine lv_iadd hx hb dX6_books_16 ?_
  refine lv_iload_n hx hb dX6_books_17 rfl (lv_at hl 2 rfl) ?_
  obtain ⟨g1, hF⟩ := gd_at hF
  refine va_iast hx hb hK.1 hP hD hS 1 0 rfl rfl g1 dX6_books_18 (fun H locs hP hD hS => ?_)
  have hP : va_P D vwCl (W6 cI aX aN aP aJ aI aT aD ms ml mt mq mu (upd mN ((9 : Int32) + ((2 : Int32) * (mN (0 : Int32).toNatClampNeg))).toNatClampNeg x1) mP mK mI mT mD) H := hP
  have hD : va_D A0 (W6 cI aX aN aP aJ aI aT aD ms ml mt mq mu (upd mN ((9 : Int32) + ((2 : Int32) * (mN (0 : Int32).toNatClampNeg))).toNatClampNeg x1) mP mK mI mT mD) := hD
  refine lv_aload_n hx hb dX6_books_19 rfl (lv_at hl 1 rfl) ?_
  refine va_get (D := D) (ci := 6) (v := .ref aN) (C := RX6) (T := TX6) (N := 11) hx hb hts i_X6 hown hK.1 hP 0 rfl rfl 0 (by decide) (hts _ wd_811) (fun _ h9 => h9) rfl dX6_books_20 ?_
  refine lv_bipush hx hb dX6_books_23 kc_bipush_9 ?_
  refine lv_iconst hx hb dX6_books_25 kc_iconst_2 ?_
  refine lv_iload_n hx hb dX6_books_26 rfl (lv_at hl 0 rfl) ?_
  refine lv_imul hx hb dX6_books_27 ?_
  refine lv_iadd hx hb dX6_books_28 ?_
  refine lv_iconst hx hb dX6_books_29 kc_iconst_1 ?_
  refine lv_iadd hx hb dX6_books_30 ?_
  refine lv_iload_n hx hb dX6_books_31 rfl (lv_at hl 3 rfl) ?_
  obtain ⟨g2, hF⟩ := gd_at hF
  refine va_iast hx hb hK.1 hP hD hS 1 0 rfl rfl g2 dX6_books_32 (fun H locs hP hD hS => ?_)
  have hP : va_P D vwCl (W6 cI aX aN aP aJ aI aT aD ms ml mt mq mu (upd (upd mN ((9 : Int32) + ((2 : Int32) * (mN (0 : Int32).toNatClampNeg))).toNatClampNeg x1) (((9 : Int32) + ((2 : Int32) * (mN (0 : Int32).toNatClampNeg))) + (1 : Int32)).toNatClampNeg x2) mP mK mI mT mD) H := hP
  have hD : va_D A0 (W6 cI aX aN aP aJ aI aT aD ms ml mt mq mu (upd (upd mN ((9 : Int32) + ((2 : Int32) * (mN (0 : Int32).toNatClampNeg))).toNatClampNeg x1) (((9 : Int32) + ((2 : Int32) * (mN (0 : Int32).toNatClampNeg))) + (1 : Int32)).toNatClampNeg x2) mP mK mI mT mD) := hD
  refine lv_bipush hx hb dX6_books_33 kc_bipush_40 ?_
  refine lv_iload_n hx hb dX6_books_35 rfl (lv_at hl 0 rfl) ?_
  refine lv_imul hx hb dX6_books_36 ?_
  refine lv_istore (lv' := [(4, .int ((40 : Int32) * (mN (0 : Int32).toNatClampNeg))), (3, .int (mN (0 : Int32).toNatClampNeg)), (0, .ref aX), (1, .int x1), (2, .int x2)]) hx hb dX6_books_37 hl (by decide) rfl (fun ls hl => ?_)
  exact W_39 (mN (0 : Int32).toNatClampNeg)  fu ((40 : Int32) * (mN (0 : Int32).toNatClampNeg)) (upd (upd mN ((9 : Int32) + ((2 : Int32) * (mN (0 : Int32).toNatClampNeg))).toNatClampNeg x1) (((9 : Int32) + ((2 : Int32) * (mN (0 : Int32).toNatClampNeg))) + (1 : Int32)).toNatClampNeg x2) _ _ hP hD hS ls (lv_sub hl [2, 1, 0] rfl) hF
abbrev rm6_writes : Room := { frames := 0, cells := 0, slots := 0, locals := 0 }
theorem hd6_writes : yX6_writes.cls = RX6 ∧ yX6_writes.cls ≠ "java/lang/invoke/MethodHandle" ∧ yX6_writes.cls ≠ "java/lang/invoke/VarHandle" ∧ (parseMethodDescriptor yX6_writes.desc).map (fun d => d.parameters.length) = some 2 := by decide +kernel
set_option maxHeartbeats 4000000 in
set_option maxRecDepth 100000 in
theorem K6_writes (l : Launch) (D : va_G) (cI cZ cS cJ : ClassId) (aX aN aP aJ aI aT aD : Nat) (ms : Int32) (ml : Int32) (mt : Int32) (mq : Int32) (mu : Int32) (mN : Nat → Int32) (mP : Nat → Int32) (mK : Nat → Int32) (mI : Nat → Int32) (mT : Nat → Int32) (mD : Nat → Int32) (x1 : Int32) (x2 : Int32) (z_mN : Nat → Int32) (hF : f6_writes mN x1 x2 = some (z_mN)) : Met l yX6_writes wsX6_writes rm6_writes (uP D (gT cI cZ cS cJ) (W6 cI aX aN aP aJ aI aT aD ms ml mt mq mu mN mP mK mI mT mD) [.ref aX, .int x1, .int x2]) (uQ D none (uA (W6 cI aX aN aP aJ aI aT aD ms ml mt mq mu mN mP mK mI mT mD)) (W6 cI aX aN aP aJ aI aT aD ms ml mt mq mu z_mN mP mK mI mT mD)) 0 0 (uA (W6 cI aX aN aP aJ aI aT aD ms ml mt mq mu mN mP mK mI mT mD)) := by
  refine Met.ofW (cc := cX6_writes) (maxL := 3) (ret := none) (by decide) rfl ?_
  intro p e s m args below meth c s₁ B hml hv
  obtain ⟨ha, hK, hP, hD0⟩ := hv
  have hx := B.exec
  have hb := B.bytes
  have hr := B.returns
  have hlocks := B.notSynchronized
  have hts : ∀ w ∈ lw_all, w.before args s = true := fun w h => atoms_spec (ws := wsX6_writes) B.pre w (List.mem_cons_of_mem _ h)
  have hown : s.vm.findClass RX6 = some m.cls := findClass_of_methodNamed B.named
  have S : CallFix p m c cX6_writes 3 s args lw_all RX6 := ⟨hx, hb, hml, hown, hts⟩
  have hD := hD0.own
  generalize uA (W6 cI aX aN aP aJ aI aT aD ms ml mt mq mu mN mP mK mI mT mD) = A0 at hD ⊢
  have hS : va_S A0 s.heap s.heap [] := va_S.rf
  have hl := lv_entry ([.ref aX, .int x1, .int x2] : List Value) (n := 3) (Nat.le_of_ble_eq_true rfl)
  refine W.eq (g2 := F0 m 0 ((lg_sl ([.ref aX, .int x1, .int x2] : List Value) ++ List.replicate (3 - (lg_sl ([.ref aX, .int x1, .int x2] : List Value)).length) Slot.unset).toArray) []) (by rw [ha]; exact lg_entry_eq _ _ _) ?_
  generalize (lg_sl ([.ref aX, .int x1, .int x2] : List Value) ++ List.replicate (3 - (lg_sl ([.ref aX, .int x1, .int x2] : List Value)).length) Slot.unset).toArray = ls at hl ⊢
  have hl : lv_has ls 3 [(0, .ref aX), (1, .int x1), (2, .int x2)] := hl
  rw [f6_writes] at hF
  show uW p l e wsX6_writes rm6_writes s m args below meth c D none A0 (W6 cI aX aN aP aJ aI aT aD ms ml mt mq mu z_mN mP mK mI mT mD) s.heap [] (F0 m 0 ls [])
  refine lv_aload_n hx hb dX6_writes_0 rfl (lv_at hl 0 rfl) ?_
  refine va_get (D := D) (ci := 6) (v := .ref aN) (C := RX6) (T := TX6) (N := 11) hx hb hts i_X6 hown hK.1 hP 0 rfl rfl 0 (by decide) (hts _ wd_811) (fun _ h9 => h9) rfl dX6_writes_1 ?_
  refine lv_bipush hx hb dX6_writes_4 kc_bipush_21 ?_
  refine lv_iload_n hx hb dX6_writes_6 rfl (lv_at hl 1 rfl) ?_
  refine lv_iadd hx hb dX6_writes_7 ?_
  refine lv_iconst hx hb dX6_writes_8 kc_iconst_1 ?_
  obtain ⟨g1, hF⟩ := gd_at hF
  refine va_iast hx hb hK.1 hP hD hS 1 0 rfl rfl g1 dX6_writes_9 (fun H locs hP hD hS => ?_)
  have hP : va_P D vwCl (W6 cI aX aN aP aJ aI aT aD ms ml mt mq mu (upd mN ((21 : Int32) + x1).toNatClampNeg (1 : Int32)) mP mK mI mT mD) H := hP
  have hD : va_D A0 (W6 cI aX aN aP aJ aI aT aD ms ml mt mq mu (upd mN ((21 : Int32) + x1).toNatClampNeg (1 : Int32)) mP mK mI mT mD) := hD
  refine lv_aload_n hx hb dX6_writes_10 rfl (lv_at hl 0 rfl) ?_
  refine va_get (D := D) (ci := 6) (v := .ref aN) (C := RX6) (T := TX6) (N := 11) hx hb hts i_X6 hown hK.1 hP 0 rfl rfl 0 (by decide) (hts _ wd_811) (fun _ h9 => h9) rfl dX6_writes_11 ?_
  refine lv_sipush hx hb dX6_writes_14 kc_sipush_261 ?_
  refine lv_iload_n hx hb dX6_writes_17 rfl (lv_at hl 1 rfl) ?_
  refine lv_iadd hx hb dX6_writes_18 ?_
  refine lv_iload_n hx hb dX6_writes_19 rfl (lv_at hl 2 rfl) ?_
  obtain ⟨g2, hF⟩ := gd_at hF
  refine va_iast hx hb hK.1 hP hD hS 1 0 rfl rfl g2 dX6_writes_20 (fun H locs hP hD hS => ?_)
  have hP : va_P D vwCl (W6 cI aX aN aP aJ aI aT aD ms ml mt mq mu (upd (upd mN ((21 : Int32) + x1).toNatClampNeg (1 : Int32)) ((261 : Int32) + x1).toNatClampNeg x2) mP mK mI mT mD) H := hP
  have hD : va_D A0 (W6 cI aX aN aP aJ aI aT aD ms ml mt mq mu (upd (upd mN ((21 : Int32) + x1).toNatClampNeg (1 : Int32)) ((261 : Int32) + x1).toNatClampNeg x2) mP mK mI mT mD) := hD
  cases hF
  exact uretv hx hb hr hlocks hP hS dX6_writes_21
abbrev rm6_cashes : Room := { frames := 2, cells := 0, slots := 0, locals := 46 }
theorem hd6_cashes : yX6_cashes.cls = RX6 ∧ yX6_cashes.cls ≠ "java/lang/invoke/MethodHandle" ∧ yX6_cashes.cls ≠ "java/lang/invoke/VarHandle" ∧ (parseMethodDescriptor yX6_cashes.desc).map (fun d => d.parameters.length) = some 2 := by decide +kernel
set_option maxHeartbeats 4000000 in
set_option maxRecDepth 100000 in
theorem K6_cashes (l : Launch) (D : va_G) (cI cZ cS cJ : ClassId) (aX aN aP aJ aI aT aD : Nat) (ms : Int32) (ml : Int32) (mt : Int32) (mq : Int32) (mu : Int32) (mN : Nat → Int32) (mP : Nat → Int32) (mK : Nat → Int32) (mI : Nat → Int32) (mT : Nat → Int32) (mD : Nat → Int32) (x1 : Int32) (x2 : Int32) (r : Int32) (z_mN : Nat → Int32) (hF : f6_cashes mN x1 x2 = some (r, z_mN)) : Met l yX6_cashes wsX6_cashes rm6_cashes (uP D (gT cI cZ cS cJ) (W6 cI aX aN aP aJ aI aT aD ms ml mt mq mu mN mP mK mI mT mD) [.ref aX, .int x1, .int x2]) (uQ D (some (.int r)) (uA (W6 cI aX aN aP aJ aI aT aD ms ml mt mq mu mN mP mK mI mT mD)) (W6 cI aX aN aP aJ aI aT aD ms ml mt mq mu z_mN mP mK mI mT mD)) 0 0 (uA (W6 cI aX aN aP aJ aI aT aD ms ml mt mq mu mN mP mK mI mT mD)) := by
  refine Met.ofW (cc := cX6_cashes) (maxL := 5) (ret := (some .int)) (by decide) rfl ?_
  intro p e s m args below meth c s₁ B hml hv
  obtain ⟨ha, hK, hP, hD0⟩ := hv
  have hx := B.exec
  have hb := B.bytes
  have hr := B.returns
  have hlocks := B.notSynchronized
  have hts : ∀ w ∈ lw_all, w.before args s = true := fun w h => atoms_spec (ws := wsX6_cashes) B.pre w (List.mem_cons_of_mem _ h)
  have hown : s.vm.findClass RX6 = some m.cls := findClass_of_methodNamed B.named
  have S : CallFix p m c cX6_cashes 5 s args lw_all RX6 := ⟨hx, hb, hml, hown, hts⟩
  have hD := hD0.own
  generalize uA (W6 cI aX aN aP aJ aI aT aD ms ml mt mq mu mN mP mK mI mT mD) = A0 at hD ⊢
  have hS : va_S A0 s.heap s.heap [] := va_S.rf
  have hl := lv_entry ([.ref aX, .int x1, .int x2] : List Value) (n := 5) (Nat.le_of_ble_eq_true rfl)
  refine W.eq (g2 := F0 m 0 ((lg_sl ([.ref aX, .int x1, .int x2] : List Value) ++ List.replicate (5 - (lg_sl ([.ref aX, .int x1, .int x2] : List Value)).length) Slot.unset).toArray) []) (by rw [ha]; exact lg_entry_eq _ _ _) ?_
  generalize (lg_sl ([.ref aX, .int x1, .int x2] : List Value) ++ List.replicate (5 - (lg_sl ([.ref aX, .int x1, .int x2] : List Value)).length) Slot.unset).toArray = ls at hl ⊢
  have hl : lv_has ls 5 [(0, .ref aX), (1, .int x1), (2, .int x2)] := hl
  clear ha
  have W_46 : ∀ (mN : Nat → Int32) (x3 : Int32) (s0 : Int32), ∀ (H : Heap) (locs : List Loc), va_P D vwCl (W6 cI aX aN aP aJ aI aT aD ms ml mt mq mu mN mP mK mI mT mD) H → va_D A0 (W6 cI aX aN aP aJ aI aT aD ms ml mt mq mu mN mP mK mI mT mD) → va_S A0 s.heap H locs → ∀ (ls : Array Slot), lv_has ls 5 [(0, .ref aX), (3, .int x3)] → f6_cashes_j46 mN x3 s0 = some (r, z_mN) → uW p l e wsX6_cashes rm6_cashes s m args below meth c D (some (.int r)) A0 (W6 cI aX aN aP aJ aI aT aD ms ml mt mq mu z_mN mP mK mI mT mD) H locs (F0 m 46 ls [.int s0]) := by
    intro mN x3 s0  H locs hP hD hS ls hl hF
    rw [f6_cashes_j46] at hF
    refine lv_istore (lv' := [(4, .int s0), (0, .ref aX), (3, .int x3)]) hx hb dX6_cashes_46 hl (by decide) rfl (fun ls hl => ?_)
    refine lv_iload hx hb dX6_cashes_48 (lv_at hl 0 rfl) ?_
    refine lv_if_le (tgt := 67) hx hb dX6_cashes_50 (by decide) (fun c9 => ?_) (fun c9 => ?_)
    · have hF := ite_t c9 hF
      refine lv_aload_n hx hb dX6_cashes_67 rfl (lv_at hl 1 rfl) ?_
      refine va_get (D := D) (ci := 6) (v := .ref aN) (C := RX6) (T := TX6) (N := 11) hx hb hts i_X6 hown hK.1 hP 0 rfl rfl 0 (by decide) (hts _ wd_811) (fun _ h9 => h9) rfl dX6_cashes_68 ?_
      refine lv_bipush hx hb dX6_cashes_71 kc_bipush_21 ?_
      refine lv_iload_n hx hb dX6_cashes_73 rfl (lv_at hl 2 rfl) ?_
      refine lv_iadd hx hb dX6_cashes_74 ?_
      refine lv_iconst hx hb dX6_cashes_75 kc_iconst_2 ?_
      obtain ⟨g10, hF⟩ := gd_at hF
      refine va_iast hx hb hK.1 hP hD hS 1 0 rfl rfl g10 dX6_cashes_76 (fun H locs hP hD hS => ?_)
      have hP : va_P D vwCl (W6 cI aX aN aP aJ aI aT aD ms ml mt mq mu (upd mN ((21 : Int32) + x3).toNatClampNeg (2 : Int32)) mP mK mI mT mD) H := hP
      have hD : va_D A0 (W6 cI aX aN aP aJ aI aT aD ms ml mt mq mu (upd mN ((21 : Int32) + x3).toNatClampNeg (2 : Int32)) mP mK mI mT mD) := hD
      refine lv_aload_n hx hb dX6_cashes_77 rfl (lv_at hl 1 rfl) ?_
      refine va_get (D := D) (ci := 6) (v := .ref aN) (C := RX6) (T := TX6) (N := 11) hx hb hts i_X6 hown hK.1 hP 0 rfl rfl 0 (by decide) (hts _ wd_811) (fun _ h9 => h9) rfl dX6_cashes_78 ?_
      refine lv_sipush hx hb dX6_cashes_81 kc_sipush_261 ?_
      refine lv_iload_n hx hb dX6_cashes_84 rfl (lv_at hl 2 rfl) ?_
      refine lv_iadd hx hb dX6_cashes_85 ?_
      obtain ⟨g11, hF⟩ := gd_at hF
      refine va_iald hx hb hK.1 hP 1 0 rfl rfl g11 dX6_cashes_86 ?_
      cases hF
      exact ureti hx hb hr hlocks hP hS dX6_cashes_87
    · have hF := ite_f c9 hF
      refine lv_aload_n hx hb dX6_cashes_53 rfl (lv_at hl 1 rfl) ?_
      refine va_get (D := D) (ci := 6) (v := .ref aN) (C := RX6) (T := TX6) (N := 11) hx hb hts i_X6 hown hK.1 hP 0 rfl rfl 0 (by decide) (hts _ wd_811) (fun _ h9 => h9) rfl dX6_cashes_54 ?_
      refine lv_iconst hx hb dX6_cashes_57 kc_iconst_2 ?_
      refine lv_dup2_11 hx hb dX6_cashes_58 rfl rfl ?_
      refine va_iald hx hb hK.1 hP 1 0 rfl rfl (inb_lit (by decide)) dX6_cashes_59 ?_
      refine lv_iconst hx hb dX6_cashes_60 kc_iconst_1 ?_
      refine lv_iadd hx hb dX6_cashes_61 ?_
      refine va_iast hx hb hK.1 hP hD hS 1 0 rfl rfl (inb_lit (by decide)) dX6_cashes_62 (fun H locs hP hD hS => ?_)
      have hP : va_P D vwCl (W6 cI aX aN aP aJ aI aT aD ms ml mt mq mu (upd mN (2 : Int32).toNatClampNeg ((mN (2 : Int32).toNatClampNeg) + (1 : Int32))) mP mK mI mT mD) H := hP
      have hD : va_D A0 (W6 cI aX aN aP aJ aI aT aD ms ml mt mq mu (upd mN (2 : Int32).toNatClampNeg ((mN (2 : Int32).toNatClampNeg) + (1 : Int32))) mP mK mI mT mD) := hD
      refine lv_iload hx hb dX6_cashes_63 (lv_at hl 0 rfl) ?_
      refine lv_ineg hx hb dX6_cashes_65 ?_
      cases hF
      exact ureti hx hb hr hlocks hP hS dX6_cashes_66
  rw [f6_cashes] at hF
  show uW p l e wsX6_cashes rm6_cashes s m args below meth c D (some (.int r)) A0 (W6 cI aX aN aP aJ aI aT aD ms ml mt mq mu z_mN mP mK mI mT mD) s.heap [] (F0 m 0 ls [])
  refine lv_aload_n hx hb dX6_cashes_0 rfl (lv_at hl 0 rfl) ?_
  refine lv_iload_n hx hb dX6_cashes_1 rfl (lv_at hl 1 rfl) ?_
  obtain ⟨q2, h1, hF⟩ := bd1_at hF
  refine rcall (va_runV (As := [.int x1]) (rest := []) S (K6_spotOf l D cI cZ cS cJ aX aN aP aJ aI aT aD ms ml mt mq mu mN mP mK mI mT mD x1 q2 h1) (cwV 1 hts (gd_V wd_903 wd_905 wd_28 wd_67 wd_906) rfl rfl rfl hd6_spotOf ⟨Nat.le_of_ble_eq_true rfl, Nat.le_of_ble_eq_true rfl⟩) (rPreV hK hP (ci := 6) (q := (RX6, TX6, 11)) rfl rfl) rfl rfl hl.1 rfl (lv_room (Nat.le_of_ble_eq_true rfl)) dX6_cashes_2 ⟨(Nat.zero_le _), (Nat.zero_le _)⟩) ?_
  refine lv_istore_n (lv' := [(3, .int q2), (0, .ref aX), (1, .int x1), (2, .int x2)]) hx hb dX6_cashes_5 rfl hl (by decide) rfl (fun ls hl => ?_)
  refine lv_iload_n hx hb dX6_cashes_6 rfl (lv_at hl 3 rfl) ?_
  refine lv_aload_n hx hb dX6_cashes_7 rfl (lv_at hl 1 rfl) ?_
  refine lv_iload_n hx hb dX6_cashes_8 rfl (lv_at hl 2 rfl) ?_
  obtain ⟨q4, h3, hF⟩ := bd1_at hF
  refine rcall (va_runV (As := [.int x1]) (rest := [.int x2]) S (K6_letterOf l D cI cZ cS cJ aX aN aP aJ aI aT aD ms ml mt mq mu mN mP mK mI mT mD x1 q4 h3) (cwV 1 hts (gd_V wd_911 wd_913 wd_30 wd_67 wd_914) rfl rfl rfl hd6_letterOf ⟨Nat.le_of_ble_eq_true rfl, Nat.le_of_ble_eq_true rfl⟩) (rPreV hK hP (ci := 6) (q := (RX6, TX6, 11)) rfl rfl) rfl rfl hl.1 rfl (lv_room (Nat.le_of_ble_eq_true rfl)) dX6_cashes_9 ⟨(Nat.zero_le _), (Nat.zero_le _)⟩) ?_
  refine lv_icmp_eq (tgt := 19) hx hb dX6_cashes_12 (by decide) (fun c5 => ?_) (fun c5 => ?_)
  · have hF := ite_t c5 hF
    refine lv_iload_n hx hb dX6_cashes_19 rfl (lv_at hl 0 rfl) ?_
    refine lv_iconst hx hb dX6_cashes_20 kc_iconst_m1 ?_
    refine lv_icmp_ne (tgt := 28) hx hb dX6_cashes_21 (by decide) (fun c6 => ?_) (fun c6 => ?_)
    · have hF := ite_f c6 hF
      refine lv_aload_n hx hb dX6_cashes_28 rfl (lv_at hl 1 rfl) ?_
      refine va_get (D := D) (ci := 6) (v := .ref aN) (C := RX6) (T := TX6) (N := 11) hx hb hts i_X6 hown hK.1 hP 0 rfl rfl 0 (by decide) (hts _ wd_811) (fun _ h9 => h9) rfl dX6_cashes_29 ?_
      refine lv_bipush hx hb dX6_cashes_32 kc_bipush_21 ?_
      refine lv_iload_n hx hb dX6_cashes_34 rfl (lv_at hl 0 rfl) ?_
      refine lv_iadd hx hb dX6_cashes_35 ?_
      obtain ⟨g7, hF⟩ := gd_at hF
      refine va_iald hx hb hK.1 hP 1 0 rfl rfl g7 dX6_cashes_36 ?_
      refine lv_iconst hx hb dX6_cashes_37 kc_iconst_1 ?_
      refine lv_icmp_eq (tgt := 45) hx hb dX6_cashes_38 (by decide) (fun c8 => ?_) (fun c8 => ?_)
      · rw [if_pos c8] at hF
        refine lv_iconst hx hb dX6_cashes_45 kc_iconst_0 ?_
        exact W_46 mN q2 (0 : Int32)  _ _ hP hD hS ls (lv_sub hl [1, 0] rfl) hF
      · rw [if_neg c8] at hF
        refine lv_iconst hx hb dX6_cashes_41 kc_iconst_3 ?_
        refine lv_goto (tgt := 46) hx hb dX6_cashes_42 (by decide) ?_
        exact W_46 mN q2 (3 : Int32)  _ _ hP hD hS ls (lv_sub hl [1, 0] rfl) hF
    · have hF := ite_t c6 hF
      refine lv_iconst hx hb dX6_cashes_24 kc_iconst_2 ?_
      refine lv_goto (tgt := 46) hx hb dX6_cashes_25 (by decide) ?_
      exact W_46 mN q2 (2 : Int32)  _ _ hP hD hS ls (lv_sub hl [1, 0] rfl) hF
  · have hF := ite_f c5 hF
    refine lv_iconst hx hb dX6_cashes_15 kc_iconst_1 ?_
    refine lv_goto (tgt := 46) hx hb dX6_cashes_16 (by decide) ?_
    exact W_46 mN q2 (1 : Int32)  _ _ hP hD hS ls (lv_sub hl [1, 0] rfl) hF
abbrev rm6_voids : Room := { frames := 2, cells := 0, slots := 0, locals := 42 }
theorem hd6_voids : yX6_voids.cls = RX6 ∧ yX6_voids.cls ≠ "java/lang/invoke/MethodHandle" ∧ yX6_voids.cls ≠ "java/lang/invoke/VarHandle" ∧ (parseMethodDescriptor yX6_voids.desc).map (fun d => d.parameters.length) = some 2 := by decide +kernel
set_option maxHeartbeats 4000000 in
set_option maxRecDepth 100000 in
theorem K6_voids (l : Launch) (D : va_G) (cI cZ cS cJ : ClassId) (aX aN aP aJ aI aT aD : Nat) (ms : Int32) (ml : Int32) (mt : Int32) (mq : Int32) (mu : Int32) (mN : Nat → Int32) (mP : Nat → Int32) (mK : Nat → Int32) (mI : Nat → Int32) (mT : Nat → Int32) (mD : Nat → Int32) (x1 : Int32) (x2 : Int32) (r : Int32) (z_mN : Nat → Int32) (hF : f6_voids mN x1 x2 = some (r, z_mN)) : Met l yX6_voids wsX6_voids rm6_voids (uP D (gT cI cZ cS cJ) (W6 cI aX aN aP aJ aI aT aD ms ml mt mq mu mN mP mK mI mT mD) [.ref aX, .int x1, .int x2]) (uQ D (some (.int r)) (uA (W6 cI aX aN aP aJ aI aT aD ms ml mt mq mu mN mP mK mI mT mD)) (W6 cI aX aN aP aJ aI aT aD ms ml mt mq mu z_mN mP mK mI mT mD)) 0 0 (uA (W6 cI aX aN aP aJ aI aT aD ms ml mt mq mu mN mP mK mI mT mD)) := by
  refine Met.ofW (cc := cX6_voids) (maxL := 6) (ret := (some .int)) (by decide) rfl ?_
  intro p e s m args below meth c s₁ B hml hv
  obtain ⟨ha, hK, hP, hD0⟩ := hv
  have hx := B.exec
  have hb := B.bytes
  have hr := B.returns
  have hlocks := B.notSynchronized
  have hts : ∀ w ∈ lw_all, w.before args s = true := fun w h => atoms_spec (ws := wsX6_voids) B.pre w (List.mem_cons_of_mem _ h)
  have hown : s.vm.findClass RX6 = some m.cls := findClass_of_methodNamed B.named
  have S : CallFix p m c cX6_voids 6 s args lw_all RX6 := ⟨hx, hb, hml, hown, hts⟩
  have hD := hD0.own
  generalize uA (W6 cI aX aN aP aJ aI aT aD ms ml mt mq mu mN mP mK mI mT mD) = A0 at hD ⊢
  have hS : va_S A0 s.heap s.heap [] := va_S.rf
  have hl := lv_entry ([.ref aX, .int x1, .int x2] : List Value) (n := 6) (Nat.le_of_ble_eq_true rfl)
  refine W.eq (g2 := F0 m 0 ((lg_sl ([.ref aX, .int x1, .int x2] : List Value) ++ List.replicate (6 - (lg_sl ([.ref aX, .int x1, .int x2] : List Value)).length) Slot.unset).toArray) []) (by rw [ha]; exact lg_entry_eq _ _ _) ?_
  generalize (lg_sl ([.ref aX, .int x1, .int x2] : List Value) ++ List.replicate (6 - (lg_sl ([.ref aX, .int x1, .int x2] : List Value)).length) Slot.unset).toArray = ls at hl ⊢
  have hl : lv_has ls 6 [(0, .ref aX), (1, .int x1), (2, .int x2)] := hl
  clear ha
  have W_134 : ∀ (mN : Nat → Int32) (x1 : Int32) (x2 : Int32) (x4 : Int32) (s0 : Int32) (s1 : Int32) (k5 : Int32 → Int32 → (Nat → Int32) → Option (Int32 × (Nat → Int32))) (hk5 : ∀ (x3 : Int32) (x4 : Int32) (mN : Nat → Int32), ∀ (H : Heap) (locs : List Loc), va_P D vwCl (W6 cI aX aN aP aJ aI aT aD ms ml mt mq mu mN mP mK mI mT mD) H → va_D A0 (W6 cI aX aN aP aJ aI aT aD ms ml mt mq mu mN mP mK mI mT mD) → va_S A0 s.heap H locs → ∀ (ls : Array Slot), lv_has ls 6 [(0, .ref aX), (1, .int x1), (2, .int x2), (3, .int x3), (4, .int x4)] → k5 x3 x4 mN = some (r, z_mN) → uW p l e wsX6_voids rm6_voids s m args below meth c D (some (.int r)) A0 (W6 cI aX aN aP aJ aI aT aD ms ml mt mq mu z_mN mP mK mI mT mD) H locs (F0 m 5 ls [])), ∀ (H : Heap) (locs : List Loc), va_P D vwCl (W6 cI aX aN aP aJ aI aT aD ms ml mt mq mu mN mP mK mI mT mD) H → va_D A0 (W6 cI aX aN aP aJ aI aT aD ms ml mt mq mu mN mP mK mI mT mD) → va_S A0 s.heap H locs → ∀ (ls : Array Slot), lv_has ls 6 [(0, .ref aX), (1, .int x1), (2, .int x2), (4, .int x4)] → f6_voids_j134 k5 mN x1 x2 x4 s0 s1 = some (r, z_mN) → uW p l e wsX6_voids rm6_voids s m args below meth c D (some (.int r)) A0 (W6 cI aX aN aP aJ aI aT aD ms ml mt mq mu z_mN mP mK mI mT mD) H locs (F0 m 134 ls [.int s0, .int s1]) := by
    intro mN x1 x2 x4 s0 s1 k5 hk5 H locs hP hD hS ls hl hF
    rw [f6_voids_j134] at hF
    refine lv_iadd hx hb dX6_voids_134 ?_
    refine lv_istore_n (lv' := [(3, .int (s1 + s0)), (0, .ref aX), (1, .int x1), (2, .int x2), (4, .int x4)]) hx hb dX6_voids_135 rfl hl (by decide) rfl (fun ls hl => ?_)
    refine lv_iinc (v := (x4 + 1)) (lv' := [(4, .int (x4 + 1)), (3, .int (s1 + s0)), (0, .ref aX), (1, .int x1), (2, .int x2)]) hx hb dX6_voids_136 hl (k := 4) rfl rfl (by decide) rfl (fun ls hl => ?_)
    refine lv_goto (tgt := 5) hx hb dX6_voids_139 (by decide) ?_
    exact hk5 (s1 + s0) (x4 + 1) mN _ _ hP hD hS ls (lv_sub hl [2, 3, 4, 1, 0] rfl) hF
  have W_122 : ∀ (mN : Nat → Int32) (x1 : Int32) (x2 : Int32) (x3 : Int32) (x4 : Int32) (x5 : Int32) (s0 : Int32) (s1 : Int32) (k5 : Int32 → Int32 → (Nat → Int32) → Option (Int32 × (Nat → Int32))) (hk5 : ∀ (x3 : Int32) (x4 : Int32) (mN : Nat → Int32), ∀ (H : Heap) (locs : List Loc), va_P D vwCl (W6 cI aX aN aP aJ aI aT aD ms ml mt mq mu mN mP mK mI mT mD) H → va_D A0 (W6 cI aX aN aP aJ aI aT aD ms ml mt mq mu mN mP mK mI mT mD) → va_S A0 s.heap H locs → ∀ (ls : Array Slot), lv_has ls 6 [(0, .ref aX), (1, .int x1), (2, .int x2), (3, .int x3), (4, .int x4)] → k5 x3 x4 mN = some (r, z_mN) → uW p l e wsX6_voids rm6_voids s m args below meth c D (some (.int r)) A0 (W6 cI aX aN aP aJ aI aT aD ms ml mt mq mu z_mN mP mK mI mT mD) H locs (F0 m 5 ls [])), ∀ (H : Heap) (locs : List Loc), va_P D vwCl (W6 cI aX aN aP aJ aI aT aD ms ml mt mq mu mN mP mK mI mT mD) H → va_D A0 (W6 cI aX aN aP aJ aI aT aD ms ml mt mq mu mN mP mK mI mT mD) → va_S A0 s.heap H locs → ∀ (ls : Array Slot), lv_has ls 6 [(0, .ref aX), (1, .int x1), (2, .int x2), (3, .int x3), (4, .int x4), (5, .int x5)] → f6_voids_j122 k5 mN x1 x2 x3 x4 x5 s0 s1 = some (r, z_mN) → uW p l e wsX6_voids rm6_voids s m args below meth c D (some (.int r)) A0 (W6 cI aX aN aP aJ aI aT aD ms ml mt mq mu z_mN mP mK mI mT mD) H locs (F0 m 122 ls [.int s0, .int s1, .ref aN]) := by
    intro mN x1 x2 x3 x4 x5 s0 s1 k5 hk5 H locs hP hD hS ls hl hF
    rw [f6_voids_j122] at hF
    obtain ⟨g17, hF⟩ := gd_at hF
    refine va_iast hx hb hK.1 hP hD hS 1 0 rfl rfl g17 dX6_voids_122 (fun H locs hP hD hS => ?_)
    have hP : va_P D vwCl (W6 cI aX aN aP aJ aI aT aD ms ml mt mq mu (upd mN s1.toNatClampNeg s0) mP mK mI mT mD) H := hP
    have hD : va_D A0 (W6 cI aX aN aP aJ aI aT aD ms ml mt mq mu (upd mN s1.toNatClampNeg s0) mP mK mI mT mD) := hD
    refine lv_iload_n hx hb dX6_voids_123 rfl (lv_at hl 3 rfl) ?_
    refine lv_iload hx hb dX6_voids_124 (lv_at hl 5 rfl) ?_
    refine lv_if_eq (tgt := 133) hx hb dX6_voids_126 (by decide) (fun c18 => ?_) (fun c18 => ?_)
    · rw [if_pos c18] at hF
      refine lv_iconst hx hb dX6_voids_133 kc_iconst_0 ?_
      exact W_134 (upd mN s1.toNatClampNeg s0) x1 x2 x4 (0 : Int32) x3 k5 hk5 _ _ hP hD hS ls (lv_sub hl [0, 1, 2, 4] rfl) hF
    · rw [if_neg c18] at hF
      refine lv_iconst hx hb dX6_voids_129 kc_iconst_1 ?_
      refine lv_goto (tgt := 134) hx hb dX6_voids_130 (by decide) ?_
      exact W_134 (upd mN s1.toNatClampNeg s0) x1 x2 x4 (1 : Int32) x3 k5 hk5 _ _ hP hD hS ls (lv_sub hl [0, 1, 2, 4] rfl) hF
  have W_91 : ∀ (mN : Nat → Int32) (x1 : Int32) (x2 : Int32) (x3 : Int32) (x4 : Int32) (x5 : Int32) (s0 : Int32) (s1 : Int32) (k5 : Int32 → Int32 → (Nat → Int32) → Option (Int32 × (Nat → Int32))) (hk5 : ∀ (x3 : Int32) (x4 : Int32) (mN : Nat → Int32), ∀ (H : Heap) (locs : List Loc), va_P D vwCl (W6 cI aX aN aP aJ aI aT aD ms ml mt mq mu mN mP mK mI mT mD) H → va_D A0 (W6 cI aX aN aP aJ aI aT aD ms ml mt mq mu mN mP mK mI mT mD) → va_S A0 s.heap H locs → ∀ (ls : Array Slot), lv_has ls 6 [(0, .ref aX), (1, .int x1), (2, .int x2), (3, .int x3), (4, .int x4)] → k5 x3 x4 mN = some (r, z_mN) → uW p l e wsX6_voids rm6_voids s m args below meth c D (some (.int r)) A0 (W6 cI aX aN aP aJ aI aT aD ms ml mt mq mu z_mN mP mK mI mT mD) H locs (F0 m 5 ls [])), ∀ (H : Heap) (locs : List Loc), va_P D vwCl (W6 cI aX aN aP aJ aI aT aD ms ml mt mq mu mN mP mK mI mT mD) H → va_D A0 (W6 cI aX aN aP aJ aI aT aD ms ml mt mq mu mN mP mK mI mT mD) → va_S A0 s.heap H locs → ∀ (ls : Array Slot), lv_has ls 6 [(0, .ref aX), (1, .int x1), (2, .int x2), (3, .int x3), (4, .int x4), (5, .int x5)] → f6_voids_j91 k5 mN x1 x2 x3 x4 x5 s0 s1 = some (r, z_mN) → uW p l e wsX6_voids rm6_voids s m args below meth c D (some (.int r)) A0 (W6 cI aX aN aP aJ aI aT aD ms ml mt mq mu z_mN mP mK mI mT mD) H locs (F0 m 91 ls [.int s0, .int s1, .ref aN]) := by
    intro mN x1 x2 x3 x4 x5 s0 s1 k5 hk5 H locs hP hD hS ls hl hF
    rw [f6_voids_j91] at hF
    obtain ⟨g14, hF⟩ := gd_at hF
    refine va_iast hx hb hK.1 hP hD hS 1 0 rfl rfl g14 dX6_voids_91 (fun H locs hP hD hS => ?_)
    have hP : va_P D vwCl (W6 cI aX aN aP aJ aI aT aD ms ml mt mq mu (upd mN s1.toNatClampNeg s0) mP mK mI mT mD) H := hP
    have hD : va_D A0 (W6 cI aX aN aP aJ aI aT aD ms ml mt mq mu (upd mN s1.toNatClampNeg s0) mP mK mI mT mD) := hD
    refine lv_aload_n hx hb dX6_voids_92 rfl (lv_at hl 0 rfl) ?_
    refine va_get (D := D) (ci := 6) (v := .ref aN) (C := RX6) (T := TX6) (N := 11) hx hb hts i_X6 hown hK.1 hP 0 rfl rfl 0 (by decide) (hts _ wd_811) (fun _ h9 => h9) rfl dX6_voids_93 ?_
    refine lv_sipush hx hb dX6_voids_96 kc_sipush_261 ?_
    refine lv_iload hx hb dX6_voids_99 (lv_at hl 4 rfl) ?_
    refine lv_iadd hx hb dX6_voids_101 ?_
    refine lv_iload hx hb dX6_voids_102 (lv_at hl 5 rfl) ?_
    refine lv_if_eq (tgt := 111) hx hb dX6_voids_104 (by decide) (fun c15 => ?_) (fun c15 => ?_)
    · have hF := ite_t c15 hF
      refine lv_aload_n hx hb dX6_voids_111 rfl (lv_at hl 0 rfl) ?_
      refine va_get (D := D) (ci := 6) (v := .ref aN) (C := RX6) (T := TX6) (N := 11) hx hb hts i_X6 hown hK.1 hP 0 rfl rfl 0 (by decide) (hts _ wd_811) (fun _ h9 => h9) rfl dX6_voids_112 ?_
      refine lv_sipush hx hb dX6_voids_115 kc_sipush_261 ?_
      refine lv_iload hx hb dX6_voids_118 (lv_at hl 4 rfl) ?_
      refine lv_iadd hx hb dX6_voids_120 ?_
      obtain ⟨g16, hF⟩ := gd_at hF
      refine va_iald hx hb hK.1 hP 1 0 rfl rfl g16 dX6_voids_121 ?_
      exact W_122 (upd mN s1.toNatClampNeg s0) x1 x2 x3 x4 x5 ((upd mN s1.toNatClampNeg s0) ((261 : Int32) + x4).toNatClampNeg) ((261 : Int32) + x4) k5 hk5 _ _ hP hD hS ls (lv_sub hl [0, 1, 2, 3, 4, 5] rfl) hF
    · have hF := ite_f c15 hF
      refine lv_iconst hx hb dX6_voids_107 kc_iconst_0 ?_
      refine lv_goto (tgt := 122) hx hb dX6_voids_108 (by decide) ?_
      exact W_122 (upd mN s1.toNatClampNeg s0) x1 x2 x3 x4 x5 (0 : Int32) ((261 : Int32) + x4) k5 hk5 _ _ hP hD hS ls (lv_sub hl [0, 1, 2, 3, 4, 5] rfl) hF
  have W_61 : ∀ (mN : Nat → Int32) (x1 : Int32) (x2 : Int32) (x3 : Int32) (x4 : Int32) (s0 : Int32) (k5 : Int32 → Int32 → (Nat → Int32) → Option (Int32 × (Nat → Int32))) (hk5 : ∀ (x3 : Int32) (x4 : Int32) (mN : Nat → Int32), ∀ (H : Heap) (locs : List Loc), va_P D vwCl (W6 cI aX aN aP aJ aI aT aD ms ml mt mq mu mN mP mK mI mT mD) H → va_D A0 (W6 cI aX aN aP aJ aI aT aD ms ml mt mq mu mN mP mK mI mT mD) → va_S A0 s.heap H locs → ∀ (ls : Array Slot), lv_has ls 6 [(0, .ref aX), (1, .int x1), (2, .int x2), (3, .int x3), (4, .int x4)] → k5 x3 x4 mN = some (r, z_mN) → uW p l e wsX6_voids rm6_voids s m args below meth c D (some (.int r)) A0 (W6 cI aX aN aP aJ aI aT aD ms ml mt mq mu z_mN mP mK mI mT mD) H locs (F0 m 5 ls [])), ∀ (H : Heap) (locs : List Loc), va_P D vwCl (W6 cI aX aN aP aJ aI aT aD ms ml mt mq mu mN mP mK mI mT mD) H → va_D A0 (W6 cI aX aN aP aJ aI aT aD ms ml mt mq mu mN mP mK mI mT mD) → va_S A0 s.heap H locs → ∀ (ls : Array Slot), lv_has ls 6 [(0, .ref aX), (1, .int x1), (2, .int x2), (3, .int x3), (4, .int x4)] → f6_voids_j61 k5 mN x1 x2 x3 x4 s0 = some (r, z_mN) → uW p l e wsX6_voids rm6_voids s m args below meth c D (some (.int r)) A0 (W6 cI aX aN aP aJ aI aT aD ms ml mt mq mu z_mN mP mK mI mT mD) H locs (F0 m 61 ls [.int s0]) := by
    intro mN x1 x2 x3 x4 s0 k5 hk5 H locs hP hD hS ls hl hF
    rw [f6_voids_j61] at hF
    refine lv_istore (lv' := [(5, .int s0), (0, .ref aX), (1, .int x1), (2, .int x2), (3, .int x3), (4, .int x4)]) hx hb dX6_voids_61 hl (by decide) rfl (fun ls hl => ?_)
    refine lv_aload_n hx hb dX6_voids_63 rfl (lv_at hl 1 rfl) ?_
    refine va_get (D := D) (ci := 6) (v := .ref aN) (C := RX6) (T := TX6) (N := 11) hx hb hts i_X6 hown hK.1 hP 0 rfl rfl 0 (by decide) (hts _ wd_811) (fun _ h9 => h9) rfl dX6_voids_64 ?_
    refine lv_bipush hx hb dX6_voids_67 kc_bipush_21 ?_
    refine lv_iload hx hb dX6_voids_69 (lv_at hl 5 rfl) ?_
    refine lv_iadd hx hb dX6_voids_71 ?_
    refine lv_iload hx hb dX6_voids_72 (lv_at hl 0 rfl) ?_
    refine lv_if_eq (tgt := 81) hx hb dX6_voids_74 (by decide) (fun c12 => ?_) (fun c12 => ?_)
    · have hF := ite_t c12 hF
      refine lv_aload_n hx hb dX6_voids_81 rfl (lv_at hl 1 rfl) ?_
      refine va_get (D := D) (ci := 6) (v := .ref aN) (C := RX6) (T := TX6) (N := 11) hx hb hts i_X6 hown hK.1 hP 0 rfl rfl 0 (by decide) (hts _ wd_811) (fun _ h9 => h9) rfl dX6_voids_82 ?_
      refine lv_bipush hx hb dX6_voids_85 kc_bipush_21 ?_
      refine lv_iload hx hb dX6_voids_87 (lv_at hl 5 rfl) ?_
      refine lv_iadd hx hb dX6_voids_89 ?_
      obtain ⟨g13, hF⟩ := gd_at hF
      refine va_iald hx hb hK.1 hP 1 0 rfl rfl g13 dX6_voids_90 ?_
      exact W_91 mN x1 x2 x3 x4 s0 (mN ((21 : Int32) + x4).toNatClampNeg) ((21 : Int32) + x4) k5 hk5 _ _ hP hD hS ls (lv_sub hl [1, 2, 3, 4, 5, 0] rfl) hF
    · have hF := ite_f c12 hF
      refine lv_iconst hx hb dX6_voids_77 kc_iconst_3 ?_
      refine lv_goto (tgt := 91) hx hb dX6_voids_78 (by decide) ?_
      exact W_91 mN x1 x2 x3 x4 s0 (3 : Int32) ((21 : Int32) + x4) k5 hk5 _ _ hP hD hS ls (lv_sub hl [1, 2, 3, 4, 5, 0] rfl) hF
  have W_60 : ∀ (mN : Nat → Int32) (x1 : Int32) (x2 : Int32) (x3 : Int32) (x4 : Int32) (k5 : Int32 → Int32 → (Nat → Int32) → Option (Int32 × (Nat → Int32))) (hk5 : ∀ (x3 : Int32) (x4 : Int32) (mN : Nat → Int32), ∀ (H : Heap) (locs : List Loc), va_P D vwCl (W6 cI aX aN aP aJ aI aT aD ms ml mt mq mu mN mP mK mI mT mD) H → va_D A0 (W6 cI aX aN aP aJ aI aT aD ms ml mt mq mu mN mP mK mI mT mD) → va_S A0 s.heap H locs → ∀ (ls : Array Slot), lv_has ls 6 [(0, .ref aX), (1, .int x1), (2, .int x2), (3, .int x3), (4, .int x4)] → k5 x3 x4 mN = some (r, z_mN) → uW p l e wsX6_voids rm6_voids s m args below meth c D (some (.int r)) A0 (W6 cI aX aN aP aJ aI aT aD ms ml mt mq mu z_mN mP mK mI mT mD) H locs (F0 m 5 ls [])), ∀ (H : Heap) (locs : List Loc), va_P D vwCl (W6 cI aX aN aP aJ aI aT aD ms ml mt mq mu mN mP mK mI mT mD) H → va_D A0 (W6 cI aX aN aP aJ aI aT aD ms ml mt mq mu mN mP mK mI mT mD) → va_S A0 s.heap H locs → ∀ (ls : Array Slot), lv_has ls 6 [(0, .ref aX), (1, .int x1), (2, .int x2), (3, .int x3), (4, .int x4)] → f6_voids_j60 k5 mN x1 x2 x3 x4 = some (r, z_mN) → uW p l e wsX6_voids rm6_voids s m args below meth c D (some (.int r)) A0 (W6 cI aX aN aP aJ aI aT aD ms ml mt mq mu z_mN mP mK mI mT mD) H locs (F0 m 60 ls []) := by
    intro mN x1 x2 x3 x4 k5 hk5 H locs hP hD hS ls hl hF
    rw [f6_voids_j60] at hF
    refine lv_iconst hx hb dX6_voids_60 kc_iconst_0 ?_
    exact W_61 mN x1 x2 x3 x4 (0 : Int32) k5 hk5 _ _ hP hD hS ls (lv_sub hl [0, 1, 2, 3, 4] rfl) hF
  have W_5 : ∀ (x1 : Int32) (x2 : Int32) (n : Nat) (x3 : Int32) (x4 : Int32) (mN : Nat → Int32), ∀ (H : Heap) (locs : List Loc), va_P D vwCl (W6 cI aX aN aP aJ aI aT aD ms ml mt mq mu mN mP mK mI mT mD) H → va_D A0 (W6 cI aX aN aP aJ aI aT aD ms ml mt mq mu mN mP mK mI mT mD) → va_S A0 s.heap H locs → ∀ (ls : Array Slot), lv_has ls 6 [(0, .ref aX), (1, .int x1), (2, .int x2), (3, .int x3), (4, .int x4)] → f6_voids_l5 x1 x2 n x3 x4 mN = some (r, z_mN) → uW p l e wsX6_voids rm6_voids s m args below meth c D (some (.int r)) A0 (W6 cI aX aN aP aJ aI aT aD ms ml mt mq mu z_mN mP mK mI mT mD) H locs (F0 m 5 ls []) := by
    intro x1 x2  n
    induction n with
    | zero =>
      intro x3 x4 mN H locs hP hD hS ls hl hF
      rw [f6_voids_l5] at hF
      cases hF
    | succ n ih =>
      intro x3 x4 mN H locs hP hD hS ls hl hF
      rw [f6_voids_l5] at hF
      refine lv_iload hx hb dX6_voids_5 (lv_at hl 4 rfl) ?_
      refine lv_bipush hx hb dX6_voids_7 kc_bipush_40 ?_
      refine lv_aload_n hx hb dX6_voids_9 rfl (lv_at hl 0 rfl) ?_
      refine va_get (D := D) (ci := 6) (v := .ref aN) (C := RX6) (T := TX6) (N := 11) hx hb hts i_X6 hown hK.1 hP 0 rfl rfl 0 (by decide) (hts _ wd_811) (fun _ h9 => h9) rfl dX6_voids_10 ?_
      refine lv_iconst hx hb dX6_voids_13 kc_iconst_0 ?_
      refine va_iald hx hb hK.1 hP 1 0 rfl rfl (inb_lit (by decide)) dX6_voids_14 ?_
      refine lv_imul hx hb dX6_voids_15 ?_
      refine lv_icmp_ge (tgt := 142) hx hb dX6_voids_16 (by decide) (fun c1 => ?_) (fun c1 => ?_)
      · have hF := ite_t c1 hF
        refine lv_iload_n hx hb dX6_voids_142 rfl (lv_at hl 3 rfl) ?_
        cases hF
        exact ureti hx hb hr hlocks hP hS dX6_voids_143
      · have hF := ite_f c1 hF
        refine lv_aload_n hx hb dX6_voids_19 rfl (lv_at hl 0 rfl) ?_
        refine lv_iload hx hb dX6_voids_20 (lv_at hl 4 rfl) ?_
        obtain ⟨q3, h2, hF⟩ := bd1_at hF
        refine rcall (va_runV (As := [.int x4]) (rest := []) S (K6_isCheque l D cI cZ cS cJ aX aN aP aJ aI aT aD ms ml mt mq mu mN mP mK mI mT mD x4 q3 h2) (cwV 1 hts (gd_V wd_937 wd_939 wd_33 wd_67 wd_940) rfl rfl rfl hd6_isCheque ⟨Nat.le_of_ble_eq_true rfl, Nat.le_of_ble_eq_true rfl⟩) (rPreV hK hP (ci := 6) (q := (RX6, TX6, 11)) rfl rfl) rfl rfl hl.1 rfl (lv_room (Nat.le_of_ble_eq_true rfl)) dX6_voids_22 ⟨(Nat.zero_le _), (Nat.zero_le _)⟩) ?_
        refine lv_if_eq (tgt := 60) hx hb dX6_voids_25 (by decide) (fun c4 => ?_) (fun c4 => ?_)
        · have hF := ite_t c4 hF
          exact W_60 mN x1 x2 x3 x4 (f6_voids_l5 x1 x2 n) ih _ _ hP hD hS ls (lv_sub hl [0, 1, 2, 3, 4] rfl) hF
        · have hF := ite_f c4 hF
          refine lv_aload_n hx hb dX6_voids_28 rfl (lv_at hl 0 rfl) ?_
          refine lv_iload hx hb dX6_voids_29 (lv_at hl 4 rfl) ?_
          obtain ⟨q6, h5, hF⟩ := bd1_at hF
          refine rcall (va_runV (As := [.int x4]) (rest := []) S (K6_serialAt l D cI cZ cS cJ aX aN aP aJ aI aT aD ms ml mt mq mu mN mP mK mI mT mD x4 q6 h5) (cwV 1 hts (gd_V wd_941 wd_943 wd_34 wd_67 wd_944) rfl rfl rfl hd6_serialAt ⟨Nat.le_of_ble_eq_true rfl, Nat.le_of_ble_eq_true rfl⟩) (rPreV hK hP (ci := 6) (q := (RX6, TX6, 11)) rfl rfl) rfl rfl hl.1 rfl (lv_room (Nat.le_of_ble_eq_true rfl)) dX6_voids_31 ⟨(Nat.zero_le _), (Nat.zero_le _)⟩) ?_
          refine lv_iload_n hx hb dX6_voids_34 rfl (lv_at hl 1 rfl) ?_
          refine lv_iload_n hx hb dX6_voids_35 rfl (lv_at hl 2 rfl) ?_
          obtain ⟨q8, h7, hF⟩ := bd1_at hF
          refine rcall (va_runS (As := [.int q6, .int x1, .int x2]) (rest := []) S (K6_in l D cI cZ cS cJ q6 x1 x2 q8 h7) (va_cwS 3 hts (gd_S wd_853 wd_854 wd_67 wd_855) rfl rfl rfl hdn6_in ⟨Nat.le_of_ble_eq_true rfl, Nat.le_of_ble_eq_true rfl⟩) (rPreS hK (hP.sub (ws' := ([] : va_W)) [] rfl)) rfl rfl hl.1 rfl (lv_room (Nat.le_of_ble_eq_true rfl)) dX6_voids_36 ⟨(Nat.zero_le _), (Nat.zero_le _)⟩) ?_
          refine lv_if_eq (tgt := 60) hx hb dX6_voids_39 (by decide) (fun c9 => ?_) (fun c9 => ?_)
          · have hF := ite_t c9 hF
            exact W_60 mN x1 x2 x3 x4 (f6_voids_l5 x1 x2 n) ih _ _ hP hD hS ls (lv_sub hl [0, 1, 2, 3, 4] rfl) hF
          · have hF := ite_f c9 hF
            refine lv_aload_n hx hb dX6_voids_42 rfl (lv_at hl 0 rfl) ?_
            refine va_get (D := D) (ci := 6) (v := .ref aN) (C := RX6) (T := TX6) (N := 11) hx hb hts i_X6 hown hK.1 hP 0 rfl rfl 0 (by decide) (hts _ wd_811) (fun _ h9 => h9) rfl dX6_voids_43 ?_
            refine lv_bipush hx hb dX6_voids_46 kc_bipush_21 ?_
            refine lv_iload hx hb dX6_voids_48 (lv_at hl 4 rfl) ?_
            refine lv_iadd hx hb dX6_voids_50 ?_
            obtain ⟨g10, hF⟩ := gd_at hF
            refine va_iald hx hb hK.1 hP 1 0 rfl rfl g10 dX6_voids_51 ?_
            refine lv_iconst hx hb dX6_voids_52 kc_iconst_2 ?_
            refine lv_icmp_ge (tgt := 60) hx hb dX6_voids_53 (by decide) (fun c11 => ?_) (fun c11 => ?_)
            · have hF := ite_t c11 hF
              exact W_60 mN x1 x2 x3 x4 (f6_voids_l5 x1 x2 n) ih _ _ hP hD hS ls (lv_sub hl [0, 1, 2, 3, 4] rfl) hF
            · have hF := ite_f c11 hF
              refine lv_iconst hx hb dX6_voids_56 kc_iconst_1 ?_
              refine lv_goto (tgt := 61) hx hb dX6_voids_57 (by decide) ?_
              exact W_61 mN x1 x2 x3 x4 (1 : Int32) (f6_voids_l5 x1 x2 n) ih _ _ hP hD hS ls (lv_sub hl [0, 1, 2, 3, 4] rfl) hF
  rw [f6_voids] at hF
  show uW p l e wsX6_voids rm6_voids s m args below meth c D (some (.int r)) A0 (W6 cI aX aN aP aJ aI aT aD ms ml mt mq mu z_mN mP mK mI mT mD) s.heap [] (F0 m 0 ls [])
  refine lv_iconst hx hb dX6_voids_0 kc_iconst_0 ?_
  refine lv_istore_n (lv' := [(3, .int (0 : Int32)), (0, .ref aX), (1, .int x1), (2, .int x2)]) hx hb dX6_voids_1 rfl hl (by decide) rfl (fun ls hl => ?_)
  refine lv_iconst hx hb dX6_voids_2 kc_iconst_0 ?_
  refine lv_istore (lv' := [(4, .int (0 : Int32)), (3, .int (0 : Int32)), (0, .ref aX), (1, .int x1), (2, .int x2)]) hx hb dX6_voids_3 hl (by decide) rfl (fun ls hl => ?_)
  exact W_5 x1 x2  fu (0 : Int32) (0 : Int32) mN _ _ hP hD hS ls (lv_sub hl [2, 3, 4, 1, 0] rfl) hF
abbrev rm6_weight : Room := { frames := 2, cells := 0, slots := 0, locals := 45 }
theorem hd6_weight : yX6_weight.cls = RX6 ∧ yX6_weight.cls ≠ "java/lang/invoke/MethodHandle" ∧ yX6_weight.cls ≠ "java/lang/invoke/VarHandle" ∧ (parseMethodDescriptor yX6_weight.desc).map (fun d => d.parameters.length) = some 2 := by decide +kernel
set_option maxHeartbeats 4000000 in
set_option maxRecDepth 100000 in
theorem K6_weight (l : Launch) (D : va_G) (cI cZ cS cJ : ClassId) (aX aN aP aJ aI aT aD : Nat) (ms : Int32) (ml : Int32) (mt : Int32) (mq : Int32) (mu : Int32) (mN : Nat → Int32) (mP : Nat → Int32) (mK : Nat → Int32) (mI : Nat → Int32) (mT : Nat → Int32) (mD : Nat → Int32) (x1 : Int32) (x2 : Int32) (r : Int32) (z_ms : Int32) (z_mt : Int32) (z_mN : Nat → Int32) (z_mP : Nat → Int32) (hF : f6_weight ms mt mN mP x1 x2 = some (r, z_ms, z_mt, z_mN, z_mP)) : Met l yX6_weight wsX6_weight rm6_weight (uP D (gT cI cZ cS cJ) (W6 cI aX aN aP aJ aI aT aD ms ml mt mq mu mN mP mK mI mT mD) [.ref aX, .int x1, .int x2]) (uQ D (some (.int r)) (uA (W6 cI aX aN aP aJ aI aT aD ms ml mt mq mu mN mP mK mI mT mD)) (W6 cI aX aN aP aJ aI aT aD z_ms ml z_mt mq mu z_mN z_mP mK mI mT mD)) 0 0 (uA (W6 cI aX aN aP aJ aI aT aD ms ml mt mq mu mN mP mK mI mT mD)) := by
  refine Met.ofW (cc := cX6_weight) (maxL := 4) (ret := (some .int)) (by decide) rfl ?_
  intro p e s m args below meth c s₁ B hml hv
  obtain ⟨ha, hK, hP, hD0⟩ := hv
  have hx := B.exec
  have hb := B.bytes
  have hr := B.returns
  have hlocks := B.notSynchronized
  have hts : ∀ w ∈ lw_all, w.before args s = true := fun w h => atoms_spec (ws := wsX6_weight) B.pre w (List.mem_cons_of_mem _ h)
  have hown : s.vm.findClass RX6 = some m.cls := findClass_of_methodNamed B.named
  have S : CallFix p m c cX6_weight 4 s args lw_all RX6 := ⟨hx, hb, hml, hown, hts⟩
  have hD := hD0.own
  generalize uA (W6 cI aX aN aP aJ aI aT aD ms ml mt mq mu mN mP mK mI mT mD) = A0 at hD ⊢
  have hS : va_S A0 s.heap s.heap [] := va_S.rf
  have hl := lv_entry ([.ref aX, .int x1, .int x2] : List Value) (n := 4) (Nat.le_of_ble_eq_true rfl)
  refine W.eq (g2 := F0 m 0 ((lg_sl ([.ref aX, .int x1, .int x2] : List Value) ++ List.replicate (4 - (lg_sl ([.ref aX, .int x1, .int x2] : List Value)).length) Slot.unset).toArray) []) (by rw [ha]; exact lg_entry_eq _ _ _) ?_
  generalize (lg_sl ([.ref aX, .int x1, .int x2] : List Value) ++ List.replicate (4 - (lg_sl ([.ref aX, .int x1, .int x2] : List Value)).length) Slot.unset).toArray = ls at hl ⊢
  have hl : lv_has ls 4 [(0, .ref aX), (1, .int x1), (2, .int x2)] := hl
  rw [f6_weight] at hF
  show uW p l e wsX6_weight rm6_weight s m args below meth c D (some (.int r)) A0 (W6 cI aX aN aP aJ aI aT aD z_ms ml z_mt mq mu z_mN z_mP mK mI mT mD) s.heap [] (F0 m 0 ls [])
  refine lv_aload_n hx hb dX6_weight_0 rfl (lv_at hl 0 rfl) ?_
  refine lv_iconst hx hb dX6_weight_1 kc_iconst_0 ?_
  refine va_put (D := D) (ci := 6) (v := .int (0 : Int32)) (ty := .int) (C := RX6) (T := TX6) (N := 11) hx hb hts i_X6 tyX6 tyX6_ok nmX6 hown hK.1 hP hD hS 0 rfl rfl 7 (by decide) (hts _ wd_818) (fun _ h9 => h9) rfl (by decide +kernel) rfl rfl (Nat.le_of_ble_eq_true rfl) dX6_weight_2 (fun H locs hP hD hS => ?_)
  have hP : va_P D vwCl (W6 cI aX aN aP aJ aI aT aD ms ml (0 : Int32) mq mu mN mP mK mI mT mD) H := hP
  have hD : va_D A0 (W6 cI aX aN aP aJ aI aT aD ms ml (0 : Int32) mq mu mN mP mK mI mT mD) := hD
  refine lv_iload_n hx hb dX6_weight_5 rfl (lv_at hl 1 rfl) ?_
  refine lv_iconst hx hb dX6_weight_6 kc_iconst_0 ?_
  refine lv_iconst hx hb dX6_weight_7 kc_iconst_5 ?_
  obtain ⟨q2, h1, hF⟩ := bd1_at hF
  refine rcall (va_runS (As := [.int x1, .int (0 : Int32), .int (5 : Int32)]) (rest := []) S (K6_in l D cI cZ cS cJ x1 (0 : Int32) (5 : Int32) q2 h1) (va_cwS 3 hts (gd_S wd_853 wd_854 wd_67 wd_855) rfl rfl rfl hdn6_in ⟨Nat.le_of_ble_eq_true rfl, Nat.le_of_ble_eq_true rfl⟩) (rPreS hK (hP.sub (ws' := ([] : va_W)) [] rfl)) rfl rfl hl.1 rfl (lv_room (Nat.le_of_ble_eq_true rfl)) dX6_weight_8 ⟨(Nat.zero_le _), (Nat.zero_le _)⟩) ?_
  refine lv_if_ne (tgt := 20) hx hb dX6_weight_11 (by decide) (fun c3 => ?_) (fun c3 => ?_)
  · have hF := ite_f c3 hF
    refine lv_iload_n hx hb dX6_weight_20 rfl (lv_at hl 2 rfl) ?_
    refine lv_iconst hx hb dX6_weight_21 kc_iconst_1 ?_
    refine lv_bipush hx hb dX6_weight_22 kc_bipush_9 ?_
    obtain ⟨q5, h4, hF⟩ := bd1_at hF
    refine rcall (va_runS (As := [.int x2, .int (1 : Int32), .int (9 : Int32)]) (rest := []) S (K6_in l D cI cZ cS cJ x2 (1 : Int32) (9 : Int32) q5 h4) (va_cwS 3 hts (gd_S wd_853 wd_854 wd_67 wd_855) rfl rfl rfl hdn6_in ⟨Nat.le_of_ble_eq_true rfl, Nat.le_of_ble_eq_true rfl⟩) (rPreS hK (hP.sub (ws' := ([] : va_W)) [] rfl)) rfl rfl hl.1 rfl (lv_room (Nat.le_of_ble_eq_true rfl)) dX6_weight_24 ⟨(Nat.zero_le _), (Nat.zero_le _)⟩) ?_
    refine lv_if_ne (tgt := 36) hx hb dX6_weight_27 (by decide) (fun c6 => ?_) (fun c6 => ?_)
    · have hF := ite_f c6 hF
      refine lv_aload_n hx hb dX6_weight_36 rfl (lv_at hl 0 rfl) ?_
      obtain ⟨u8, u9, h7, hF⟩ := bd2_at hF
      refine ucallv (ws' := (W6 cI aX aN aP aJ aI aT aD u8 ml (0 : Int32) mq mu mN u9 mK mI mT mD)) (va_runV (As := []) (rest := []) S (K6_saves l D cI cZ cS cJ aX aN aP aJ aI aT aD ms ml (0 : Int32) mq mu mN mP mK mI mT mD u8 u9 h7) (cwV 0 hts (gd_V wd_860 wd_862 wd_22 wd_67 wd_863) rfl rfl rfl hd6_saves ⟨Nat.le_of_ble_eq_true rfl, Nat.le_of_ble_eq_true rfl⟩) (uPreV hK hP hD (ci := 6) (q := (RX6, TX6, 11)) rfl rfl) rfl rfl hl.1 rfl (lv_room (Nat.le_of_ble_eq_true rfl)) dX6_weight_37 ⟨(Nat.zero_le _), (Nat.zero_le _)⟩) hS hP hD [0, 1, 2, 3, 4, 5, 6] rfl rfl rfl rfl (fun H locs hP hD hS => ?_)
      refine lv_aload_n hx hb dX6_weight_40 rfl (lv_at hl 0 rfl) ?_
      refine va_get (D := D) (ci := 6) (v := .ref aN) (C := RX6) (T := TX6) (N := 11) hx hb hts i_X6 hown hK.1 hP 0 rfl rfl 0 (by decide) (hts _ wd_811) (fun _ h9 => h9) rfl dX6_weight_41 ?_
      refine lv_iconst hx hb dX6_weight_44 kc_iconst_3 ?_
      refine lv_iload_n hx hb dX6_weight_45 rfl (lv_at hl 1 rfl) ?_
      refine lv_iadd hx hb dX6_weight_46 ?_
      obtain ⟨g10, hF⟩ := gd_at hF
      refine va_iald hx hb hK.1 hP 1 0 rfl rfl g10 dX6_weight_47 ?_
      refine lv_istore_n (lv' := [(3, .int (mN ((3 : Int32) + x1).toNatClampNeg)), (0, .ref aX), (1, .int x1), (2, .int x2)]) hx hb dX6_weight_48 rfl hl (by decide) rfl (fun ls hl => ?_)
      refine lv_aload_n hx hb dX6_weight_49 rfl (lv_at hl 1 rfl) ?_
      refine va_get (D := D) (ci := 6) (v := .ref aN) (C := RX6) (T := TX6) (N := 11) hx hb hts i_X6 hown hK.1 hP 0 rfl rfl 0 (by decide) (hts _ wd_811) (fun _ h9 => h9) rfl dX6_weight_50 ?_
      refine lv_iconst hx hb dX6_weight_53 kc_iconst_3 ?_
      refine lv_iload_n hx hb dX6_weight_54 rfl (lv_at hl 2 rfl) ?_
      refine lv_iadd hx hb dX6_weight_55 ?_
      refine lv_iload_n hx hb dX6_weight_56 rfl (lv_at hl 3 rfl) ?_
      obtain ⟨g11, hF⟩ := gd_at hF
      refine va_iast hx hb hK.1 hP hD hS 1 0 rfl rfl g11 dX6_weight_57 (fun H locs hP hD hS => ?_)
      have hP : va_P D vwCl (W6 cI aX aN aP aJ aI aT aD u8 ml (0 : Int32) mq mu (upd mN ((3 : Int32) + x1).toNatClampNeg x2) u9 mK mI mT mD) H := hP
      have hD : va_D A0 (W6 cI aX aN aP aJ aI aT aD u8 ml (0 : Int32) mq mu (upd mN ((3 : Int32) + x1).toNatClampNeg x2) u9 mK mI mT mD) := hD
      refine lv_iload_n hx hb dX6_weight_58 rfl (lv_at hl 0 rfl) ?_
      cases hF
      exact ureti hx hb hr hlocks hP hS dX6_weight_59
    · have hF := ite_t c6 hF
      refine lv_aload_n hx hb dX6_weight_30 rfl (lv_at hl 0 rfl) ?_
      refine lv_iconst hx hb dX6_weight_31 kc_iconst_2 ?_
      obtain ⟨q13, u14, h12, hF⟩ := bd2_at hF
      refine ucalli (ws' := (W6 cI aX aN aP aJ aI aT aD ms ml u14 mq mu mN mP mK mI mT mD)) (va_runV (As := [.int (2 : Int32)]) (rest := []) S (K6_refuses l D cI cZ cS cJ aX aN aP aJ aI aT aD ms ml (0 : Int32) mq mu mN mP mK mI mT mD (2 : Int32) q13 u14 h12) (cwV 1 hts (gd_V wd_856 wd_858 wd_21 wd_67 wd_859) rfl rfl rfl hd6_refuses ⟨Nat.le_of_ble_eq_true rfl, Nat.le_of_ble_eq_true rfl⟩) (uPreV hK hP hD (ci := 6) (q := (RX6, TX6, 11)) rfl rfl) rfl rfl hl.1 rfl (lv_room (Nat.le_of_ble_eq_true rfl)) dX6_weight_32 ⟨(Nat.zero_le _), (Nat.zero_le _)⟩) hS hP hD [0, 1, 2, 3, 4, 5, 6] rfl rfl rfl rfl (fun H locs hP hD hS => ?_)
      cases hF
      exact ureti hx hb hr hlocks hP hS dX6_weight_35
  · have hF := ite_t c3 hF
    refine lv_aload_n hx hb dX6_weight_14 rfl (lv_at hl 0 rfl) ?_
    refine lv_iconst hx hb dX6_weight_15 kc_iconst_1 ?_
    obtain ⟨q16, u17, h15, hF⟩ := bd2_at hF
    refine ucalli (ws' := (W6 cI aX aN aP aJ aI aT aD ms ml u17 mq mu mN mP mK mI mT mD)) (va_runV (As := [.int (1 : Int32)]) (rest := []) S (K6_refuses l D cI cZ cS cJ aX aN aP aJ aI aT aD ms ml (0 : Int32) mq mu mN mP mK mI mT mD (1 : Int32) q16 u17 h15) (cwV 1 hts (gd_V wd_856 wd_858 wd_21 wd_67 wd_859) rfl rfl rfl hd6_refuses ⟨Nat.le_of_ble_eq_true rfl, Nat.le_of_ble_eq_true rfl⟩) (uPreV hK hP hD (ci := 6) (q := (RX6, TX6, 11)) rfl rfl) rfl rfl hl.1 rfl (lv_room (Nat.le_of_ble_eq_true rfl)) dX6_weight_16 ⟨(Nat.zero_le _), (Nat.zero_le _)⟩) hS hP hD [0, 1, 2, 3, 4, 5, 6] rfl rfl rfl rfl (fun H locs hP hD hS => ?_)
    cases hF
    exact ureti hx hb hr hlocks hP hS dX6_weight_19
abbrev rm6_modulus : Room := { frames := 2, cells := 0, slots := 0, locals := 45 }
theorem hd6_modulus : yX6_modulus.cls = RX6 ∧ yX6_modulus.cls ≠ "java/lang/invoke/MethodHandle" ∧ yX6_modulus.cls ≠ "java/lang/invoke/VarHandle" ∧ (parseMethodDescriptor yX6_modulus.desc).map (fun d => d.parameters.length) = some 1 := by decide +kernel
set_option maxHeartbeats 4000000 in
set_option maxRecDepth 100000 in
theorem K6_modulus (l : Launch) (D : va_G) (cI cZ cS cJ : ClassId) (aX aN aP aJ aI aT aD : Nat) (ms : Int32) (ml : Int32) (mt : Int32) (mq : Int32) (mu : Int32) (mN : Nat → Int32) (mP : Nat → Int32) (mK : Nat → Int32) (mI : Nat → Int32) (mT : Nat → Int32) (mD : Nat → Int32) (x1 : Int32) (r : Int32) (z_ms : Int32) (z_mt : Int32) (z_mN : Nat → Int32) (z_mP : Nat → Int32) (hF : f6_modulus ms mt mN mP x1 = some (r, z_ms, z_mt, z_mN, z_mP)) : Met l yX6_modulus wsX6_modulus rm6_modulus (uP D (gT cI cZ cS cJ) (W6 cI aX aN aP aJ aI aT aD ms ml mt mq mu mN mP mK mI mT mD) [.ref aX, .int x1]) (uQ D (some (.int r)) (uA (W6 cI aX aN aP aJ aI aT aD ms ml mt mq mu mN mP mK mI mT mD)) (W6 cI aX aN aP aJ aI aT aD z_ms ml z_mt mq mu z_mN z_mP mK mI mT mD)) 0 0 (uA (W6 cI aX aN aP aJ aI aT aD ms ml mt mq mu mN mP mK mI mT mD)) := by
  refine Met.ofW (cc := cX6_modulus) (maxL := 3) (ret := (some .int)) (by decide) rfl ?_
  intro p e s m args below meth c s₁ B hml hv
  obtain ⟨ha, hK, hP, hD0⟩ := hv
  have hx := B.exec
  have hb := B.bytes
  have hr := B.returns
  have hlocks := B.notSynchronized
  have hts : ∀ w ∈ lw_all, w.before args s = true := fun w h => atoms_spec (ws := wsX6_modulus) B.pre w (List.mem_cons_of_mem _ h)
  have hown : s.vm.findClass RX6 = some m.cls := findClass_of_methodNamed B.named
  have S : CallFix p m c cX6_modulus 3 s args lw_all RX6 := ⟨hx, hb, hml, hown, hts⟩
  have hD := hD0.own
  generalize uA (W6 cI aX aN aP aJ aI aT aD ms ml mt mq mu mN mP mK mI mT mD) = A0 at hD ⊢
  have hS : va_S A0 s.heap s.heap [] := va_S.rf
  have hl := lv_entry ([.ref aX, .int x1] : List Value) (n := 3) (Nat.le_of_ble_eq_true rfl)
  refine W.eq (g2 := F0 m 0 ((lg_sl ([.ref aX, .int x1] : List Value) ++ List.replicate (3 - (lg_sl ([.ref aX, .int x1] : List Value)).length) Slot.unset).toArray) []) (by rw [ha]; exact lg_entry_eq _ _ _) ?_
  generalize (lg_sl ([.ref aX, .int x1] : List Value) ++ List.replicate (3 - (lg_sl ([.ref aX, .int x1] : List Value)).length) Slot.unset).toArray = ls at hl ⊢
  have hl : lv_has ls 3 [(0, .ref aX), (1, .int x1)] := hl
  rw [f6_modulus] at hF
  show uW p l e wsX6_modulus rm6_modulus s m args below meth c D (some (.int r)) A0 (W6 cI aX aN aP aJ aI aT aD z_ms ml z_mt mq mu z_mN z_mP mK mI mT mD) s.heap [] (F0 m 0 ls [])
  refine lv_aload_n hx hb dX6_modulus_0 rfl (lv_at hl 0 rfl) ?_
  refine lv_iconst hx hb dX6_modulus_1 kc_iconst_0 ?_
  refine va_put (D := D) (ci := 6) (v := .int (0 : Int32)) (ty := .int) (C := RX6) (T := TX6) (N := 11) hx hb hts i_X6 tyX6 tyX6_ok nmX6 hown hK.1 hP hD hS 0 rfl rfl 7 (by decide) (hts _ wd_818) (fun _ h9 => h9) rfl (by decide +kernel) rfl rfl (Nat.le_of_ble_eq_true rfl) dX6_modulus_2 (fun H locs hP hD hS => ?_)
  have hP : va_P D vwCl (W6 cI aX aN aP aJ aI aT aD ms ml (0 : Int32) mq mu mN mP mK mI mT mD) H := hP
  have hD : va_D A0 (W6 cI aX aN aP aJ aI aT aD ms ml (0 : Int32) mq mu mN mP mK mI mT mD) := hD
  refine lv_iload_n hx hb dX6_modulus_5 rfl (lv_at hl 1 rfl) ?_
  refine lv_bipush hx hb dX6_modulus_6 kc_bipush_7 ?_
  refine lv_bipush hx hb dX6_modulus_8 kc_bipush_26 ?_
  obtain ⟨q2, h1, hF⟩ := bd1_at hF
  refine rcall (va_runS (As := [.int x1, .int (7 : Int32), .int (26 : Int32)]) (rest := []) S (K6_in l D cI cZ cS cJ x1 (7 : Int32) (26 : Int32) q2 h1) (va_cwS 3 hts (gd_S wd_853 wd_854 wd_67 wd_855) rfl rfl rfl hdn6_in ⟨Nat.le_of_ble_eq_true rfl, Nat.le_of_ble_eq_true rfl⟩) (rPreS hK (hP.sub (ws' := ([] : va_W)) [] rfl)) rfl rfl hl.1 rfl (lv_room (Nat.le_of_ble_eq_true rfl)) dX6_modulus_10 ⟨(Nat.zero_le _), (Nat.zero_le _)⟩) ?_
  refine lv_if_ne (tgt := 22) hx hb dX6_modulus_13 (by decide) (fun c3 => ?_) (fun c3 => ?_)
  · have hF := ite_f c3 hF
    refine lv_aload_n hx hb dX6_modulus_22 rfl (lv_at hl 0 rfl) ?_
    obtain ⟨u5, u6, h4, hF⟩ := bd2_at hF
    refine ucallv (ws' := (W6 cI aX aN aP aJ aI aT aD u5 ml (0 : Int32) mq mu mN u6 mK mI mT mD)) (va_runV (As := []) (rest := []) S (K6_saves l D cI cZ cS cJ aX aN aP aJ aI aT aD ms ml (0 : Int32) mq mu mN mP mK mI mT mD u5 u6 h4) (cwV 0 hts (gd_V wd_860 wd_862 wd_22 wd_67 wd_863) rfl rfl rfl hd6_saves ⟨Nat.le_of_ble_eq_true rfl, Nat.le_of_ble_eq_true rfl⟩) (uPreV hK hP hD (ci := 6) (q := (RX6, TX6, 11)) rfl rfl) rfl rfl hl.1 rfl (lv_room (Nat.le_of_ble_eq_true rfl)) dX6_modulus_23 ⟨(Nat.zero_le _), (Nat.zero_le _)⟩) hS hP hD [0, 1, 2, 3, 4, 5, 6] rfl rfl rfl rfl (fun H locs hP hD hS => ?_)
    refine lv_aload_n hx hb dX6_modulus_26 rfl (lv_at hl 0 rfl) ?_
    refine va_get (D := D) (ci := 6) (v := .ref aN) (C := RX6) (T := TX6) (N := 11) hx hb hts i_X6 hown hK.1 hP 0 rfl rfl 0 (by decide) (hts _ wd_811) (fun _ h9 => h9) rfl dX6_modulus_27 ?_
    refine lv_iconst hx hb dX6_modulus_30 kc_iconst_1 ?_
    refine va_iald hx hb hK.1 hP 1 0 rfl rfl (inb_lit (by decide)) dX6_modulus_31 ?_
    refine lv_istore_n (lv' := [(2, .int (mN (1 : Int32).toNatClampNeg)), (0, .ref aX), (1, .int x1)]) hx hb dX6_modulus_32 rfl hl (by decide) rfl (fun ls hl => ?_)
    refine lv_aload_n hx hb dX6_modulus_33 rfl (lv_at hl 1 rfl) ?_
    refine va_get (D := D) (ci := 6) (v := .ref aN) (C := RX6) (T := TX6) (N := 11) hx hb hts i_X6 hown hK.1 hP 0 rfl rfl 0 (by decide) (hts _ wd_811) (fun _ h9 => h9) rfl dX6_modulus_34 ?_
    refine lv_iconst hx hb dX6_modulus_37 kc_iconst_1 ?_
    refine lv_iload_n hx hb dX6_modulus_38 rfl (lv_at hl 2 rfl) ?_
    refine va_iast hx hb hK.1 hP hD hS 1 0 rfl rfl (inb_lit (by decide)) dX6_modulus_39 (fun H locs hP hD hS => ?_)
    have hP : va_P D vwCl (W6 cI aX aN aP aJ aI aT aD u5 ml (0 : Int32) mq mu (upd mN (1 : Int32).toNatClampNeg x1) u6 mK mI mT mD) H := hP
    have hD : va_D A0 (W6 cI aX aN aP aJ aI aT aD u5 ml (0 : Int32) mq mu (upd mN (1 : Int32).toNatClampNeg x1) u6 mK mI mT mD) := hD
    refine lv_iload_n hx hb dX6_modulus_40 rfl (lv_at hl 0 rfl) ?_
    cases hF
    exact ureti hx hb hr hlocks hP hS dX6_modulus_41
  · have hF := ite_t c3 hF
    refine lv_aload_n hx hb dX6_modulus_16 rfl (lv_at hl 0 rfl) ?_
    refine lv_iconst hx hb dX6_modulus_17 kc_iconst_1 ?_
    obtain ⟨q8, u9, h7, hF⟩ := bd2_at hF
    refine ucalli (ws' := (W6 cI aX aN aP aJ aI aT aD ms ml u9 mq mu mN mP mK mI mT mD)) (va_runV (As := [.int (1 : Int32)]) (rest := []) S (K6_refuses l D cI cZ cS cJ aX aN aP aJ aI aT aD ms ml (0 : Int32) mq mu mN mP mK mI mT mD (1 : Int32) q8 u9 h7) (cwV 1 hts (gd_V wd_856 wd_858 wd_21 wd_67 wd_859) rfl rfl rfl hd6_refuses ⟨Nat.le_of_ble_eq_true rfl, Nat.le_of_ble_eq_true rfl⟩) (uPreV hK hP hD (ci := 6) (q := (RX6, TX6, 11)) rfl rfl) rfl rfl hl.1 rfl (lv_room (Nat.le_of_ble_eq_true rfl)) dX6_modulus_18 ⟨(Nat.zero_le _), (Nat.zero_le _)⟩) hS hP hD [0, 1, 2, 3, 4, 5, 6] rfl rfl rfl rfl (fun H locs hP hD hS => ?_)
    cases hF
    exact ureti hx hb hr hlocks hP hS dX6_modulus_21
abbrev rm6_book : Room := { frames := 3, cells := 0, slots := 0, locals := 67 }
theorem hd6_book : yX6_book.cls = RX6 ∧ yX6_book.cls ≠ "java/lang/invoke/MethodHandle" ∧ yX6_book.cls ≠ "java/lang/invoke/VarHandle" ∧ (parseMethodDescriptor yX6_book.desc).map (fun d => d.parameters.length) = some 2 := by decide +kernel
set_option maxHeartbeats 4000000 in
set_option maxRecDepth 100000 in
theorem K6_book (l : Launch) (D : va_G) (cI cZ cS cJ : ClassId) (aX aN aP aJ aI aT aD : Nat) (ms : Int32) (ml : Int32) (mt : Int32) (mq : Int32) (mu : Int32) (mN : Nat → Int32) (mP : Nat → Int32) (mK : Nat → Int32) (mI : Nat → Int32) (mT : Nat → Int32) (mD : Nat → Int32) (x1 : Int32) (x2 : Int32) (r : Int32) (z_ms : Int32) (z_mt : Int32) (z_mN : Nat → Int32) (z_mP : Nat → Int32) (hF : f6_book ms mt mN mP x1 x2 = some (r, z_ms, z_mt, z_mN, z_mP)) : Met l yX6_book wsX6_book rm6_book (uP D (gT cI cZ cS cJ) (W6 cI aX aN aP aJ aI aT aD ms ml mt mq mu mN mP mK mI mT mD) [.ref aX, .int x1, .int x2]) (uQ D (some (.int r)) (uA (W6 cI aX aN aP aJ aI aT aD ms ml mt mq mu mN mP mK mI mT mD)) (W6 cI aX aN aP aJ aI aT aD z_ms ml z_mt mq mu z_mN z_mP mK mI mT mD)) 0 0 (uA (W6 cI aX aN aP aJ aI aT aD ms ml mt mq mu mN mP mK mI mT mD)) := by
  refine Met.ofW (cc := cX6_book) (maxL := 3) (ret := (some .int)) (by decide) rfl ?_
  intro p e s m args below meth c s₁ B hml hv
  obtain ⟨ha, hK, hP, hD0⟩ := hv
  have hx := B.exec
  have hb := B.bytes
  have hr := B.returns
  have hlocks := B.notSynchronized
  have hts : ∀ w ∈ lw_all, w.before args s = true := fun w h => atoms_spec (ws := wsX6_book) B.pre w (List.mem_cons_of_mem _ h)
  have hown : s.vm.findClass RX6 = some m.cls := findClass_of_methodNamed B.named
  have S : CallFix p m c cX6_book 3 s args lw_all RX6 := ⟨hx, hb, hml, hown, hts⟩
  have hD := hD0.own
  generalize uA (W6 cI aX aN aP aJ aI aT aD ms ml mt mq mu mN mP mK mI mT mD) = A0 at hD ⊢
  have hS : va_S A0 s.heap s.heap [] := va_S.rf
  have hl := lv_entry ([.ref aX, .int x1, .int x2] : List Value) (n := 3) (Nat.le_of_ble_eq_true rfl)
  refine W.eq (g2 := F0 m 0 ((lg_sl ([.ref aX, .int x1, .int x2] : List Value) ++ List.replicate (3 - (lg_sl ([.ref aX, .int x1, .int x2] : List Value)).length) Slot.unset).toArray) []) (by rw [ha]; exact lg_entry_eq _ _ _) ?_
  generalize (lg_sl ([.ref aX, .int x1, .int x2] : List Value) ++ List.replicate (3 - (lg_sl ([.ref aX, .int x1, .int x2] : List Value)).length) Slot.unset).toArray = ls at hl ⊢
  have hl : lv_has ls 3 [(0, .ref aX), (1, .int x1), (2, .int x2)] := hl
  rw [f6_book] at hF
  show uW p l e wsX6_book rm6_book s m args below meth c D (some (.int r)) A0 (W6 cI aX aN aP aJ aI aT aD z_ms ml z_mt mq mu z_mN z_mP mK mI mT mD) s.heap [] (F0 m 0 ls [])
  refine lv_aload_n hx hb dX6_book_0 rfl (lv_at hl 0 rfl) ?_
  refine lv_iconst hx hb dX6_book_1 kc_iconst_0 ?_
  refine va_put (D := D) (ci := 6) (v := .int (0 : Int32)) (ty := .int) (C := RX6) (T := TX6) (N := 11) hx hb hts i_X6 tyX6 tyX6_ok nmX6 hown hK.1 hP hD hS 0 rfl rfl 7 (by decide) (hts _ wd_818) (fun _ h9 => h9) rfl (by decide +kernel) rfl rfl (Nat.le_of_ble_eq_true rfl) dX6_book_2 (fun H locs hP hD hS => ?_)
  have hP : va_P D vwCl (W6 cI aX aN aP aJ aI aT aD ms ml (0 : Int32) mq mu mN mP mK mI mT mD) H := hP
  have hD : va_D A0 (W6 cI aX aN aP aJ aI aT aD ms ml (0 : Int32) mq mu mN mP mK mI mT mD) := hD
  refine lv_iload_n hx hb dX6_book_5 rfl (lv_at hl 1 rfl) ?_
  obtain ⟨q2, h1, hF⟩ := bd1_at hF
  refine rcall (va_runS (As := [.int x1]) (rest := []) S (K6_isSerial l D cI cZ cS cJ x1 q2 h1) (va_cwS 1 hts (gd_S wd_875 wd_876 wd_67 wd_877) rfl rfl rfl hdn6_isSerial ⟨Nat.le_of_ble_eq_true rfl, Nat.le_of_ble_eq_true rfl⟩) (rPreS hK (hP.sub (ws' := ([] : va_W)) [] rfl)) rfl rfl hl.1 rfl (lv_room (Nat.le_of_ble_eq_true rfl)) dX6_book_6 ⟨(Nat.zero_le _), (Nat.zero_le _)⟩) ?_
  refine lv_if_ne (tgt := 18) hx hb dX6_book_9 (by decide) (fun c3 => ?_) (fun c3 => ?_)
  · have hF := ite_f c3 hF
    refine lv_iload_n hx hb dX6_book_18 rfl (lv_at hl 2 rfl) ?_
    refine lv_iconst hx hb dX6_book_19 kc_iconst_1 ?_
    refine lv_bipush hx hb dX6_book_20 kc_bipush_40 ?_
    obtain ⟨q5, h4, hF⟩ := bd1_at hF
    refine rcall (va_runS (As := [.int x2, .int (1 : Int32), .int (40 : Int32)]) (rest := []) S (K6_in l D cI cZ cS cJ x2 (1 : Int32) (40 : Int32) q5 h4) (va_cwS 3 hts (gd_S wd_853 wd_854 wd_67 wd_855) rfl rfl rfl hdn6_in ⟨Nat.le_of_ble_eq_true rfl, Nat.le_of_ble_eq_true rfl⟩) (rPreS hK (hP.sub (ws' := ([] : va_W)) [] rfl)) rfl rfl hl.1 rfl (lv_room (Nat.le_of_ble_eq_true rfl)) dX6_book_22 ⟨(Nat.zero_le _), (Nat.zero_le _)⟩) ?_
    refine lv_if_ne (tgt := 34) hx hb dX6_book_25 (by decide) (fun c6 => ?_) (fun c6 => ?_)
    · have hF := ite_f c6 hF
      refine lv_iload_n hx hb dX6_book_34 rfl (lv_at hl 1 rfl) ?_
      refine lv_iload_n hx hb dX6_book_35 rfl (lv_at hl 2 rfl) ?_
      refine lv_iadd hx hb dX6_book_36 ?_
      refine lv_iconst hx hb dX6_book_37 kc_iconst_1 ?_
      refine lv_isub hx hb dX6_book_38 ?_
      obtain ⟨q8, h7, hF⟩ := bd1_at hF
      refine rcall (va_runS (As := [.int ((x1 + x2) - (1 : Int32))]) (rest := []) S (K6_isSerial l D cI cZ cS cJ ((x1 + x2) - (1 : Int32)) q8 h7) (va_cwS 1 hts (gd_S wd_875 wd_876 wd_67 wd_877) rfl rfl rfl hdn6_isSerial ⟨Nat.le_of_ble_eq_true rfl, Nat.le_of_ble_eq_true rfl⟩) (rPreS hK (hP.sub (ws' := ([] : va_W)) [] rfl)) rfl rfl hl.1 rfl (lv_room (Nat.le_of_ble_eq_true rfl)) dX6_book_39 ⟨(Nat.zero_le _), (Nat.zero_le _)⟩) ?_
      refine lv_if_ne (tgt := 51) hx hb dX6_book_42 (by decide) (fun c9 => ?_) (fun c9 => ?_)
      · have hF := ite_f c9 hF
        refine lv_aload_n hx hb dX6_book_51 rfl (lv_at hl 0 rfl) ?_
        refine lv_iload_n hx hb dX6_book_52 rfl (lv_at hl 1 rfl) ?_
        refine lv_iload_n hx hb dX6_book_53 rfl (lv_at hl 2 rfl) ?_
        obtain ⟨q11, h10, hF⟩ := bd1_at hF
        refine rcall (va_runV (As := [.int x1, .int x2]) (rest := []) S (K6_canBook l D cI cZ cS cJ aX aN aP aJ aI aT aD ms ml (0 : Int32) mq mu mN mP mK mI mT mD x1 x2 q11 h10) (cwV 2 hts (gd_V wd_879 wd_881 wd_23 wd_67 wd_882) rfl rfl rfl hd6_canBook ⟨Nat.le_of_ble_eq_true rfl, Nat.le_of_ble_eq_true rfl⟩) (rPreV hK hP (ci := 6) (q := (RX6, TX6, 11)) rfl rfl) rfl rfl hl.1 rfl (lv_room (Nat.le_of_ble_eq_true rfl)) dX6_book_54 ⟨(Nat.zero_le _), (Nat.zero_le _)⟩) ?_
        refine lv_if_ne (tgt := 66) hx hb dX6_book_57 (by decide) (fun c12 => ?_) (fun c12 => ?_)
        · have hF := ite_f c12 hF
          refine lv_aload_n hx hb dX6_book_66 rfl (lv_at hl 0 rfl) ?_
          obtain ⟨u14, u15, h13, hF⟩ := bd2_at hF
          refine ucallv (ws' := (W6 cI aX aN aP aJ aI aT aD u14 ml (0 : Int32) mq mu mN u15 mK mI mT mD)) (va_runV (As := []) (rest := []) S (K6_saves l D cI cZ cS cJ aX aN aP aJ aI aT aD ms ml (0 : Int32) mq mu mN mP mK mI mT mD u14 u15 h13) (cwV 0 hts (gd_V wd_860 wd_862 wd_22 wd_67 wd_863) rfl rfl rfl hd6_saves ⟨Nat.le_of_ble_eq_true rfl, Nat.le_of_ble_eq_true rfl⟩) (uPreV hK hP hD (ci := 6) (q := (RX6, TX6, 11)) rfl rfl) rfl rfl hl.1 rfl (lv_room (Nat.le_of_ble_eq_true rfl)) dX6_book_67 ⟨(Nat.zero_le _), (Nat.zero_le _)⟩) hS hP hD [0, 1, 2, 3, 4, 5, 6] rfl rfl rfl rfl (fun H locs hP hD hS => ?_)
          refine lv_aload_n hx hb dX6_book_70 rfl (lv_at hl 0 rfl) ?_
          refine lv_iload_n hx hb dX6_book_71 rfl (lv_at hl 1 rfl) ?_
          refine lv_iload_n hx hb dX6_book_72 rfl (lv_at hl 2 rfl) ?_
          obtain ⟨q17, u18, h16, hF⟩ := bd2_at hF
          refine ucalli (ws' := (W6 cI aX aN aP aJ aI aT aD u14 ml (0 : Int32) mq mu u18 u15 mK mI mT mD)) (va_runV (As := [.int x1, .int x2]) (rest := []) S (K6_books l D cI cZ cS cJ aX aN aP aJ aI aT aD u14 ml (0 : Int32) mq mu mN u15 mK mI mT mD x1 x2 q17 u18 h16) (cwV 2 hts (gd_V wd_895 wd_897 wd_27 wd_67 wd_898) rfl rfl rfl hd6_books ⟨Nat.le_of_ble_eq_true rfl, Nat.le_of_ble_eq_true rfl⟩) (uPreV hK hP hD (ci := 6) (q := (RX6, TX6, 11)) rfl rfl) rfl rfl hl.1 rfl (lv_room (Nat.le_of_ble_eq_true rfl)) dX6_book_73 ⟨(Nat.zero_le _), (Nat.zero_le _)⟩) hS hP hD [0, 1, 2, 3, 4, 5, 6] rfl rfl rfl rfl (fun H locs hP hD hS => ?_)
          cases hF
          exact ureti hx hb hr hlocks hP hS dX6_book_76
        · have hF := ite_t c12 hF
          refine lv_aload_n hx hb dX6_book_60 rfl (lv_at hl 0 rfl) ?_
          refine lv_iconst hx hb dX6_book_61 kc_iconst_3 ?_
          obtain ⟨q20, u21, h19, hF⟩ := bd2_at hF
          refine ucalli (ws' := (W6 cI aX aN aP aJ aI aT aD ms ml u21 mq mu mN mP mK mI mT mD)) (va_runV (As := [.int (3 : Int32)]) (rest := []) S (K6_refuses l D cI cZ cS cJ aX aN aP aJ aI aT aD ms ml (0 : Int32) mq mu mN mP mK mI mT mD (3 : Int32) q20 u21 h19) (cwV 1 hts (gd_V wd_856 wd_858 wd_21 wd_67 wd_859) rfl rfl rfl hd6_refuses ⟨Nat.le_of_ble_eq_true rfl, Nat.le_of_ble_eq_true rfl⟩) (uPreV hK hP hD (ci := 6) (q := (RX6, TX6, 11)) rfl rfl) rfl rfl hl.1 rfl (lv_room (Nat.le_of_ble_eq_true rfl)) dX6_book_62 ⟨(Nat.zero_le _), (Nat.zero_le _)⟩) hS hP hD [0, 1, 2, 3, 4, 5, 6] rfl rfl rfl rfl (fun H locs hP hD hS => ?_)
          cases hF
          exact ureti hx hb hr hlocks hP hS dX6_book_65
      · have hF := ite_t c9 hF
        refine lv_aload_n hx hb dX6_book_45 rfl (lv_at hl 0 rfl) ?_
        refine lv_iconst hx hb dX6_book_46 kc_iconst_1 ?_
        obtain ⟨q23, u24, h22, hF⟩ := bd2_at hF
        refine ucalli (ws' := (W6 cI aX aN aP aJ aI aT aD ms ml u24 mq mu mN mP mK mI mT mD)) (va_runV (As := [.int (1 : Int32)]) (rest := []) S (K6_refuses l D cI cZ cS cJ aX aN aP aJ aI aT aD ms ml (0 : Int32) mq mu mN mP mK mI mT mD (1 : Int32) q23 u24 h22) (cwV 1 hts (gd_V wd_856 wd_858 wd_21 wd_67 wd_859) rfl rfl rfl hd6_refuses ⟨Nat.le_of_ble_eq_true rfl, Nat.le_of_ble_eq_true rfl⟩) (uPreV hK hP hD (ci := 6) (q := (RX6, TX6, 11)) rfl rfl) rfl rfl hl.1 rfl (lv_room (Nat.le_of_ble_eq_true rfl)) dX6_book_47 ⟨(Nat.zero_le _), (Nat.zero_le _)⟩) hS hP hD [0, 1, 2, 3, 4, 5, 6] rfl rfl rfl rfl (fun H locs hP hD hS => ?_)
        cases hF
        exact ureti hx hb hr hlocks hP hS dX6_book_50
    · have hF := ite_t c6 hF
      refine lv_aload_n hx hb dX6_book_28 rfl (lv_at hl 0 rfl) ?_
      refine lv_iconst hx hb dX6_book_29 kc_iconst_2 ?_
      obtain ⟨q26, u27, h25, hF⟩ := bd2_at hF
      refine ucalli (ws' := (W6 cI aX aN aP aJ aI aT aD ms ml u27 mq mu mN mP mK mI mT mD)) (va_runV (As := [.int (2 : Int32)]) (rest := []) S (K6_refuses l D cI cZ cS cJ aX aN aP aJ aI aT aD ms ml (0 : Int32) mq mu mN mP mK mI mT mD (2 : Int32) q26 u27 h25) (cwV 1 hts (gd_V wd_856 wd_858 wd_21 wd_67 wd_859) rfl rfl rfl hd6_refuses ⟨Nat.le_of_ble_eq_true rfl, Nat.le_of_ble_eq_true rfl⟩) (uPreV hK hP hD (ci := 6) (q := (RX6, TX6, 11)) rfl rfl) rfl rfl hl.1 rfl (lv_room (Nat.le_of_ble_eq_true rfl)) dX6_book_30 ⟨(Nat.zero_le _), (Nat.zero_le _)⟩) hS hP hD [0, 1, 2, 3, 4, 5, 6] rfl rfl rfl rfl (fun H locs hP hD hS => ?_)
      cases hF
      exact ureti hx hb hr hlocks hP hS dX6_book_33
  · have hF := ite_t c3 hF
    refine lv_aload_n hx hb dX6_book_12 rfl (lv_at hl 0 rfl) ?_
    refine lv_iconst hx hb dX6_book_13 kc_iconst_1 ?_
    obtain ⟨q29, u30, h28, hF⟩ := bd2_at hF
    refine ucalli (ws' := (W6 cI aX aN aP aJ aI aT aD ms ml u30 mq mu mN mP mK mI mT mD)) (va_runV (As := [.int (1 : Int32)]) (rest := []) S (K6_refuses l D cI cZ cS cJ aX aN aP aJ aI aT aD ms ml (0 : Int32) mq mu mN mP mK mI mT mD (1 : Int32) q29 u30 h28) (cwV 1 hts (gd_V wd_856 wd_858 wd_21 wd_67 wd_859) rfl rfl rfl hd6_refuses ⟨Nat.le_of_ble_eq_true rfl, Nat.le_of_ble_eq_true rfl⟩) (uPreV hK hP hD (ci := 6) (q := (RX6, TX6, 11)) rfl rfl) rfl rfl hl.1 rfl (lv_room (Nat.le_of_ble_eq_true rfl)) dX6_book_14 ⟨(Nat.zero_le _), (Nat.zero_le _)⟩) hS hP hD [0, 1, 2, 3, 4, 5, 6] rfl rfl rfl rfl (fun H locs hP hD hS => ?_)
    cases hF
    exact ureti hx hb hr hlocks hP hS dX6_book_17
abbrev rm6_write : Room := { frames := 2, cells := 0, slots := 0, locals := 46 }
theorem hd6_write : yX6_write.cls = RX6 ∧ yX6_write.cls ≠ "java/lang/invoke/MethodHandle" ∧ yX6_write.cls ≠ "java/lang/invoke/VarHandle" ∧ (parseMethodDescriptor yX6_write.desc).map (fun d => d.parameters.length) = some 2 := by decide +kernel
set_option maxHeartbeats 4000000 in
set_option maxRecDepth 100000 in
theorem K6_write (l : Launch) (D : va_G) (cI cZ cS cJ : ClassId) (aX aN aP aJ aI aT aD : Nat) (ms : Int32) (ml : Int32) (mt : Int32) (mq : Int32) (mu : Int32) (mN : Nat → Int32) (mP : Nat → Int32) (mK : Nat → Int32) (mI : Nat → Int32) (mT : Nat → Int32) (mD : Nat → Int32) (x1 : Int32) (x2 : Int32) (r : Int32) (z_ms : Int32) (z_mt : Int32) (z_mN : Nat → Int32) (z_mP : Nat → Int32) (hF : f6_write ms mt mN mP x1 x2 = some (r, z_ms, z_mt, z_mN, z_mP)) : Met l yX6_write wsX6_write rm6_write (uP D (gT cI cZ cS cJ) (W6 cI aX aN aP aJ aI aT aD ms ml mt mq mu mN mP mK mI mT mD) [.ref aX, .int x1, .int x2]) (uQ D (some (.int r)) (uA (W6 cI aX aN aP aJ aI aT aD ms ml mt mq mu mN mP mK mI mT mD)) (W6 cI aX aN aP aJ aI aT aD z_ms ml z_mt mq mu z_mN z_mP mK mI mT mD)) 0 0 (uA (W6 cI aX aN aP aJ aI aT aD ms ml mt mq mu mN mP mK mI mT mD)) := by
  refine Met.ofW (cc := cX6_write) (maxL := 4) (ret := (some .int)) (by decide) rfl ?_
  intro p e s m args below meth c s₁ B hml hv
  obtain ⟨ha, hK, hP, hD0⟩ := hv
  have hx := B.exec
  have hb := B.bytes
  have hr := B.returns
  have hlocks := B.notSynchronized
  have hts : ∀ w ∈ lw_all, w.before args s = true := fun w h => atoms_spec (ws := wsX6_write) B.pre w (List.mem_cons_of_mem _ h)
  have hown : s.vm.findClass RX6 = some m.cls := findClass_of_methodNamed B.named
  have S : CallFix p m c cX6_write 4 s args lw_all RX6 := ⟨hx, hb, hml, hown, hts⟩
  have hD := hD0.own
  generalize uA (W6 cI aX aN aP aJ aI aT aD ms ml mt mq mu mN mP mK mI mT mD) = A0 at hD ⊢
  have hS : va_S A0 s.heap s.heap [] := va_S.rf
  have hl := lv_entry ([.ref aX, .int x1, .int x2] : List Value) (n := 4) (Nat.le_of_ble_eq_true rfl)
  refine W.eq (g2 := F0 m 0 ((lg_sl ([.ref aX, .int x1, .int x2] : List Value) ++ List.replicate (4 - (lg_sl ([.ref aX, .int x1, .int x2] : List Value)).length) Slot.unset).toArray) []) (by rw [ha]; exact lg_entry_eq _ _ _) ?_
  generalize (lg_sl ([.ref aX, .int x1, .int x2] : List Value) ++ List.replicate (4 - (lg_sl ([.ref aX, .int x1, .int x2] : List Value)).length) Slot.unset).toArray = ls at hl ⊢
  have hl : lv_has ls 4 [(0, .ref aX), (1, .int x1), (2, .int x2)] := hl
  rw [f6_write] at hF
  show uW p l e wsX6_write rm6_write s m args below meth c D (some (.int r)) A0 (W6 cI aX aN aP aJ aI aT aD z_ms ml z_mt mq mu z_mN z_mP mK mI mT mD) s.heap [] (F0 m 0 ls [])
  refine lv_aload_n hx hb dX6_write_0 rfl (lv_at hl 0 rfl) ?_
  refine lv_iconst hx hb dX6_write_1 kc_iconst_0 ?_
  refine va_put (D := D) (ci := 6) (v := .int (0 : Int32)) (ty := .int) (C := RX6) (T := TX6) (N := 11) hx hb hts i_X6 tyX6 tyX6_ok nmX6 hown hK.1 hP hD hS 0 rfl rfl 7 (by decide) (hts _ wd_818) (fun _ h9 => h9) rfl (by decide +kernel) rfl rfl (Nat.le_of_ble_eq_true rfl) dX6_write_2 (fun H locs hP hD hS => ?_)
  have hP : va_P D vwCl (W6 cI aX aN aP aJ aI aT aD ms ml (0 : Int32) mq mu mN mP mK mI mT mD) H := hP
  have hD : va_D A0 (W6 cI aX aN aP aJ aI aT aD ms ml (0 : Int32) mq mu mN mP mK mI mT mD) := hD
  refine lv_aload_n hx hb dX6_write_5 rfl (lv_at hl 0 rfl) ?_
  refine lv_iload_n hx hb dX6_write_6 rfl (lv_at hl 1 rfl) ?_
  obtain ⟨q2, h1, hF⟩ := bd1_at hF
  refine rcall (va_runV (As := [.int x1]) (rest := []) S (K6_spotOf l D cI cZ cS cJ aX aN aP aJ aI aT aD ms ml (0 : Int32) mq mu mN mP mK mI mT mD x1 q2 h1) (cwV 1 hts (gd_V wd_903 wd_905 wd_28 wd_67 wd_906) rfl rfl rfl hd6_spotOf ⟨Nat.le_of_ble_eq_true rfl, Nat.le_of_ble_eq_true rfl⟩) (rPreV hK hP (ci := 6) (q := (RX6, TX6, 11)) rfl rfl) rfl rfl hl.1 rfl (lv_room (Nat.le_of_ble_eq_true rfl)) dX6_write_7 ⟨(Nat.zero_le _), (Nat.zero_le _)⟩) ?_
  refine lv_istore_n (lv' := [(3, .int q2), (0, .ref aX), (1, .int x1), (2, .int x2)]) hx hb dX6_write_10 rfl hl (by decide) rfl (fun ls hl => ?_)
  refine lv_iload_n hx hb dX6_write_11 rfl (lv_at hl 0 rfl) ?_
  refine lv_iconst hx hb dX6_write_12 kc_iconst_m1 ?_
  refine lv_icmp_ne (tgt := 22) hx hb dX6_write_13 (by decide) (fun c3 => ?_) (fun c3 => ?_)
  · have hF := ite_f c3 hF
    refine lv_iload_n hx hb dX6_write_22 rfl (lv_at hl 3 rfl) ?_
    refine lv_iconst hx hb dX6_write_23 kc_iconst_1 ?_
    refine lv_sipush hx hb dX6_write_24 kc_sipush_999 ?_
    obtain ⟨q5, h4, hF⟩ := bd1_at hF
    refine rcall (va_runS (As := [.int x2, .int (1 : Int32), .int (999 : Int32)]) (rest := []) S (K6_in l D cI cZ cS cJ x2 (1 : Int32) (999 : Int32) q5 h4) (va_cwS 3 hts (gd_S wd_853 wd_854 wd_67 wd_855) rfl rfl rfl hdn6_in ⟨Nat.le_of_ble_eq_true rfl, Nat.le_of_ble_eq_true rfl⟩) (rPreS hK (hP.sub (ws' := ([] : va_W)) [] rfl)) rfl rfl hl.1 rfl (lv_room (Nat.le_of_ble_eq_true rfl)) dX6_write_27 ⟨(Nat.zero_le _), (Nat.zero_le _)⟩) ?_
    refine lv_if_ne (tgt := 39) hx hb dX6_write_30 (by decide) (fun c6 => ?_) (fun c6 => ?_)
    · have hF := ite_f c6 hF
      refine lv_aload_n hx hb dX6_write_39 rfl (lv_at hl 1 rfl) ?_
      refine va_get (D := D) (ci := 6) (v := .ref aN) (C := RX6) (T := TX6) (N := 11) hx hb hts i_X6 hown hK.1 hP 0 rfl rfl 0 (by decide) (hts _ wd_811) (fun _ h9 => h9) rfl dX6_write_40 ?_
      refine lv_bipush hx hb dX6_write_43 kc_bipush_21 ?_
      refine lv_iload_n hx hb dX6_write_45 rfl (lv_at hl 0 rfl) ?_
      refine lv_iadd hx hb dX6_write_46 ?_
      obtain ⟨g7, hF⟩ := gd_at hF
      refine va_iald hx hb hK.1 hP 1 0 rfl rfl g7 dX6_write_47 ?_
      refine lv_if_eq (tgt := 57) hx hb dX6_write_48 (by decide) (fun c8 => ?_) (fun c8 => ?_)
      · have hF := ite_t c8 hF
        refine lv_aload_n hx hb dX6_write_57 rfl (lv_at hl 1 rfl) ?_
        obtain ⟨u10, u11, h9, hF⟩ := bd2_at hF
        refine ucallv (ws' := (W6 cI aX aN aP aJ aI aT aD u10 ml (0 : Int32) mq mu mN u11 mK mI mT mD)) (va_runV (As := []) (rest := []) S (K6_saves l D cI cZ cS cJ aX aN aP aJ aI aT aD ms ml (0 : Int32) mq mu mN mP mK mI mT mD u10 u11 h9) (cwV 0 hts (gd_V wd_860 wd_862 wd_22 wd_67 wd_863) rfl rfl rfl hd6_saves ⟨Nat.le_of_ble_eq_true rfl, Nat.le_of_ble_eq_true rfl⟩) (uPreV hK hP hD (ci := 6) (q := (RX6, TX6, 11)) rfl rfl) rfl rfl hl.1 rfl (lv_room (Nat.le_of_ble_eq_true rfl)) dX6_write_58 ⟨(Nat.zero_le _), (Nat.zero_le _)⟩) hS hP hD [0, 1, 2, 3, 4, 5, 6] rfl rfl rfl rfl (fun H locs hP hD hS => ?_)
        refine lv_aload_n hx hb dX6_write_61 rfl (lv_at hl 1 rfl) ?_
        refine lv_iload_n hx hb dX6_write_62 rfl (lv_at hl 0 rfl) ?_
        refine lv_iload_n hx hb dX6_write_63 rfl (lv_at hl 3 rfl) ?_
        obtain ⟨u13, h12, hF⟩ := bd1_at hF
        refine ucallv (ws' := (W6 cI aX aN aP aJ aI aT aD u10 ml (0 : Int32) mq mu u13 u11 mK mI mT mD)) (va_runV (As := [.int q2, .int x2]) (rest := []) S (K6_writes l D cI cZ cS cJ aX aN aP aJ aI aT aD u10 ml (0 : Int32) mq mu mN u11 mK mI mT mD q2 x2 u13 h12) (cwV 2 hts (gd_V wd_907 wd_909 wd_29 wd_67 wd_910) rfl rfl rfl hd6_writes ⟨Nat.le_of_ble_eq_true rfl, Nat.le_of_ble_eq_true rfl⟩) (uPreV hK hP hD (ci := 6) (q := (RX6, TX6, 11)) rfl rfl) rfl rfl hl.1 rfl (lv_room (Nat.le_of_ble_eq_true rfl)) dX6_write_64 ⟨(Nat.zero_le _), (Nat.zero_le _)⟩) hS hP hD [0, 1, 2, 3, 4, 5, 6] rfl rfl rfl rfl (fun H locs hP hD hS => ?_)
        refine lv_aload_n hx hb dX6_write_67 rfl (lv_at hl 1 rfl) ?_
        refine lv_iload_n hx hb dX6_write_68 rfl (lv_at hl 2 rfl) ?_
        obtain ⟨q15, h14, hF⟩ := bd1_at hF
        refine rcall (va_runV (As := [.int x1]) (rest := []) S (K6_letterOf l D cI cZ cS cJ aX aN aP aJ aI aT aD u10 ml (0 : Int32) mq mu u13 u11 mK mI mT mD x1 q15 h14) (cwV 1 hts (gd_V wd_911 wd_913 wd_30 wd_67 wd_914) rfl rfl rfl hd6_letterOf ⟨Nat.le_of_ble_eq_true rfl, Nat.le_of_ble_eq_true rfl⟩) (rPreV hK hP (ci := 6) (q := (RX6, TX6, 11)) rfl rfl) rfl rfl hl.1 rfl (lv_room (Nat.le_of_ble_eq_true rfl)) dX6_write_69 ⟨(Nat.zero_le _), (Nat.zero_le _)⟩) ?_
        cases hF
        exact ureti hx hb hr hlocks hP hS dX6_write_72
      · have hF := ite_f c8 hF
        refine lv_aload_n hx hb dX6_write_51 rfl (lv_at hl 1 rfl) ?_
        refine lv_iconst hx hb dX6_write_52 kc_iconst_3 ?_
        obtain ⟨q17, u18, h16, hF⟩ := bd2_at hF
        refine ucalli (ws' := (W6 cI aX aN aP aJ aI aT aD ms ml u18 mq mu mN mP mK mI mT mD)) (va_runV (As := [.int (3 : Int32)]) (rest := []) S (K6_refuses l D cI cZ cS cJ aX aN aP aJ aI aT aD ms ml (0 : Int32) mq mu mN mP mK mI mT mD (3 : Int32) q17 u18 h16) (cwV 1 hts (gd_V wd_856 wd_858 wd_21 wd_67 wd_859) rfl rfl rfl hd6_refuses ⟨Nat.le_of_ble_eq_true rfl, Nat.le_of_ble_eq_true rfl⟩) (uPreV hK hP hD (ci := 6) (q := (RX6, TX6, 11)) rfl rfl) rfl rfl hl.1 rfl (lv_room (Nat.le_of_ble_eq_true rfl)) dX6_write_53 ⟨(Nat.zero_le _), (Nat.zero_le _)⟩) hS hP hD [0, 1, 2, 3, 4, 5, 6] rfl rfl rfl rfl (fun H locs hP hD hS => ?_)
        cases hF
        exact ureti hx hb hr hlocks hP hS dX6_write_56
    · have hF := ite_t c6 hF
      refine lv_aload_n hx hb dX6_write_33 rfl (lv_at hl 1 rfl) ?_
      refine lv_iconst hx hb dX6_write_34 kc_iconst_2 ?_
      obtain ⟨q20, u21, h19, hF⟩ := bd2_at hF
      refine ucalli (ws' := (W6 cI aX aN aP aJ aI aT aD ms ml u21 mq mu mN mP mK mI mT mD)) (va_runV (As := [.int (2 : Int32)]) (rest := []) S (K6_refuses l D cI cZ cS cJ aX aN aP aJ aI aT aD ms ml (0 : Int32) mq mu mN mP mK mI mT mD (2 : Int32) q20 u21 h19) (cwV 1 hts (gd_V wd_856 wd_858 wd_21 wd_67 wd_859) rfl rfl rfl hd6_refuses ⟨Nat.le_of_ble_eq_true rfl, Nat.le_of_ble_eq_true rfl⟩) (uPreV hK hP hD (ci := 6) (q := (RX6, TX6, 11)) rfl rfl) rfl rfl hl.1 rfl (lv_room (Nat.le_of_ble_eq_true rfl)) dX6_write_35 ⟨(Nat.zero_le _), (Nat.zero_le _)⟩) hS hP hD [0, 1, 2, 3, 4, 5, 6] rfl rfl rfl rfl (fun H locs hP hD hS => ?_)
      cases hF
      exact ureti hx hb hr hlocks hP hS dX6_write_38
  · have hF := ite_t c3 hF
    refine lv_aload_n hx hb dX6_write_16 rfl (lv_at hl 1 rfl) ?_
    refine lv_iconst hx hb dX6_write_17 kc_iconst_1 ?_
    obtain ⟨q23, u24, h22, hF⟩ := bd2_at hF
    refine ucalli (ws' := (W6 cI aX aN aP aJ aI aT aD ms ml u24 mq mu mN mP mK mI mT mD)) (va_runV (As := [.int (1 : Int32)]) (rest := []) S (K6_refuses l D cI cZ cS cJ aX aN aP aJ aI aT aD ms ml (0 : Int32) mq mu mN mP mK mI mT mD (1 : Int32) q23 u24 h22) (cwV 1 hts (gd_V wd_856 wd_858 wd_21 wd_67 wd_859) rfl rfl rfl hd6_refuses ⟨Nat.le_of_ble_eq_true rfl, Nat.le_of_ble_eq_true rfl⟩) (uPreV hK hP hD (ci := 6) (q := (RX6, TX6, 11)) rfl rfl) rfl rfl hl.1 rfl (lv_room (Nat.le_of_ble_eq_true rfl)) dX6_write_18 ⟨(Nat.zero_le _), (Nat.zero_le _)⟩) hS hP hD [0, 1, 2, 3, 4, 5, 6] rfl rfl rfl rfl (fun H locs hP hD hS => ?_)
    cases hF
    exact ureti hx hb hr hlocks hP hS dX6_write_21
abbrev rm6_cash : Room := { frames := 3, cells := 0, slots := 0, locals := 70 }
theorem hd6_cash : yX6_cash.cls = RX6 ∧ yX6_cash.cls ≠ "java/lang/invoke/MethodHandle" ∧ yX6_cash.cls ≠ "java/lang/invoke/VarHandle" ∧ (parseMethodDescriptor yX6_cash.desc).map (fun d => d.parameters.length) = some 2 := by decide +kernel
set_option maxHeartbeats 4000000 in
set_option maxRecDepth 100000 in
theorem K6_cash (l : Launch) (D : va_G) (cI cZ cS cJ : ClassId) (aX aN aP aJ aI aT aD : Nat) (ms : Int32) (ml : Int32) (mt : Int32) (mq : Int32) (mu : Int32) (mN : Nat → Int32) (mP : Nat → Int32) (mK : Nat → Int32) (mI : Nat → Int32) (mT : Nat → Int32) (mD : Nat → Int32) (x1 : Int32) (x2 : Int32) (r : Int32) (z_ms : Int32) (z_mt : Int32) (z_mN : Nat → Int32) (z_mP : Nat → Int32) (hF : f6_cash ms mt mN mP x1 x2 = some (r, z_ms, z_mt, z_mN, z_mP)) : Met l yX6_cash wsX6_cash rm6_cash (uP D (gT cI cZ cS cJ) (W6 cI aX aN aP aJ aI aT aD ms ml mt mq mu mN mP mK mI mT mD) [.ref aX, .int x1, .int x2]) (uQ D (some (.int r)) (uA (W6 cI aX aN aP aJ aI aT aD ms ml mt mq mu mN mP mK mI mT mD)) (W6 cI aX aN aP aJ aI aT aD z_ms ml z_mt mq mu z_mN z_mP mK mI mT mD)) 0 0 (uA (W6 cI aX aN aP aJ aI aT aD ms ml mt mq mu mN mP mK mI mT mD)) := by
  refine Met.ofW (cc := cX6_cash) (maxL := 3) (ret := (some .int)) (by decide) rfl ?_
  intro p e s m args below meth c s₁ B hml hv
  obtain ⟨ha, hK, hP, hD0⟩ := hv
  have hx := B.exec
  have hb := B.bytes
  have hr := B.returns
  have hlocks := B.notSynchronized
  have hts : ∀ w ∈ lw_all, w.before args s = true := fun w h => atoms_spec (ws := wsX6_cash) B.pre w (List.mem_cons_of_mem _ h)
  have hown : s.vm.findClass RX6 = some m.cls := findClass_of_methodNamed B.named
  have S : CallFix p m c cX6_cash 3 s args lw_all RX6 := ⟨hx, hb, hml, hown, hts⟩
  have hD := hD0.own
  generalize uA (W6 cI aX aN aP aJ aI aT aD ms ml mt mq mu mN mP mK mI mT mD) = A0 at hD ⊢
  have hS : va_S A0 s.heap s.heap [] := va_S.rf
  have hl := lv_entry ([.ref aX, .int x1, .int x2] : List Value) (n := 3) (Nat.le_of_ble_eq_true rfl)
  refine W.eq (g2 := F0 m 0 ((lg_sl ([.ref aX, .int x1, .int x2] : List Value) ++ List.replicate (3 - (lg_sl ([.ref aX, .int x1, .int x2] : List Value)).length) Slot.unset).toArray) []) (by rw [ha]; exact lg_entry_eq _ _ _) ?_
  generalize (lg_sl ([.ref aX, .int x1, .int x2] : List Value) ++ List.replicate (3 - (lg_sl ([.ref aX, .int x1, .int x2] : List Value)).length) Slot.unset).toArray = ls at hl ⊢
  have hl : lv_has ls 3 [(0, .ref aX), (1, .int x1), (2, .int x2)] := hl
  rw [f6_cash] at hF
  show uW p l e wsX6_cash rm6_cash s m args below meth c D (some (.int r)) A0 (W6 cI aX aN aP aJ aI aT aD z_ms ml z_mt mq mu z_mN z_mP mK mI mT mD) s.heap [] (F0 m 0 ls [])
  refine lv_aload_n hx hb dX6_cash_0 rfl (lv_at hl 0 rfl) ?_
  refine lv_iconst hx hb dX6_cash_1 kc_iconst_0 ?_
  refine va_put (D := D) (ci := 6) (v := .int (0 : Int32)) (ty := .int) (C := RX6) (T := TX6) (N := 11) hx hb hts i_X6 tyX6 tyX6_ok nmX6 hown hK.1 hP hD hS 0 rfl rfl 7 (by decide) (hts _ wd_818) (fun _ h9 => h9) rfl (by decide +kernel) rfl rfl (Nat.le_of_ble_eq_true rfl) dX6_cash_2 (fun H locs hP hD hS => ?_)
  have hP : va_P D vwCl (W6 cI aX aN aP aJ aI aT aD ms ml (0 : Int32) mq mu mN mP mK mI mT mD) H := hP
  have hD : va_D A0 (W6 cI aX aN aP aJ aI aT aD ms ml (0 : Int32) mq mu mN mP mK mI mT mD) := hD
  refine lv_iload_n hx hb dX6_cash_5 rfl (lv_at hl 1 rfl) ?_
  obtain ⟨q2, h1, hF⟩ := bd1_at hF
  refine rcall (va_runS (As := [.int x1]) (rest := []) S (K6_isSerial l D cI cZ cS cJ x1 q2 h1) (va_cwS 1 hts (gd_S wd_875 wd_876 wd_67 wd_877) rfl rfl rfl hdn6_isSerial ⟨Nat.le_of_ble_eq_true rfl, Nat.le_of_ble_eq_true rfl⟩) (rPreS hK (hP.sub (ws' := ([] : va_W)) [] rfl)) rfl rfl hl.1 rfl (lv_room (Nat.le_of_ble_eq_true rfl)) dX6_cash_6 ⟨(Nat.zero_le _), (Nat.zero_le _)⟩) ?_
  refine lv_if_ne (tgt := 18) hx hb dX6_cash_9 (by decide) (fun c3 => ?_) (fun c3 => ?_)
  · have hF := ite_f c3 hF
    refine lv_iload_n hx hb dX6_cash_18 rfl (lv_at hl 2 rfl) ?_
    obtain ⟨q5, h4, hF⟩ := bd1_at hF
    refine rcall (va_runS (As := [.int x2]) (rest := []) S (K6_isLetter l D cI cZ cS cJ x2 q5 h4) (va_cwS 1 hts (gd_S wd_922 wd_923 wd_67 wd_924) rfl rfl rfl hdn6_isLetter ⟨Nat.le_of_ble_eq_true rfl, Nat.le_of_ble_eq_true rfl⟩) (rPreS hK (hP.sub (ws' := ([] : va_W)) [] rfl)) rfl rfl hl.1 rfl (lv_room (Nat.le_of_ble_eq_true rfl)) dX6_cash_19 ⟨(Nat.zero_le _), (Nat.zero_le _)⟩) ?_
    refine lv_if_ne (tgt := 31) hx hb dX6_cash_22 (by decide) (fun c6 => ?_) (fun c6 => ?_)
    · have hF := ite_f c6 hF
      refine lv_aload_n hx hb dX6_cash_31 rfl (lv_at hl 0 rfl) ?_
      obtain ⟨u8, u9, h7, hF⟩ := bd2_at hF
      refine ucallv (ws' := (W6 cI aX aN aP aJ aI aT aD u8 ml (0 : Int32) mq mu mN u9 mK mI mT mD)) (va_runV (As := []) (rest := []) S (K6_saves l D cI cZ cS cJ aX aN aP aJ aI aT aD ms ml (0 : Int32) mq mu mN mP mK mI mT mD u8 u9 h7) (cwV 0 hts (gd_V wd_860 wd_862 wd_22 wd_67 wd_863) rfl rfl rfl hd6_saves ⟨Nat.le_of_ble_eq_true rfl, Nat.le_of_ble_eq_true rfl⟩) (uPreV hK hP hD (ci := 6) (q := (RX6, TX6, 11)) rfl rfl) rfl rfl hl.1 rfl (lv_room (Nat.le_of_ble_eq_true rfl)) dX6_cash_32 ⟨(Nat.zero_le _), (Nat.zero_le _)⟩) hS hP hD [0, 1, 2, 3, 4, 5, 6] rfl rfl rfl rfl (fun H locs hP hD hS => ?_)
      refine lv_aload_n hx hb dX6_cash_35 rfl (lv_at hl 0 rfl) ?_
      refine lv_iload_n hx hb dX6_cash_36 rfl (lv_at hl 1 rfl) ?_
      refine lv_iload_n hx hb dX6_cash_37 rfl (lv_at hl 2 rfl) ?_
      obtain ⟨q11, u12, h10, hF⟩ := bd2_at hF
      refine ucalli (ws' := (W6 cI aX aN aP aJ aI aT aD u8 ml (0 : Int32) mq mu u12 u9 mK mI mT mD)) (va_runV (As := [.int x1, .int x2]) (rest := []) S (K6_cashes l D cI cZ cS cJ aX aN aP aJ aI aT aD u8 ml (0 : Int32) mq mu mN u9 mK mI mT mD x1 x2 q11 u12 h10) (cwV 2 hts (gd_V wd_925 wd_927 wd_31 wd_67 wd_928) rfl rfl rfl hd6_cashes ⟨Nat.le_of_ble_eq_true rfl, Nat.le_of_ble_eq_true rfl⟩) (uPreV hK hP hD (ci := 6) (q := (RX6, TX6, 11)) rfl rfl) rfl rfl hl.1 rfl (lv_room (Nat.le_of_ble_eq_true rfl)) dX6_cash_38 ⟨(Nat.zero_le _), (Nat.zero_le _)⟩) hS hP hD [0, 1, 2, 3, 4, 5, 6] rfl rfl rfl rfl (fun H locs hP hD hS => ?_)
      cases hF
      exact ureti hx hb hr hlocks hP hS dX6_cash_41
    · have hF := ite_t c6 hF
      refine lv_aload_n hx hb dX6_cash_25 rfl (lv_at hl 0 rfl) ?_
      refine lv_iconst hx hb dX6_cash_26 kc_iconst_2 ?_
      obtain ⟨q14, u15, h13, hF⟩ := bd2_at hF
      refine ucalli (ws' := (W6 cI aX aN aP aJ aI aT aD ms ml u15 mq mu mN mP mK mI mT mD)) (va_runV (As := [.int (2 : Int32)]) (rest := []) S (K6_refuses l D cI cZ cS cJ aX aN aP aJ aI aT aD ms ml (0 : Int32) mq mu mN mP mK mI mT mD (2 : Int32) q14 u15 h13) (cwV 1 hts (gd_V wd_856 wd_858 wd_21 wd_67 wd_859) rfl rfl rfl hd6_refuses ⟨Nat.le_of_ble_eq_true rfl, Nat.le_of_ble_eq_true rfl⟩) (uPreV hK hP hD (ci := 6) (q := (RX6, TX6, 11)) rfl rfl) rfl rfl hl.1 rfl (lv_room (Nat.le_of_ble_eq_true rfl)) dX6_cash_27 ⟨(Nat.zero_le _), (Nat.zero_le _)⟩) hS hP hD [0, 1, 2, 3, 4, 5, 6] rfl rfl rfl rfl (fun H locs hP hD hS => ?_)
      cases hF
      exact ureti hx hb hr hlocks hP hS dX6_cash_30
  · have hF := ite_t c3 hF
    refine lv_aload_n hx hb dX6_cash_12 rfl (lv_at hl 0 rfl) ?_
    refine lv_iconst hx hb dX6_cash_13 kc_iconst_1 ?_
    obtain ⟨q17, u18, h16, hF⟩ := bd2_at hF
    refine ucalli (ws' := (W6 cI aX aN aP aJ aI aT aD ms ml u18 mq mu mN mP mK mI mT mD)) (va_runV (As := [.int (1 : Int32)]) (rest := []) S (K6_refuses l D cI cZ cS cJ aX aN aP aJ aI aT aD ms ml (0 : Int32) mq mu mN mP mK mI mT mD (1 : Int32) q17 u18 h16) (cwV 1 hts (gd_V wd_856 wd_858 wd_21 wd_67 wd_859) rfl rfl rfl hd6_refuses ⟨Nat.le_of_ble_eq_true rfl, Nat.le_of_ble_eq_true rfl⟩) (uPreV hK hP hD (ci := 6) (q := (RX6, TX6, 11)) rfl rfl) rfl rfl hl.1 rfl (lv_room (Nat.le_of_ble_eq_true rfl)) dX6_cash_14 ⟨(Nat.zero_le _), (Nat.zero_le _)⟩) hS hP hD [0, 1, 2, 3, 4, 5, 6] rfl rfl rfl rfl (fun H locs hP hD hS => ?_)
    cases hF
    exact ureti hx hb hr hlocks hP hS dX6_cash_17
abbrev rm6_voidRun : Room := { frames := 3, cells := 0, slots := 0, locals := 67 }
theorem hd6_voidRun : yX6_voidRun.cls = RX6 ∧ yX6_voidRun.cls ≠ "java/lang/invoke/MethodHandle" ∧ yX6_voidRun.cls ≠ "java/lang/invoke/VarHandle" ∧ (parseMethodDescriptor yX6_voidRun.desc).map (fun d => d.parameters.length) = some 2 := by decide +kernel
set_option maxHeartbeats 4000000 in
set_option maxRecDepth 100000 in
theorem K6_voidRun (l : Launch) (D : va_G) (cI cZ cS cJ : ClassId) (aX aN aP aJ aI aT aD : Nat) (ms : Int32) (ml : Int32) (mt : Int32) (mq : Int32) (mu : Int32) (mN : Nat → Int32) (mP : Nat → Int32) (mK : Nat → Int32) (mI : Nat → Int32) (mT : Nat → Int32) (mD : Nat → Int32) (x1 : Int32) (x2 : Int32) (r : Int32) (z_ms : Int32) (z_mt : Int32) (z_mN : Nat → Int32) (z_mP : Nat → Int32) (hF : f6_voidRun ms mt mN mP x1 x2 = some (r, z_ms, z_mt, z_mN, z_mP)) : Met l yX6_voidRun wsX6_voidRun rm6_voidRun (uP D (gT cI cZ cS cJ) (W6 cI aX aN aP aJ aI aT aD ms ml mt mq mu mN mP mK mI mT mD) [.ref aX, .int x1, .int x2]) (uQ D (some (.int r)) (uA (W6 cI aX aN aP aJ aI aT aD ms ml mt mq mu mN mP mK mI mT mD)) (W6 cI aX aN aP aJ aI aT aD z_ms ml z_mt mq mu z_mN z_mP mK mI mT mD)) 0 0 (uA (W6 cI aX aN aP aJ aI aT aD ms ml mt mq mu mN mP mK mI mT mD)) := by
  refine Met.ofW (cc := cX6_voidRun) (maxL := 3) (ret := (some .int)) (by decide) rfl ?_
  intro p e s m args below meth c s₁ B hml hv
  obtain ⟨ha, hK, hP, hD0⟩ := hv
  have hx := B.exec
  have hb := B.bytes
  have hr := B.returns
  have hlocks := B.notSynchronized
  have hts : ∀ w ∈ lw_all, w.before args s = true := fun w h => atoms_spec (ws := wsX6_voidRun) B.pre w (List.mem_cons_of_mem _ h)
  have hown : s.vm.findClass RX6 = some m.cls := findClass_of_methodNamed B.named
  have S : CallFix p m c cX6_voidRun 3 s args lw_all RX6 := ⟨hx, hb, hml, hown, hts⟩
  have hD := hD0.own
  generalize uA (W6 cI aX aN aP aJ aI aT aD ms ml mt mq mu mN mP mK mI mT mD) = A0 at hD ⊢
  have hS : va_S A0 s.heap s.heap [] := va_S.rf
  have hl := lv_entry ([.ref aX, .int x1, .int x2] : List Value) (n := 3) (Nat.le_of_ble_eq_true rfl)
  refine W.eq (g2 := F0 m 0 ((lg_sl ([.ref aX, .int x1, .int x2] : List Value) ++ List.replicate (3 - (lg_sl ([.ref aX, .int x1, .int x2] : List Value)).length) Slot.unset).toArray) []) (by rw [ha]; exact lg_entry_eq _ _ _) ?_
  generalize (lg_sl ([.ref aX, .int x1, .int x2] : List Value) ++ List.replicate (3 - (lg_sl ([.ref aX, .int x1, .int x2] : List Value)).length) Slot.unset).toArray = ls at hl ⊢
  have hl : lv_has ls 3 [(0, .ref aX), (1, .int x1), (2, .int x2)] := hl
  clear ha
  have W_19 : ∀ (ms : Int32) (mt : Int32) (mN : Nat → Int32) (mP : Nat → Int32), ∀ (H : Heap) (locs : List Loc), va_P D vwCl (W6 cI aX aN aP aJ aI aT aD ms ml mt mq mu mN mP mK mI mT mD) H → va_D A0 (W6 cI aX aN aP aJ aI aT aD ms ml mt mq mu mN mP mK mI mT mD) → va_S A0 s.heap H locs → ∀ (ls : Array Slot), lv_has ls 3 [(0, .ref aX)] → f6_voidRun_j19 ms mt mN mP = some (r, z_ms, z_mt, z_mN, z_mP) → uW p l e wsX6_voidRun rm6_voidRun s m args below meth c D (some (.int r)) A0 (W6 cI aX aN aP aJ aI aT aD z_ms ml z_mt mq mu z_mN z_mP mK mI mT mD) H locs (F0 m 19 ls []) := by
    intro ms mt mN mP  H locs hP hD hS ls hl hF
    rw [f6_voidRun_j19] at hF
    refine lv_aload_n hx hb dX6_voidRun_19 rfl (lv_at hl 0 rfl) ?_
    refine lv_iconst hx hb dX6_voidRun_20 kc_iconst_1 ?_
    obtain ⟨q18, u19, h17, hF⟩ := bd2_at hF
    refine ucalli (ws' := (W6 cI aX aN aP aJ aI aT aD ms ml u19 mq mu mN mP mK mI mT mD)) (va_runV (As := [.int (1 : Int32)]) (rest := []) S (K6_refuses l D cI cZ cS cJ aX aN aP aJ aI aT aD ms ml mt mq mu mN mP mK mI mT mD (1 : Int32) q18 u19 h17) (cwV 1 hts (gd_V wd_856 wd_858 wd_21 wd_67 wd_859) rfl rfl rfl hd6_refuses ⟨Nat.le_of_ble_eq_true rfl, Nat.le_of_ble_eq_true rfl⟩) (uPreV hK hP hD (ci := 6) (q := (RX6, TX6, 11)) rfl rfl) rfl rfl hl.1 rfl (lv_room (Nat.le_of_ble_eq_true rfl)) dX6_voidRun_21 ⟨(Nat.zero_le _), (Nat.zero_le _)⟩) hS hP hD [0, 1, 2, 3, 4, 5, 6] rfl rfl rfl rfl (fun H locs hP hD hS => ?_)
    cases hF
    exact ureti hx hb hr hlocks hP hS dX6_voidRun_24
  rw [f6_voidRun] at hF
  show uW p l e wsX6_voidRun rm6_voidRun s m args below meth c D (some (.int r)) A0 (W6 cI aX aN aP aJ aI aT aD z_ms ml z_mt mq mu z_mN z_mP mK mI mT mD) s.heap [] (F0 m 0 ls [])
  refine lv_aload_n hx hb dX6_voidRun_0 rfl (lv_at hl 0 rfl) ?_
  refine lv_iconst hx hb dX6_voidRun_1 kc_iconst_0 ?_
  refine va_put (D := D) (ci := 6) (v := .int (0 : Int32)) (ty := .int) (C := RX6) (T := TX6) (N := 11) hx hb hts i_X6 tyX6 tyX6_ok nmX6 hown hK.1 hP hD hS 0 rfl rfl 7 (by decide) (hts _ wd_818) (fun _ h9 => h9) rfl (by decide +kernel) rfl rfl (Nat.le_of_ble_eq_true rfl) dX6_voidRun_2 (fun H locs hP hD hS => ?_)
  have hP : va_P D vwCl (W6 cI aX aN aP aJ aI aT aD ms ml (0 : Int32) mq mu mN mP mK mI mT mD) H := hP
  have hD : va_D A0 (W6 cI aX aN aP aJ aI aT aD ms ml (0 : Int32) mq mu mN mP mK mI mT mD) := hD
  refine lv_iload_n hx hb dX6_voidRun_5 rfl (lv_at hl 1 rfl) ?_
  obtain ⟨q2, h1, hF⟩ := bd1_at hF
  refine rcall (va_runS (As := [.int x1]) (rest := []) S (K6_isSerial l D cI cZ cS cJ x1 q2 h1) (va_cwS 1 hts (gd_S wd_875 wd_876 wd_67 wd_877) rfl rfl rfl hdn6_isSerial ⟨Nat.le_of_ble_eq_true rfl, Nat.le_of_ble_eq_true rfl⟩) (rPreS hK (hP.sub (ws' := ([] : va_W)) [] rfl)) rfl rfl hl.1 rfl (lv_room (Nat.le_of_ble_eq_true rfl)) dX6_voidRun_6 ⟨(Nat.zero_le _), (Nat.zero_le _)⟩) ?_
  refine lv_if_eq (tgt := 19) hx hb dX6_voidRun_9 (by decide) (fun c3 => ?_) (fun c3 => ?_)
  · have hF := ite_t c3 hF
    exact W_19 ms (0 : Int32) mN mP  _ _ hP hD hS ls (lv_sub hl [0] rfl) hF
  · have hF := ite_f c3 hF
    refine lv_iload_n hx hb dX6_voidRun_12 rfl (lv_at hl 2 rfl) ?_
    obtain ⟨q5, h4, hF⟩ := bd1_at hF
    refine rcall (va_runS (As := [.int x2]) (rest := []) S (K6_isSerial l D cI cZ cS cJ x2 q5 h4) (va_cwS 1 hts (gd_S wd_875 wd_876 wd_67 wd_877) rfl rfl rfl hdn6_isSerial ⟨Nat.le_of_ble_eq_true rfl, Nat.le_of_ble_eq_true rfl⟩) (rPreS hK (hP.sub (ws' := ([] : va_W)) [] rfl)) rfl rfl hl.1 rfl (lv_room (Nat.le_of_ble_eq_true rfl)) dX6_voidRun_13 ⟨(Nat.zero_le _), (Nat.zero_le _)⟩) ?_
    refine lv_if_ne (tgt := 25) hx hb dX6_voidRun_16 (by decide) (fun c6 => ?_) (fun c6 => ?_)
    · have hF := ite_f c6 hF
      refine lv_iload_n hx hb dX6_voidRun_25 rfl (lv_at hl 2 rfl) ?_
      refine lv_iload_n hx hb dX6_voidRun_26 rfl (lv_at hl 1 rfl) ?_
      refine lv_icmp_ge (tgt := 36) hx hb dX6_voidRun_27 (by decide) (fun c7 => ?_) (fun c7 => ?_)
      · have hF := ite_t c7 hF
        refine lv_aload_n hx hb dX6_voidRun_36 rfl (lv_at hl 0 rfl) ?_
        obtain ⟨u9, u10, h8, hF⟩ := bd2_at hF
        refine ucallv (ws' := (W6 cI aX aN aP aJ aI aT aD u9 ml (0 : Int32) mq mu mN u10 mK mI mT mD)) (va_runV (As := []) (rest := []) S (K6_saves l D cI cZ cS cJ aX aN aP aJ aI aT aD ms ml (0 : Int32) mq mu mN mP mK mI mT mD u9 u10 h8) (cwV 0 hts (gd_V wd_860 wd_862 wd_22 wd_67 wd_863) rfl rfl rfl hd6_saves ⟨Nat.le_of_ble_eq_true rfl, Nat.le_of_ble_eq_true rfl⟩) (uPreV hK hP hD (ci := 6) (q := (RX6, TX6, 11)) rfl rfl) rfl rfl hl.1 rfl (lv_room (Nat.le_of_ble_eq_true rfl)) dX6_voidRun_37 ⟨(Nat.zero_le _), (Nat.zero_le _)⟩) hS hP hD [0, 1, 2, 3, 4, 5, 6] rfl rfl rfl rfl (fun H locs hP hD hS => ?_)
        refine lv_aload_n hx hb dX6_voidRun_40 rfl (lv_at hl 0 rfl) ?_
        refine lv_iload_n hx hb dX6_voidRun_41 rfl (lv_at hl 1 rfl) ?_
        refine lv_iload_n hx hb dX6_voidRun_42 rfl (lv_at hl 2 rfl) ?_
        obtain ⟨q12, u13, h11, hF⟩ := bd2_at hF
        refine ucalli (ws' := (W6 cI aX aN aP aJ aI aT aD u9 ml (0 : Int32) mq mu u13 u10 mK mI mT mD)) (va_runV (As := [.int x1, .int x2]) (rest := []) S (K6_voids l D cI cZ cS cJ aX aN aP aJ aI aT aD u9 ml (0 : Int32) mq mu mN u10 mK mI mT mD x1 x2 q12 u13 h11) (cwV 2 hts (gd_V wd_933 wd_935 wd_32 wd_67 wd_936) rfl rfl rfl hd6_voids ⟨Nat.le_of_ble_eq_true rfl, Nat.le_of_ble_eq_true rfl⟩) (uPreV hK hP hD (ci := 6) (q := (RX6, TX6, 11)) rfl rfl) rfl rfl hl.1 rfl (lv_room (Nat.le_of_ble_eq_true rfl)) dX6_voidRun_43 ⟨(Nat.zero_le _), (Nat.zero_le _)⟩) hS hP hD [0, 1, 2, 3, 4, 5, 6] rfl rfl rfl rfl (fun H locs hP hD hS => ?_)
        cases hF
        exact ureti hx hb hr hlocks hP hS dX6_voidRun_46
      · have hF := ite_f c7 hF
        refine lv_aload_n hx hb dX6_voidRun_30 rfl (lv_at hl 0 rfl) ?_
        refine lv_iconst hx hb dX6_voidRun_31 kc_iconst_2 ?_
        obtain ⟨q15, u16, h14, hF⟩ := bd2_at hF
        refine ucalli (ws' := (W6 cI aX aN aP aJ aI aT aD ms ml u16 mq mu mN mP mK mI mT mD)) (va_runV (As := [.int (2 : Int32)]) (rest := []) S (K6_refuses l D cI cZ cS cJ aX aN aP aJ aI aT aD ms ml (0 : Int32) mq mu mN mP mK mI mT mD (2 : Int32) q15 u16 h14) (cwV 1 hts (gd_V wd_856 wd_858 wd_21 wd_67 wd_859) rfl rfl rfl hd6_refuses ⟨Nat.le_of_ble_eq_true rfl, Nat.le_of_ble_eq_true rfl⟩) (uPreV hK hP hD (ci := 6) (q := (RX6, TX6, 11)) rfl rfl) rfl rfl hl.1 rfl (lv_room (Nat.le_of_ble_eq_true rfl)) dX6_voidRun_32 ⟨(Nat.zero_le _), (Nat.zero_le _)⟩) hS hP hD [0, 1, 2, 3, 4, 5, 6] rfl rfl rfl rfl (fun H locs hP hD hS => ?_)
        cases hF
        exact ureti hx hb hr hlocks hP hS dX6_voidRun_35
    · have hF := ite_t c6 hF
      exact W_19 ms (0 : Int32) mN mP  _ _ hP hD hS ls (lv_sub hl [0] rfl) hF
abbrev rm6_append : Room := { frames := 1, cells := 0, slots := 0, locals := 22 }
theorem hd6_append : yX6_append.cls = RX6 ∧ yX6_append.cls ≠ "java/lang/invoke/MethodHandle" ∧ yX6_append.cls ≠ "java/lang/invoke/VarHandle" ∧ (parseMethodDescriptor yX6_append.desc).map (fun d => d.parameters.length) = some 1 := by decide +kernel
set_option maxHeartbeats 4000000 in
set_option maxRecDepth 100000 in
theorem K6_append (l : Launch) (D : va_G) (cI cZ cS cJ : ClassId) (aX aN aP aJ aI aT aD : Nat) (ms : Int32) (ml : Int32) (mt : Int32) (mq : Int32) (mu : Int32) (mN : Nat → Int32) (mP : Nat → Int32) (mK : Nat → Int32) (mI : Nat → Int32) (mT : Nat → Int32) (mD : Nat → Int32) (x1 : Int32) (r : Int32) (z_ml : Int32) (z_mt : Int32) (z_mT : Nat → Int32) (hF : f6_append ml mt mT x1 = some (r, z_ml, z_mt, z_mT)) : Met l yX6_append wsX6_append rm6_append (uP D (gT cI cZ cS cJ) (W6 cI aX aN aP aJ aI aT aD ms ml mt mq mu mN mP mK mI mT mD) [.ref aX, .int x1]) (uQ D (some (.int r)) (uA (W6 cI aX aN aP aJ aI aT aD ms ml mt mq mu mN mP mK mI mT mD)) (W6 cI aX aN aP aJ aI aT aD ms z_ml z_mt mq mu mN mP mK mI z_mT mD)) 0 0 (uA (W6 cI aX aN aP aJ aI aT aD ms ml mt mq mu mN mP mK mI mT mD)) := by
  refine Met.ofW (cc := cX6_append) (maxL := 2) (ret := (some .int)) (by decide) rfl ?_
  intro p e s m args below meth c s₁ B hml hv
  obtain ⟨ha, hK, hP, hD0⟩ := hv
  have hx := B.exec
  have hb := B.bytes
  have hr := B.returns
  have hlocks := B.notSynchronized
  have hts : ∀ w ∈ lw_all, w.before args s = true := fun w h => atoms_spec (ws := wsX6_append) B.pre w (List.mem_cons_of_mem _ h)
  have hown : s.vm.findClass RX6 = some m.cls := findClass_of_methodNamed B.named
  have S : CallFix p m c cX6_append 2 s args lw_all RX6 := ⟨hx, hb, hml, hown, hts⟩
  have hD := hD0.own
  generalize uA (W6 cI aX aN aP aJ aI aT aD ms ml mt mq mu mN mP mK mI mT mD) = A0 at hD ⊢
  have hS : va_S A0 s.heap s.heap [] := va_S.rf
  have hl := lv_entry ([.ref aX, .int x1] : List Value) (n := 2) (Nat.le_of_ble_eq_true rfl)
  refine W.eq (g2 := F0 m 0 ((lg_sl ([.ref aX, .int x1] : List Value) ++ List.replicate (2 - (lg_sl ([.ref aX, .int x1] : List Value)).length) Slot.unset).toArray) []) (by rw [ha]; exact lg_entry_eq _ _ _) ?_
  generalize (lg_sl ([.ref aX, .int x1] : List Value) ++ List.replicate (2 - (lg_sl ([.ref aX, .int x1] : List Value)).length) Slot.unset).toArray = ls at hl ⊢
  have hl : lv_has ls 2 [(0, .ref aX), (1, .int x1)] := hl
  rw [f6_append] at hF
  show uW p l e wsX6_append rm6_append s m args below meth c D (some (.int r)) A0 (W6 cI aX aN aP aJ aI aT aD ms z_ml z_mt mq mu mN mP mK mI z_mT mD) s.heap [] (F0 m 0 ls [])
  refine lv_aload_n hx hb dX6_append_0 rfl (lv_at hl 0 rfl) ?_
  refine lv_iconst hx hb dX6_append_1 kc_iconst_0 ?_
  refine va_put (D := D) (ci := 6) (v := .int (0 : Int32)) (ty := .int) (C := RX6) (T := TX6) (N := 11) hx hb hts i_X6 tyX6 tyX6_ok nmX6 hown hK.1 hP hD hS 0 rfl rfl 7 (by decide) (hts _ wd_818) (fun _ h9 => h9) rfl (by decide +kernel) rfl rfl (Nat.le_of_ble_eq_true rfl) dX6_append_2 (fun H locs hP hD hS => ?_)
  have hP : va_P D vwCl (W6 cI aX aN aP aJ aI aT aD ms ml (0 : Int32) mq mu mN mP mK mI mT mD) H := hP
  have hD : va_D A0 (W6 cI aX aN aP aJ aI aT aD ms ml (0 : Int32) mq mu mN mP mK mI mT mD) := hD
  refine lv_iload_n hx hb dX6_append_5 rfl (lv_at hl 1 rfl) ?_
  refine lv_bipush hx hb dX6_append_6 kc_bipush_33 ?_
  refine lv_bipush hx hb dX6_append_8 kc_bipush_126 ?_
  obtain ⟨q2, h1, hF⟩ := bd1_at hF
  refine rcall (va_runS (As := [.int x1, .int (33 : Int32), .int (126 : Int32)]) (rest := []) S (K6_in l D cI cZ cS cJ x1 (33 : Int32) (126 : Int32) q2 h1) (va_cwS 3 hts (gd_S wd_853 wd_854 wd_67 wd_855) rfl rfl rfl hdn6_in ⟨Nat.le_of_ble_eq_true rfl, Nat.le_of_ble_eq_true rfl⟩) (rPreS hK (hP.sub (ws' := ([] : va_W)) [] rfl)) rfl rfl hl.1 rfl (lv_room (Nat.le_of_ble_eq_true rfl)) dX6_append_10 ⟨(Nat.zero_le _), (Nat.zero_le _)⟩) ?_
  refine lv_if_ne (tgt := 22) hx hb dX6_append_13 (by decide) (fun c3 => ?_) (fun c3 => ?_)
  · have hF := ite_f c3 hF
    refine lv_aload_n hx hb dX6_append_22 rfl (lv_at hl 0 rfl) ?_
    refine va_get (D := D) (ci := 6) (v := .int ml) (C := RX6) (T := TX6) (N := 11) hx hb hts i_X6 hown hK.1 hP 0 rfl rfl 6 (by decide) (hts _ wd_817) (fun _ h9 => h9) rfl dX6_append_23 ?_
    refine lv_bipush hx hb dX6_append_26 kc_bipush_60 ?_
    refine lv_icmp_ne (tgt := 37) hx hb dX6_append_28 (by decide) (fun c4 => ?_) (fun c4 => ?_)
    · have hF := ite_f c4 hF
      refine lv_aload_n hx hb dX6_append_37 rfl (lv_at hl 0 rfl) ?_
      refine va_get (D := D) (ci := 6) (v := .ref aT) (C := RX6) (T := TX6) (N := 11) hx hb hts i_X6 hown hK.1 hP 0 rfl rfl 5 (by decide) (hts _ wd_816) (fun _ h9 => h9) rfl dX6_append_38 ?_
      refine lv_aload_n hx hb dX6_append_41 rfl (lv_at hl 0 rfl) ?_
      refine va_get (D := D) (ci := 6) (v := .int ml) (C := RX6) (T := TX6) (N := 11) hx hb hts i_X6 hown hK.1 hP 0 rfl rfl 6 (by decide) (hts _ wd_817) (fun _ h9 => h9) rfl dX6_append_42 ?_
      refine lv_iload_n hx hb dX6_append_45 rfl (lv_at hl 1 rfl) ?_
      obtain ⟨g5, hF⟩ := gd_at hF
      refine va_iast hx hb hK.1 hP hD hS 5 0 rfl rfl g5 dX6_append_46 (fun H locs hP hD hS => ?_)
      have hP : va_P D vwCl (W6 cI aX aN aP aJ aI aT aD ms ml (0 : Int32) mq mu mN mP mK mI (upd mT ml.toNatClampNeg x1) mD) H := hP
      have hD : va_D A0 (W6 cI aX aN aP aJ aI aT aD ms ml (0 : Int32) mq mu mN mP mK mI (upd mT ml.toNatClampNeg x1) mD) := hD
      refine lv_aload_n hx hb dX6_append_47 rfl (lv_at hl 0 rfl) ?_
      refine lv_dup hx hb dX6_append_48 rfl ?_
      refine va_get (D := D) (ci := 6) (v := .int ml) (C := RX6) (T := TX6) (N := 11) hx hb hts i_X6 hown hK.1 hP 0 rfl rfl 6 (by decide) (hts _ wd_817) (fun _ h9 => h9) rfl dX6_append_49 ?_
      refine lv_iconst hx hb dX6_append_52 kc_iconst_1 ?_
      refine lv_iadd hx hb dX6_append_53 ?_
      refine va_put (D := D) (ci := 6) (v := .int (ml + (1 : Int32))) (ty := .int) (C := RX6) (T := TX6) (N := 11) hx hb hts i_X6 tyX6 tyX6_ok nmX6 hown hK.1 hP hD hS 0 rfl rfl 6 (by decide) (hts _ wd_817) (fun _ h9 => h9) rfl (by decide +kernel) rfl rfl (Nat.le_of_ble_eq_true rfl) dX6_append_54 (fun H locs hP hD hS => ?_)
      have hP : va_P D vwCl (W6 cI aX aN aP aJ aI aT aD ms (ml + (1 : Int32)) (0 : Int32) mq mu mN mP mK mI (upd mT ml.toNatClampNeg x1) mD) H := hP
      have hD : va_D A0 (W6 cI aX aN aP aJ aI aT aD ms (ml + (1 : Int32)) (0 : Int32) mq mu mN mP mK mI (upd mT ml.toNatClampNeg x1) mD) := hD
      refine lv_aload_n hx hb dX6_append_57 rfl (lv_at hl 0 rfl) ?_
      refine va_get (D := D) (ci := 6) (v := .int (ml + (1 : Int32))) (C := RX6) (T := TX6) (N := 11) hx hb hts i_X6 hown hK.1 hP 0 rfl rfl 6 (by decide) (hts _ wd_817) (fun _ h9 => h9) rfl dX6_append_58 ?_
      cases hF
      exact ureti hx hb hr hlocks hP hS dX6_append_61
    · have hF := ite_t c4 hF
      refine lv_aload_n hx hb dX6_append_31 rfl (lv_at hl 0 rfl) ?_
      refine lv_iconst hx hb dX6_append_32 kc_iconst_2 ?_
      obtain ⟨q7, u8, h6, hF⟩ := bd2_at hF
      refine ucalli (ws' := (W6 cI aX aN aP aJ aI aT aD ms ml u8 mq mu mN mP mK mI mT mD)) (va_runV (As := [.int (2 : Int32)]) (rest := []) S (K6_refuses l D cI cZ cS cJ aX aN aP aJ aI aT aD ms ml (0 : Int32) mq mu mN mP mK mI mT mD (2 : Int32) q7 u8 h6) (cwV 1 hts (gd_V wd_856 wd_858 wd_21 wd_67 wd_859) rfl rfl rfl hd6_refuses ⟨Nat.le_of_ble_eq_true rfl, Nat.le_of_ble_eq_true rfl⟩) (uPreV hK hP hD (ci := 6) (q := (RX6, TX6, 11)) rfl rfl) rfl rfl hl.1 rfl (lv_room (Nat.le_of_ble_eq_true rfl)) dX6_append_33 ⟨(Nat.zero_le _), (Nat.zero_le _)⟩) hS hP hD [0, 1, 2, 3, 4, 5, 6] rfl rfl rfl rfl (fun H locs hP hD hS => ?_)
      cases hF
      exact ureti hx hb hr hlocks hP hS dX6_append_36
  · have hF := ite_t c3 hF
    refine lv_aload_n hx hb dX6_append_16 rfl (lv_at hl 0 rfl) ?_
    refine lv_iconst hx hb dX6_append_17 kc_iconst_1 ?_
    obtain ⟨q10, u11, h9, hF⟩ := bd2_at hF
    refine ucalli (ws' := (W6 cI aX aN aP aJ aI aT aD ms ml u11 mq mu mN mP mK mI mT mD)) (va_runV (As := [.int (1 : Int32)]) (rest := []) S (K6_refuses l D cI cZ cS cJ aX aN aP aJ aI aT aD ms ml (0 : Int32) mq mu mN mP mK mI mT mD (1 : Int32) q10 u11 h9) (cwV 1 hts (gd_V wd_856 wd_858 wd_21 wd_67 wd_859) rfl rfl rfl hd6_refuses ⟨Nat.le_of_ble_eq_true rfl, Nat.le_of_ble_eq_true rfl⟩) (uPreV hK hP hD (ci := 6) (q := (RX6, TX6, 11)) rfl rfl) rfl rfl hl.1 rfl (lv_room (Nat.le_of_ble_eq_true rfl)) dX6_append_18 ⟨(Nat.zero_le _), (Nat.zero_le _)⟩) hS hP hD [0, 1, 2, 3, 4, 5, 6] rfl rfl rfl rfl (fun H locs hP hD hS => ?_)
    cases hF
    exact ureti hx hb hr hlocks hP hS dX6_append_21
abbrev rm6_clearBuffer : Room := { frames := 0, cells := 0, slots := 0, locals := 0 }
theorem hd6_clearBuffer : yX6_clearBuffer.cls = RX6 ∧ yX6_clearBuffer.cls ≠ "java/lang/invoke/MethodHandle" ∧ yX6_clearBuffer.cls ≠ "java/lang/invoke/VarHandle" ∧ (parseMethodDescriptor yX6_clearBuffer.desc).map (fun d => d.parameters.length) = some 0 := by decide +kernel
set_option maxHeartbeats 4000000 in
set_option maxRecDepth 100000 in
theorem K6_clearBuffer (l : Launch) (D : va_G) (cI cZ cS cJ : ClassId) (aX aN aP aJ aI aT aD : Nat) (ms : Int32) (ml : Int32) (mt : Int32) (mq : Int32) (mu : Int32) (mN : Nat → Int32) (mP : Nat → Int32) (mK : Nat → Int32) (mI : Nat → Int32) (mT : Nat → Int32) (mD : Nat → Int32) (r : Int32) (z_ml : Int32) (z_mt : Int32) (hF : f6_clearBuffer ml mt = some (r, z_ml, z_mt)) : Met l yX6_clearBuffer wsX6_clearBuffer rm6_clearBuffer (uP D (gT cI cZ cS cJ) (W6 cI aX aN aP aJ aI aT aD ms ml mt mq mu mN mP mK mI mT mD) [.ref aX]) (uQ D (some (.int r)) (uA (W6 cI aX aN aP aJ aI aT aD ms ml mt mq mu mN mP mK mI mT mD)) (W6 cI aX aN aP aJ aI aT aD ms z_ml z_mt mq mu mN mP mK mI mT mD)) 0 0 (uA (W6 cI aX aN aP aJ aI aT aD ms ml mt mq mu mN mP mK mI mT mD)) := by
  refine Met.ofW (cc := cX6_clearBuffer) (maxL := 2) (ret := (some .int)) (by decide) rfl ?_
  intro p e s m args below meth c s₁ B hml hv
  obtain ⟨ha, hK, hP, hD0⟩ := hv
  have hx := B.exec
  have hb := B.bytes
  have hr := B.returns
  have hlocks := B.notSynchronized
  have hts : ∀ w ∈ lw_all, w.before args s = true := fun w h => atoms_spec (ws := wsX6_clearBuffer) B.pre w (List.mem_cons_of_mem _ h)
  have hown : s.vm.findClass RX6 = some m.cls := findClass_of_methodNamed B.named
  have S : CallFix p m c cX6_clearBuffer 2 s args lw_all RX6 := ⟨hx, hb, hml, hown, hts⟩
  have hD := hD0.own
  generalize uA (W6 cI aX aN aP aJ aI aT aD ms ml mt mq mu mN mP mK mI mT mD) = A0 at hD ⊢
  have hS : va_S A0 s.heap s.heap [] := va_S.rf
  have hl := lv_entry ([.ref aX] : List Value) (n := 2) (Nat.le_of_ble_eq_true rfl)
  refine W.eq (g2 := F0 m 0 ((lg_sl ([.ref aX] : List Value) ++ List.replicate (2 - (lg_sl ([.ref aX] : List Value)).length) Slot.unset).toArray) []) (by rw [ha]; exact lg_entry_eq _ _ _) ?_
  generalize (lg_sl ([.ref aX] : List Value) ++ List.replicate (2 - (lg_sl ([.ref aX] : List Value)).length) Slot.unset).toArray = ls at hl ⊢
  have hl : lv_has ls 2 [(0, .ref aX)] := hl
  rw [f6_clearBuffer] at hF
  show uW p l e wsX6_clearBuffer rm6_clearBuffer s m args below meth c D (some (.int r)) A0 (W6 cI aX aN aP aJ aI aT aD ms z_ml z_mt mq mu mN mP mK mI mT mD) s.heap [] (F0 m 0 ls [])
  refine lv_aload_n hx hb dX6_clearBuffer_0 rfl (lv_at hl 0 rfl) ?_
  refine lv_iconst hx hb dX6_clearBuffer_1 kc_iconst_0 ?_
  refine va_put (D := D) (ci := 6) (v := .int (0 : Int32)) (ty := .int) (C := RX6) (T := TX6) (N := 11) hx hb hts i_X6 tyX6 tyX6_ok nmX6 hown hK.1 hP hD hS 0 rfl rfl 7 (by decide) (hts _ wd_818) (fun _ h9 => h9) rfl (by decide +kernel) rfl rfl (Nat.le_of_ble_eq_true rfl) dX6_clearBuffer_2 (fun H locs hP hD hS => ?_)
  have hP : va_P D vwCl (W6 cI aX aN aP aJ aI aT aD ms ml (0 : Int32) mq mu mN mP mK mI mT mD) H := hP
  have hD : va_D A0 (W6 cI aX aN aP aJ aI aT aD ms ml (0 : Int32) mq mu mN mP mK mI mT mD) := hD
  refine lv_aload_n hx hb dX6_clearBuffer_5 rfl (lv_at hl 0 rfl) ?_
  refine va_get (D := D) (ci := 6) (v := .int ml) (C := RX6) (T := TX6) (N := 11) hx hb hts i_X6 hown hK.1 hP 0 rfl rfl 6 (by decide) (hts _ wd_817) (fun _ h9 => h9) rfl dX6_clearBuffer_6 ?_
  refine lv_istore_n (lv' := [(1, .int ml), (0, .ref aX)]) hx hb dX6_clearBuffer_9 rfl hl (by decide) rfl (fun ls hl => ?_)
  refine lv_aload_n hx hb dX6_clearBuffer_10 rfl (lv_at hl 1 rfl) ?_
  refine lv_iconst hx hb dX6_clearBuffer_11 kc_iconst_0 ?_
  refine va_put (D := D) (ci := 6) (v := .int (0 : Int32)) (ty := .int) (C := RX6) (T := TX6) (N := 11) hx hb hts i_X6 tyX6 tyX6_ok nmX6 hown hK.1 hP hD hS 0 rfl rfl 6 (by decide) (hts _ wd_817) (fun _ h9 => h9) rfl (by decide +kernel) rfl rfl (Nat.le_of_ble_eq_true rfl) dX6_clearBuffer_12 (fun H locs hP hD hS => ?_)
  have hP : va_P D vwCl (W6 cI aX aN aP aJ aI aT aD ms (0 : Int32) (0 : Int32) mq mu mN mP mK mI mT mD) H := hP
  have hD : va_D A0 (W6 cI aX aN aP aJ aI aT aD ms (0 : Int32) (0 : Int32) mq mu mN mP mK mI mT mD) := hD
  refine lv_iload_n hx hb dX6_clearBuffer_15 rfl (lv_at hl 0 rfl) ?_
  cases hF
  exact ureti hx hb hr hlocks hP hS dX6_clearBuffer_16
abbrev rm6_sees : Room := { frames := 1, cells := 0, slots := 0, locals := 22 }
theorem hd6_sees : yX6_sees.cls = RX6 ∧ yX6_sees.cls ≠ "java/lang/invoke/MethodHandle" ∧ yX6_sees.cls ≠ "java/lang/invoke/VarHandle" ∧ (parseMethodDescriptor yX6_sees.desc).map (fun d => d.parameters.length) = some 2 := by decide +kernel
set_option maxHeartbeats 4000000 in
set_option maxRecDepth 100000 in
theorem K6_sees (l : Launch) (D : va_G) (cI cZ cS cJ : ClassId) (aX aN aP aJ aI aT aD : Nat) (ms : Int32) (ml : Int32) (mt : Int32) (mq : Int32) (mu : Int32) (mN : Nat → Int32) (mP : Nat → Int32) (mK : Nat → Int32) (mI : Nat → Int32) (mT : Nat → Int32) (mD : Nat → Int32) (x1 : Int32) (x2 : Int32) (r : Int32) (hF : f6_sees ml mq mT x1 x2 = some (r)) : Met l yX6_sees wsX6_sees rm6_sees (rP D (gT cI cZ cS cJ) (W6 cI aX aN aP aJ aI aT aD ms ml mt mq mu mN mP mK mI mT mD) [.ref aX, .int x1, .int x2]) (rQ (.int r)) 0 0 (fun _ => False) := by
  refine Met.ofW (cc := cX6_sees) (maxL := 3) (ret := (some .boolean)) (by decide) rfl ?_
  intro p e s m args below meth c s₁ B hml hv
  obtain ⟨ha, hK, hP⟩ := hv
  have hx := B.exec
  have hb := B.bytes
  have hr := B.returns
  have hlocks := B.notSynchronized
  have hts : ∀ w ∈ lw_all, w.before args s = true := fun w h => atoms_spec (ws := wsX6_sees) B.pre w (List.mem_cons_of_mem _ h)
  have hown : s.vm.findClass RX6 = some m.cls := findClass_of_methodNamed B.named
  have S : CallFix p m c cX6_sees 3 s args lw_all RX6 := ⟨hx, hb, hml, hown, hts⟩
  have hl := lv_entry ([.ref aX, .int x1, .int x2] : List Value) (n := 3) (Nat.le_of_ble_eq_true rfl)
  refine W.eq (g2 := F0 m 0 ((lg_sl ([.ref aX, .int x1, .int x2] : List Value) ++ List.replicate (3 - (lg_sl ([.ref aX, .int x1, .int x2] : List Value)).length) Slot.unset).toArray) []) (by rw [ha]; exact lg_entry_eq _ _ _) ?_
  generalize (lg_sl ([.ref aX, .int x1, .int x2] : List Value) ++ List.replicate (3 - (lg_sl ([.ref aX, .int x1, .int x2] : List Value)).length) Slot.unset).toArray = ls at hl ⊢
  have hl : lv_has ls 3 [(0, .ref aX), (1, .int x1), (2, .int x2)] := hl
  rw [f6_sees] at hF
  show rW p l e wsX6_sees rm6_sees s m args below meth c (.int r) (F0 m 0 ls [])
  refine lv_aload_n hx hb dX6_sees_0 rfl (lv_at hl 0 rfl) ?_
  refine va_get (D := D) (ci := 6) (v := .int mq) (C := RX6) (T := TX6) (N := 11) hx hb hts i_X6 hown hK.1 hP 0 rfl rfl 8 (by decide) (hts _ wd_819) (fun _ h9 => h9) rfl dX6_sees_1 ?_
  refine lv_aload_n hx hb dX6_sees_4 rfl (lv_at hl 0 rfl) ?_
  refine va_get (D := D) (ci := 6) (v := .int ml) (C := RX6) (T := TX6) (N := 11) hx hb hts i_X6 hown hK.1 hP 0 rfl rfl 6 (by decide) (hts _ wd_817) (fun _ h9 => h9) rfl dX6_sees_5 ?_
  refine lv_icmp_ge (tgt := 32) hx hb dX6_sees_8 (by decide) (fun c1 => ?_) (fun c1 => ?_)
  · have hF := ite_t c1 hF
    refine lv_iconst hx hb dX6_sees_32 kc_iconst_0 ?_
    exact rretz (by decide) hF hx hb hr hlocks dX6_sees_33
  · have hF := ite_f c1 hF
    refine lv_aload_n hx hb dX6_sees_11 rfl (lv_at hl 0 rfl) ?_
    refine va_get (D := D) (ci := 6) (v := .ref aT) (C := RX6) (T := TX6) (N := 11) hx hb hts i_X6 hown hK.1 hP 0 rfl rfl 5 (by decide) (hts _ wd_816) (fun _ h9 => h9) rfl dX6_sees_12 ?_
    refine lv_aload_n hx hb dX6_sees_15 rfl (lv_at hl 0 rfl) ?_
    refine va_get (D := D) (ci := 6) (v := .int mq) (C := RX6) (T := TX6) (N := 11) hx hb hts i_X6 hown hK.1 hP 0 rfl rfl 8 (by decide) (hts _ wd_819) (fun _ h9 => h9) rfl dX6_sees_16 ?_
    obtain ⟨g2, hF⟩ := gd_at hF
    refine va_iald hx hb hK.1 hP 5 0 rfl rfl g2 dX6_sees_19 ?_
    refine lv_iload_n hx hb dX6_sees_20 rfl (lv_at hl 1 rfl) ?_
    refine lv_iload_n hx hb dX6_sees_21 rfl (lv_at hl 2 rfl) ?_
    obtain ⟨q4, h3, hF⟩ := bd1_at hF
    refine rcall (va_runS (As := [.int (mT mq.toNatClampNeg), .int x1, .int x2]) (rest := []) S (K6_in l D cI cZ cS cJ (mT mq.toNatClampNeg) x1 x2 q4 h3) (va_cwS 3 hts (gd_S wd_853 wd_854 wd_67 wd_855) rfl rfl rfl hdn6_in ⟨Nat.le_of_ble_eq_true rfl, Nat.le_of_ble_eq_true rfl⟩) (rPreS hK (hP.sub (ws' := ([] : va_W)) [] rfl)) rfl rfl hl.1 rfl (lv_room (Nat.le_of_ble_eq_true rfl)) dX6_sees_22 ⟨(Nat.zero_le _), (Nat.zero_le _)⟩) ?_
    refine lv_if_eq (tgt := 32) hx hb dX6_sees_25 (by decide) (fun c5 => ?_) (fun c5 => ?_)
    · rw [if_pos c5] at hF
      refine lv_iconst hx hb dX6_sees_32 kc_iconst_0 ?_
      exact rretz (by decide) hF hx hb hr hlocks dX6_sees_33
    · rw [if_neg c5] at hF
      refine lv_iconst hx hb dX6_sees_28 kc_iconst_1 ?_
      refine lv_goto (tgt := 33) hx hb dX6_sees_29 (by decide) ?_
      exact rretz (by decide) hF hx hb hr hlocks dX6_sees_33
abbrev rm6_takes : Room := { frames := 2, cells := 0, slots := 0, locals := 44 }
theorem hd6_takes : yX6_takes.cls = RX6 ∧ yX6_takes.cls ≠ "java/lang/invoke/MethodHandle" ∧ yX6_takes.cls ≠ "java/lang/invoke/VarHandle" ∧ (parseMethodDescriptor yX6_takes.desc).map (fun d => d.parameters.length) = some 1 := by decide +kernel
set_option maxHeartbeats 4000000 in
set_option maxRecDepth 100000 in
theorem K6_takes (l : Launch) (D : va_G) (cI cZ cS cJ : ClassId) (aX aN aP aJ aI aT aD : Nat) (ms : Int32) (ml : Int32) (mt : Int32) (mq : Int32) (mu : Int32) (mN : Nat → Int32) (mP : Nat → Int32) (mK : Nat → Int32) (mI : Nat → Int32) (mT : Nat → Int32) (mD : Nat → Int32) (x1 : Int32) (r : Int32) (z_mq : Int32) (hF : f6_takes ml mq mT x1 = some (r, z_mq)) : Met l yX6_takes wsX6_takes rm6_takes (uP D (gT cI cZ cS cJ) (W6 cI aX aN aP aJ aI aT aD ms ml mt mq mu mN mP mK mI mT mD) [.ref aX, .int x1]) (uQ D (some (.int r)) (uA (W6 cI aX aN aP aJ aI aT aD ms ml mt mq mu mN mP mK mI mT mD)) (W6 cI aX aN aP aJ aI aT aD ms ml mt z_mq mu mN mP mK mI mT mD)) 0 0 (uA (W6 cI aX aN aP aJ aI aT aD ms ml mt mq mu mN mP mK mI mT mD)) := by
  refine Met.ofW (cc := cX6_takes) (maxL := 3) (ret := (some .boolean)) (by decide) rfl ?_
  intro p e s m args below meth c s₁ B hml hv
  obtain ⟨ha, hK, hP, hD0⟩ := hv
  have hx := B.exec
  have hb := B.bytes
  have hr := B.returns
  have hlocks := B.notSynchronized
  have hts : ∀ w ∈ lw_all, w.before args s = true := fun w h => atoms_spec (ws := wsX6_takes) B.pre w (List.mem_cons_of_mem _ h)
  have hown : s.vm.findClass RX6 = some m.cls := findClass_of_methodNamed B.named
  have S : CallFix p m c cX6_takes 3 s args lw_all RX6 := ⟨hx, hb, hml, hown, hts⟩
  have hD := hD0.own
  generalize uA (W6 cI aX aN aP aJ aI aT aD ms ml mt mq mu mN mP mK mI mT mD) = A0 at hD ⊢
  have hS : va_S A0 s.heap s.heap [] := va_S.rf
  have hl := lv_entry ([.ref aX, .int x1] : List Value) (n := 3) (Nat.le_of_ble_eq_true rfl)
  refine W.eq (g2 := F0 m 0 ((lg_sl ([.ref aX, .int x1] : List Value) ++ List.replicate (3 - (lg_sl ([.ref aX, .int x1] : List Value)).length) Slot.unset).toArray) []) (by rw [ha]; exact lg_entry_eq _ _ _) ?_
  generalize (lg_sl ([.ref aX, .int x1] : List Value) ++ List.replicate (3 - (lg_sl ([.ref aX, .int x1] : List Value)).length) Slot.unset).toArray = ls at hl ⊢
  have hl : lv_has ls 3 [(0, .ref aX), (1, .int x1)] := hl
  clear ha
  have W_21 : ∀ (mq : Int32) (x2 : Int32) (s0 : Int32) (s1 : Int32), ∀ (H : Heap) (locs : List Loc), va_P D vwCl (W6 cI aX aN aP aJ aI aT aD ms ml mt mq mu mN mP mK mI mT mD) H → va_D A0 (W6 cI aX aN aP aJ aI aT aD ms ml mt mq mu mN mP mK mI mT mD) → va_S A0 s.heap H locs → ∀ (ls : Array Slot), lv_has ls 3 [(2, .int x2)] → f6_takes_j21 ml mq mT x2 s0 s1 = some (r, z_mq) → uW p l e wsX6_takes rm6_takes s m args below meth c D (some (.int r)) A0 (W6 cI aX aN aP aJ aI aT aD ms ml mt z_mq mu mN mP mK mI mT mD) H locs (F0 m 21 ls [.int s0, .int s1, .ref aX]) := by
    intro mq x2 s0 s1  H locs hP hD hS ls hl hF
    rw [f6_takes_j21] at hF
    refine lv_iadd hx hb dX6_takes_21 ?_
    refine va_put (D := D) (ci := 6) (v := .int (s1 + s0)) (ty := .int) (C := RX6) (T := TX6) (N := 11) hx hb hts i_X6 tyX6 tyX6_ok nmX6 hown hK.1 hP hD hS 0 rfl rfl 8 (by decide) (hts _ wd_819) (fun _ h9 => h9) rfl (by decide +kernel) rfl rfl (Nat.le_of_ble_eq_true rfl) dX6_takes_22 (fun H locs hP hD hS => ?_)
    have hP : va_P D vwCl (W6 cI aX aN aP aJ aI aT aD ms ml mt (s1 + s0) mu mN mP mK mI mT mD) H := hP
    have hD : va_D A0 (W6 cI aX aN aP aJ aI aT aD ms ml mt (s1 + s0) mu mN mP mK mI mT mD) := hD
    refine lv_iload_n hx hb dX6_takes_25 rfl (lv_at hl 0 rfl) ?_
    obtain ⟨hz, hF⟩ := gd_at hF
    cases hF
    exact uretz hz hx hb hr hlocks hP hS dX6_takes_26
  rw [f6_takes] at hF
  show uW p l e wsX6_takes rm6_takes s m args below meth c D (some (.int r)) A0 (W6 cI aX aN aP aJ aI aT aD ms ml mt z_mq mu mN mP mK mI mT mD) s.heap [] (F0 m 0 ls [])
  refine lv_aload_n hx hb dX6_takes_0 rfl (lv_at hl 0 rfl) ?_
  refine lv_iload_n hx hb dX6_takes_1 rfl (lv_at hl 1 rfl) ?_
  refine lv_iload_n hx hb dX6_takes_2 rfl (lv_at hl 1 rfl) ?_
  obtain ⟨q2, h1, hF⟩ := bd1_at hF
  refine rcall (va_runV (As := [.int x1, .int x1]) (rest := []) S (K6_sees l D cI cZ cS cJ aX aN aP aJ aI aT aD ms ml mt mq mu mN mP mK mI mT mD x1 x1 q2 h1) (cwV 2 hts (gd_V wd_965 wd_967 wd_37 wd_67 wd_968) rfl rfl rfl hd6_sees ⟨Nat.le_of_ble_eq_true rfl, Nat.le_of_ble_eq_true rfl⟩) (rPreV hK hP (ci := 6) (q := (RX6, TX6, 11)) rfl rfl) rfl rfl hl.1 rfl (lv_room (Nat.le_of_ble_eq_true rfl)) dX6_takes_3 ⟨(Nat.zero_le _), (Nat.zero_le _)⟩) ?_
  refine lv_istore_n (lv' := [(2, .int q2), (0, .ref aX), (1, .int x1)]) hx hb dX6_takes_6 rfl hl (by decide) rfl (fun ls hl => ?_)
  refine lv_aload_n hx hb dX6_takes_7 rfl (lv_at hl 1 rfl) ?_
  refine lv_dup hx hb dX6_takes_8 rfl ?_
  refine va_get (D := D) (ci := 6) (v := .int mq) (C := RX6) (T := TX6) (N := 11) hx hb hts i_X6 hown hK.1 hP 0 rfl rfl 8 (by decide) (hts _ wd_819) (fun _ h9 => h9) rfl dX6_takes_9 ?_
  refine lv_iload_n hx hb dX6_takes_12 rfl (lv_at hl 0 rfl) ?_
  refine lv_if_eq (tgt := 20) hx hb dX6_takes_13 (by decide) (fun c3 => ?_) (fun c3 => ?_)
  · rw [if_pos c3] at hF
    refine lv_iconst hx hb dX6_takes_20 kc_iconst_0 ?_
    exact W_21 mq q2 (0 : Int32) mq  _ _ hP hD hS ls (lv_sub hl [0] rfl) hF
  · rw [if_neg c3] at hF
    refine lv_iconst hx hb dX6_takes_16 kc_iconst_1 ?_
    refine lv_goto (tgt := 21) hx hb dX6_takes_17 (by decide) ?_
    exact W_21 mq q2 (1 : Int32) mq  _ _ hP hD hS ls (lv_sub hl [0] rfl) hF
abbrev rm6_isSix : Room := { frames := 2, cells := 0, slots := 0, locals := 44 }
theorem hd6_isSix : yX6_isSix.cls = RX6 ∧ yX6_isSix.cls ≠ "java/lang/invoke/MethodHandle" ∧ yX6_isSix.cls ≠ "java/lang/invoke/VarHandle" ∧ (parseMethodDescriptor yX6_isSix.desc).map (fun d => d.parameters.length) = some 1 := by decide +kernel
set_option maxHeartbeats 4000000 in
set_option maxRecDepth 100000 in
theorem K6_isSix (l : Launch) (D : va_G) (cI cZ cS cJ : ClassId) (aX aN aP aJ aI aT aD : Nat) (ms : Int32) (ml : Int32) (mt : Int32) (mq : Int32) (mu : Int32) (mN : Nat → Int32) (mP : Nat → Int32) (mK : Nat → Int32) (mI : Nat → Int32) (mT : Nat → Int32) (mD : Nat → Int32) (x1 : Int32) (r : Int32) (z_mq : Int32) (z_mD : Nat → Int32) (hF : f6_isSix ml mq mu mT mD x1 = some (r, z_mq, z_mD)) : Met l yX6_isSix wsX6_isSix rm6_isSix (uP D (gT cI cZ cS cJ) (W6 cI aX aN aP aJ aI aT aD ms ml mt mq mu mN mP mK mI mT mD) [.ref aX, .int x1]) (uQ D (some (.int r)) (uA (W6 cI aX aN aP aJ aI aT aD ms ml mt mq mu mN mP mK mI mT mD)) (W6 cI aX aN aP aJ aI aT aD ms ml mt z_mq mu mN mP mK mI mT z_mD)) 0 0 (uA (W6 cI aX aN aP aJ aI aT aD ms ml mt mq mu mN mP mK mI mT mD)) := by
  refine Met.ofW (cc := cX6_isSix) (maxL := 4) (ret := (some .boolean)) (by decide) rfl ?_
  intro p e s m args below meth c s₁ B hml hv
  obtain ⟨ha, hK, hP, hD0⟩ := hv
  have hx := B.exec
  have hb := B.bytes
  have hr := B.returns
  have hlocks := B.notSynchronized
  have hts : ∀ w ∈ lw_all, w.before args s = true := fun w h => atoms_spec (ws := wsX6_isSix) B.pre w (List.mem_cons_of_mem _ h)
  have hown : s.vm.findClass RX6 = some m.cls := findClass_of_methodNamed B.named
  have S : CallFix p m c cX6_isSix 4 s args lw_all RX6 := ⟨hx, hb, hml, hown, hts⟩
  have hD := hD0.own
  generalize uA (W6 cI aX aN aP aJ aI aT aD ms ml mt mq mu mN mP mK mI mT mD) = A0 at hD ⊢
  have hS : va_S A0 s.heap s.heap [] := va_S.rf
  have hl := lv_entry ([.ref aX, .int x1] : List Value) (n := 4) (Nat.le_of_ble_eq_true rfl)
  refine W.eq (g2 := F0 m 0 ((lg_sl ([.ref aX, .int x1] : List Value) ++ List.replicate (4 - (lg_sl ([.ref aX, .int x1] : List Value)).length) Slot.unset).toArray) []) (by rw [ha]; exact lg_entry_eq _ _ _) ?_
  generalize (lg_sl ([.ref aX, .int x1] : List Value) ++ List.replicate (4 - (lg_sl ([.ref aX, .int x1] : List Value)).length) Slot.unset).toArray = ls at hl ⊢
  have hl : lv_has ls 4 [(0, .ref aX), (1, .int x1)] := hl
  clear ha
  have W_4 : ∀ (x1 : Int32) (n : Nat) (x2 : Int32) (x3 : Int32) (mq : Int32) (mD : Nat → Int32), ∀ (H : Heap) (locs : List Loc), va_P D vwCl (W6 cI aX aN aP aJ aI aT aD ms ml mt mq mu mN mP mK mI mT mD) H → va_D A0 (W6 cI aX aN aP aJ aI aT aD ms ml mt mq mu mN mP mK mI mT mD) → va_S A0 s.heap H locs → ∀ (ls : Array Slot), lv_has ls 4 [(0, .ref aX), (1, .int x1), (2, .int x2), (3, .int x3)] → f6_isSix_l4 ml mu mT x1 n x2 x3 mq mD = some (r, z_mq, z_mD) → uW p l e wsX6_isSix rm6_isSix s m args below meth c D (some (.int r)) A0 (W6 cI aX aN aP aJ aI aT aD ms ml mt z_mq mu mN mP mK mI mT z_mD) H locs (F0 m 4 ls []) := by
    intro x1  n
    induction n with
    | zero =>
      intro x2 x3 mq mD H locs hP hD hS ls hl hF
      rw [f6_isSix_l4] at hF
      cases hF
    | succ n ih =>
      intro x2 x3 mq mD H locs hP hD hS ls hl hF
      rw [f6_isSix_l4] at hF
      refine lv_iload_n hx hb dX6_isSix_4 rfl (lv_at hl 3 rfl) ?_
      refine lv_bipush hx hb dX6_isSix_5 kc_bipush_6 ?_
      refine lv_icmp_ge (tgt := 57) hx hb dX6_isSix_7 (by decide) (fun c1 => ?_) (fun c1 => ?_)
      · have hF := ite_t c1 hF
        refine lv_aload_n hx hb dX6_isSix_57 rfl (lv_at hl 0 rfl) ?_
        refine va_get (D := D) (ci := 6) (v := .ref aD) (C := RX6) (T := TX6) (N := 11) hx hb hts i_X6 hown hK.1 hP 0 rfl rfl 9 (by decide) (hts _ wd_820) (fun _ h9 => h9) rfl dX6_isSix_58 ?_
        refine lv_iconst hx hb dX6_isSix_61 kc_iconst_3 ?_
        refine lv_aload_n hx hb dX6_isSix_62 rfl (lv_at hl 0 rfl) ?_
        refine va_get (D := D) (ci := 6) (v := .int mu) (C := RX6) (T := TX6) (N := 11) hx hb hts i_X6 hown hK.1 hP 0 rfl rfl 10 (by decide) (hts _ wd_821) (fun _ h9 => h9) rfl dX6_isSix_63 ?_
        refine lv_imul hx hb dX6_isSix_66 ?_
        refine lv_iload_n hx hb dX6_isSix_67 rfl (lv_at hl 1 rfl) ?_
        refine lv_iadd hx hb dX6_isSix_68 ?_
        refine lv_iload_n hx hb dX6_isSix_69 rfl (lv_at hl 2 rfl) ?_
        obtain ⟨g2, hF⟩ := gd_at hF
        refine va_iast hx hb hK.1 hP hD hS 6 0 rfl rfl g2 dX6_isSix_70 (fun H locs hP hD hS => ?_)
        have hP : va_P D vwCl (W6 cI aX aN aP aJ aI aT aD ms ml mt mq mu mN mP mK mI mT (upd mD (((3 : Int32) * mu) + x1).toNatClampNeg x2)) H := hP
        have hD : va_D A0 (W6 cI aX aN aP aJ aI aT aD ms ml mt mq mu mN mP mK mI mT (upd mD (((3 : Int32) * mu) + x1).toNatClampNeg x2)) := hD
        refine lv_iconst hx hb dX6_isSix_71 kc_iconst_1 ?_
        cases hF
        exact uretz (by decide) hx hb hr hlocks hP hS dX6_isSix_72
      · have hF := ite_f c1 hF
        refine lv_aload_n hx hb dX6_isSix_10 rfl (lv_at hl 0 rfl) ?_
        refine lv_bipush hx hb dX6_isSix_11 kc_bipush_48 ?_
        refine lv_bipush hx hb dX6_isSix_13 kc_bipush_57 ?_
        obtain ⟨q4, h3, hF⟩ := bd1_at hF
        refine rcall (va_runV (As := [.int (48 : Int32), .int (57 : Int32)]) (rest := []) S (K6_sees l D cI cZ cS cJ aX aN aP aJ aI aT aD ms ml mt mq mu mN mP mK mI mT mD (48 : Int32) (57 : Int32) q4 h3) (cwV 2 hts (gd_V wd_965 wd_967 wd_37 wd_67 wd_968) rfl rfl rfl hd6_sees ⟨Nat.le_of_ble_eq_true rfl, Nat.le_of_ble_eq_true rfl⟩) (rPreV hK hP (ci := 6) (q := (RX6, TX6, 11)) rfl rfl) rfl rfl hl.1 rfl (lv_room (Nat.le_of_ble_eq_true rfl)) dX6_isSix_15 ⟨(Nat.zero_le _), (Nat.zero_le _)⟩) ?_
        refine lv_if_ne (tgt := 23) hx hb dX6_isSix_18 (by decide) (fun c5 => ?_) (fun c5 => ?_)
        · have hF := ite_f c5 hF
          refine lv_bipush hx hb dX6_isSix_23 kc_bipush_10 ?_
          refine lv_iload_n hx hb dX6_isSix_25 rfl (lv_at hl 2 rfl) ?_
          refine lv_imul hx hb dX6_isSix_26 ?_
          refine lv_aload_n hx hb dX6_isSix_27 rfl (lv_at hl 0 rfl) ?_
          refine va_get (D := D) (ci := 6) (v := .ref aT) (C := RX6) (T := TX6) (N := 11) hx hb hts i_X6 hown hK.1 hP 0 rfl rfl 5 (by decide) (hts _ wd_816) (fun _ h9 => h9) rfl dX6_isSix_28 ?_
          refine lv_aload_n hx hb dX6_isSix_31 rfl (lv_at hl 0 rfl) ?_
          refine va_get (D := D) (ci := 6) (v := .int mq) (C := RX6) (T := TX6) (N := 11) hx hb hts i_X6 hown hK.1 hP 0 rfl rfl 8 (by decide) (hts _ wd_819) (fun _ h9 => h9) rfl dX6_isSix_32 ?_
          obtain ⟨g6, hF⟩ := gd_at hF
          refine va_iald hx hb hK.1 hP 5 0 rfl rfl g6 dX6_isSix_35 ?_
          refine lv_iadd hx hb dX6_isSix_36 ?_
          refine lv_bipush hx hb dX6_isSix_37 kc_bipush_48 ?_
          refine lv_isub hx hb dX6_isSix_39 ?_
          refine lv_topi (fun t7 e8 => ?_)
          have hF := lt_at e8 hF
          refine lv_istore_n (lv' := [(2, .int t7), (0, .ref aX), (1, .int x1), (3, .int x3)]) hx hb dX6_isSix_40 rfl hl (by decide) rfl (fun ls hl => ?_)
          refine lv_aload_n hx hb dX6_isSix_41 rfl (lv_at hl 1 rfl) ?_
          refine lv_dup hx hb dX6_isSix_42 rfl ?_
          refine va_get (D := D) (ci := 6) (v := .int mq) (C := RX6) (T := TX6) (N := 11) hx hb hts i_X6 hown hK.1 hP 0 rfl rfl 8 (by decide) (hts _ wd_819) (fun _ h9 => h9) rfl dX6_isSix_43 ?_
          refine lv_iconst hx hb dX6_isSix_46 kc_iconst_1 ?_
          refine lv_iadd hx hb dX6_isSix_47 ?_
          refine va_put (D := D) (ci := 6) (v := .int (mq + (1 : Int32))) (ty := .int) (C := RX6) (T := TX6) (N := 11) hx hb hts i_X6 tyX6 tyX6_ok nmX6 hown hK.1 hP hD hS 0 rfl rfl 8 (by decide) (hts _ wd_819) (fun _ h9 => h9) rfl (by decide +kernel) rfl rfl (Nat.le_of_ble_eq_true rfl) dX6_isSix_48 (fun H locs hP hD hS => ?_)
          have hP : va_P D vwCl (W6 cI aX aN aP aJ aI aT aD ms ml mt (mq + (1 : Int32)) mu mN mP mK mI mT mD) H := hP
          have hD : va_D A0 (W6 cI aX aN aP aJ aI aT aD ms ml mt (mq + (1 : Int32)) mu mN mP mK mI mT mD) := hD
          refine lv_iinc (v := (x3 + 1)) (lv' := [(3, .int (x3 + 1)), (2, .int t7), (0, .ref aX), (1, .int x1)]) hx hb dX6_isSix_51 hl (k := 3) rfl rfl (by decide) rfl (fun ls hl => ?_)
          refine lv_goto (tgt := 4) hx hb dX6_isSix_54 (by decide) ?_
          exact ih t7 (x3 + 1) (mq + (1 : Int32)) mD _ _ hP hD hS ls (lv_sub hl [2, 3, 1, 0] rfl) hF
        · have hF := ite_t c5 hF
          refine lv_iconst hx hb dX6_isSix_21 kc_iconst_0 ?_
          cases hF
          exact uretz (by decide) hx hb hr hlocks hP hS dX6_isSix_22
  rw [f6_isSix] at hF
  show uW p l e wsX6_isSix rm6_isSix s m args below meth c D (some (.int r)) A0 (W6 cI aX aN aP aJ aI aT aD ms ml mt z_mq mu mN mP mK mI mT z_mD) s.heap [] (F0 m 0 ls [])
  refine lv_iconst hx hb dX6_isSix_0 kc_iconst_0 ?_
  refine lv_istore_n (lv' := [(2, .int (0 : Int32)), (0, .ref aX), (1, .int x1)]) hx hb dX6_isSix_1 rfl hl (by decide) rfl (fun ls hl => ?_)
  refine lv_iconst hx hb dX6_isSix_2 kc_iconst_0 ?_
  refine lv_istore_n (lv' := [(3, .int (0 : Int32)), (2, .int (0 : Int32)), (0, .ref aX), (1, .int x1)]) hx hb dX6_isSix_3 rfl hl (by decide) rfl (fun ls hl => ?_)
  exact W_4 x1  fu (0 : Int32) (0 : Int32) mq mD _ _ hP hD hS ls (lv_sub hl [2, 3, 1, 0] rfl) hF
abbrev rm6_isNumber : Room := { frames := 2, cells := 0, slots := 0, locals := 44 }
theorem hd6_isNumber : yX6_isNumber.cls = RX6 ∧ yX6_isNumber.cls ≠ "java/lang/invoke/MethodHandle" ∧ yX6_isNumber.cls ≠ "java/lang/invoke/VarHandle" ∧ (parseMethodDescriptor yX6_isNumber.desc).map (fun d => d.parameters.length) = some 1 := by decide +kernel
set_option maxHeartbeats 4000000 in
set_option maxRecDepth 100000 in
theorem K6_isNumber (l : Launch) (D : va_G) (cI cZ cS cJ : ClassId) (aX aN aP aJ aI aT aD : Nat) (ms : Int32) (ml : Int32) (mt : Int32) (mq : Int32) (mu : Int32) (mN : Nat → Int32) (mP : Nat → Int32) (mK : Nat → Int32) (mI : Nat → Int32) (mT : Nat → Int32) (mD : Nat → Int32) (x1 : Int32) (r : Int32) (z_mq : Int32) (z_mD : Nat → Int32) (hF : f6_isNumber ml mq mu mT mD x1 = some (r, z_mq, z_mD)) : Met l yX6_isNumber wsX6_isNumber rm6_isNumber (uP D (gT cI cZ cS cJ) (W6 cI aX aN aP aJ aI aT aD ms ml mt mq mu mN mP mK mI mT mD) [.ref aX, .int x1]) (uQ D (some (.int r)) (uA (W6 cI aX aN aP aJ aI aT aD ms ml mt mq mu mN mP mK mI mT mD)) (W6 cI aX aN aP aJ aI aT aD ms ml mt z_mq mu mN mP mK mI mT z_mD)) 0 0 (uA (W6 cI aX aN aP aJ aI aT aD ms ml mt mq mu mN mP mK mI mT mD)) := by
  refine Met.ofW (cc := cX6_isNumber) (maxL := 3) (ret := (some .boolean)) (by decide) rfl ?_
  intro p e s m args below meth c s₁ B hml hv
  obtain ⟨ha, hK, hP, hD0⟩ := hv
  have hx := B.exec
  have hb := B.bytes
  have hr := B.returns
  have hlocks := B.notSynchronized
  have hts : ∀ w ∈ lw_all, w.before args s = true := fun w h => atoms_spec (ws := wsX6_isNumber) B.pre w (List.mem_cons_of_mem _ h)
  have hown : s.vm.findClass RX6 = some m.cls := findClass_of_methodNamed B.named
  have S : CallFix p m c cX6_isNumber 3 s args lw_all RX6 := ⟨hx, hb, hml, hown, hts⟩
  have hD := hD0.own
  generalize uA (W6 cI aX aN aP aJ aI aT aD ms ml mt mq mu mN mP mK mI mT mD) = A0 at hD ⊢
  have hS : va_S A0 s.heap s.heap [] := va_S.rf
  have hl := lv_entry ([.ref aX, .int x1] : List Value) (n := 3) (Nat.le_of_ble_eq_true rfl)
  refine W.eq (g2 := F0 m 0 ((lg_sl ([.ref aX, .int x1] : List Value) ++ List.replicate (3 - (lg_sl ([.ref aX, .int x1] : List Value)).length) Slot.unset).toArray) []) (by rw [ha]; exact lg_entry_eq _ _ _) ?_
  generalize (lg_sl ([.ref aX, .int x1] : List Value) ++ List.replicate (3 - (lg_sl ([.ref aX, .int x1] : List Value)).length) Slot.unset).toArray = ls at hl ⊢
  have hl : lv_has ls 3 [(0, .ref aX), (1, .int x1)] := hl
  clear ha
  have W_78 : ∀ (mq : Int32) (mD : Nat → Int32) (x2 : Int32), ∀ (H : Heap) (locs : List Loc), va_P D vwCl (W6 cI aX aN aP aJ aI aT aD ms ml mt mq mu mN mP mK mI mT mD) H → va_D A0 (W6 cI aX aN aP aJ aI aT aD ms ml mt mq mu mN mP mK mI mT mD) → va_S A0 s.heap H locs → ∀ (ls : Array Slot), lv_has ls 3 [(0, .ref aX), (2, .int x2)] → f6_isNumber_j78 ml mq mu mT mD x2 = some (r, z_mq, z_mD) → uW p l e wsX6_isNumber rm6_isNumber s m args below meth c D (some (.int r)) A0 (W6 cI aX aN aP aJ aI aT aD ms ml mt z_mq mu mN mP mK mI mT z_mD) H locs (F0 m 78 ls []) := by
    intro mq mD x2  H locs hP hD hS ls hl hF
    rw [f6_isNumber_j78] at hF
    refine lv_aload_n hx hb dX6_isNumber_78 rfl (lv_at hl 0 rfl) ?_
    refine va_get (D := D) (ci := 6) (v := .ref aD) (C := RX6) (T := TX6) (N := 11) hx hb hts i_X6 hown hK.1 hP 0 rfl rfl 9 (by decide) (hts _ wd_820) (fun _ h9 => h9) rfl dX6_isNumber_79 ?_
    refine lv_iconst hx hb dX6_isNumber_82 kc_iconst_3 ?_
    refine lv_aload_n hx hb dX6_isNumber_83 rfl (lv_at hl 0 rfl) ?_
    refine va_get (D := D) (ci := 6) (v := .int mu) (C := RX6) (T := TX6) (N := 11) hx hb hts i_X6 hown hK.1 hP 0 rfl rfl 10 (by decide) (hts _ wd_821) (fun _ h9 => h9) rfl dX6_isNumber_84 ?_
    refine lv_imul hx hb dX6_isNumber_87 ?_
    refine lv_iconst hx hb dX6_isNumber_88 kc_iconst_2 ?_
    refine lv_iadd hx hb dX6_isNumber_89 ?_
    refine lv_iload_n hx hb dX6_isNumber_90 rfl (lv_at hl 1 rfl) ?_
    obtain ⟨g12, hF⟩ := gd_at hF
    refine va_iast hx hb hK.1 hP hD hS 6 0 rfl rfl g12 dX6_isNumber_91 (fun H locs hP hD hS => ?_)
    have hP : va_P D vwCl (W6 cI aX aN aP aJ aI aT aD ms ml mt mq mu mN mP mK mI mT (upd mD (((3 : Int32) * mu) + (2 : Int32)).toNatClampNeg x2)) H := hP
    have hD : va_D A0 (W6 cI aX aN aP aJ aI aT aD ms ml mt mq mu mN mP mK mI mT (upd mD (((3 : Int32) * mu) + (2 : Int32)).toNatClampNeg x2)) := hD
    refine lv_iconst hx hb dX6_isNumber_92 kc_iconst_1 ?_
    cases hF
    exact uretz (by decide) hx hb hr hlocks hP hS dX6_isNumber_93
  have W_15 : ∀ (x1 : Int32) (n : Nat) (x2 : Int32) (mq : Int32) (mD : Nat → Int32), ∀ (H : Heap) (locs : List Loc), va_P D vwCl (W6 cI aX aN aP aJ aI aT aD ms ml mt mq mu mN mP mK mI mT mD) H → va_D A0 (W6 cI aX aN aP aJ aI aT aD ms ml mt mq mu mN mP mK mI mT mD) → va_S A0 s.heap H locs → ∀ (ls : Array Slot), lv_has ls 3 [(0, .ref aX), (1, .int x1), (2, .int x2)] → f6_isNumber_l15 ml mu mT x1 n x2 mq mD = some (r, z_mq, z_mD) → uW p l e wsX6_isNumber rm6_isNumber s m args below meth c D (some (.int r)) A0 (W6 cI aX aN aP aJ aI aT aD ms ml mt z_mq mu mN mP mK mI mT z_mD) H locs (F0 m 15 ls []) := by
    intro x1  n
    induction n with
    | zero =>
      intro x2 mq mD H locs hP hD hS ls hl hF
      rw [f6_isNumber_l15] at hF
      cases hF
    | succ n ih =>
      intro x2 mq mD H locs hP hD hS ls hl hF
      rw [f6_isNumber_l15] at hF
      refine lv_aload_n hx hb dX6_isNumber_15 rfl (lv_at hl 0 rfl) ?_
      refine lv_bipush hx hb dX6_isNumber_16 kc_bipush_48 ?_
      refine lv_bipush hx hb dX6_isNumber_18 kc_bipush_57 ?_
      obtain ⟨q5, h4, hF⟩ := bd1_at hF
      refine rcall (va_runV (As := [.int (48 : Int32), .int (57 : Int32)]) (rest := []) S (K6_sees l D cI cZ cS cJ aX aN aP aJ aI aT aD ms ml mt mq mu mN mP mK mI mT mD (48 : Int32) (57 : Int32) q5 h4) (cwV 2 hts (gd_V wd_965 wd_967 wd_37 wd_67 wd_968) rfl rfl rfl hd6_sees ⟨Nat.le_of_ble_eq_true rfl, Nat.le_of_ble_eq_true rfl⟩) (rPreV hK hP (ci := 6) (q := (RX6, TX6, 11)) rfl rfl) rfl rfl hl.1 rfl (lv_room (Nat.le_of_ble_eq_true rfl)) dX6_isNumber_20 ⟨(Nat.zero_le _), (Nat.zero_le _)⟩) ?_
      refine lv_if_eq (tgt := 78) hx hb dX6_isNumber_23 (by decide) (fun c6 => ?_) (fun c6 => ?_)
      · have hF := ite_t c6 hF
        exact W_78 mq mD x2  _ _ hP hD hS ls (lv_sub hl [0, 2] rfl) hF
      · have hF := ite_f c6 hF
        refine lv_bipush hx hb dX6_isNumber_26 kc_bipush_10 ?_
        refine lv_iload_n hx hb dX6_isNumber_28 rfl (lv_at hl 2 rfl) ?_
        refine lv_imul hx hb dX6_isNumber_29 ?_
        refine lv_aload_n hx hb dX6_isNumber_30 rfl (lv_at hl 0 rfl) ?_
        refine va_get (D := D) (ci := 6) (v := .ref aT) (C := RX6) (T := TX6) (N := 11) hx hb hts i_X6 hown hK.1 hP 0 rfl rfl 5 (by decide) (hts _ wd_816) (fun _ h9 => h9) rfl dX6_isNumber_31 ?_
        refine lv_aload_n hx hb dX6_isNumber_34 rfl (lv_at hl 0 rfl) ?_
        refine va_get (D := D) (ci := 6) (v := .int mq) (C := RX6) (T := TX6) (N := 11) hx hb hts i_X6 hown hK.1 hP 0 rfl rfl 8 (by decide) (hts _ wd_819) (fun _ h9 => h9) rfl dX6_isNumber_35 ?_
        obtain ⟨g7, hF⟩ := gd_at hF
        refine va_iald hx hb hK.1 hP 5 0 rfl rfl g7 dX6_isNumber_38 ?_
        refine lv_iadd hx hb dX6_isNumber_39 ?_
        refine lv_bipush hx hb dX6_isNumber_40 kc_bipush_48 ?_
        refine lv_isub hx hb dX6_isNumber_42 ?_
        refine lv_iload_n hx hb dX6_isNumber_43 rfl (lv_at hl 1 rfl) ?_
        refine lv_icmp_gt (tgt := 78) hx hb dX6_isNumber_44 (by decide) (fun c8 => ?_) (fun c8 => ?_)
        · have hF := ite_t c8 hF
          exact W_78 mq mD x2  _ _ hP hD hS ls (lv_sub hl [0, 2] rfl) hF
        · have hF := ite_f c8 hF
          refine lv_bipush hx hb dX6_isNumber_47 kc_bipush_10 ?_
          refine lv_iload_n hx hb dX6_isNumber_49 rfl (lv_at hl 2 rfl) ?_
          refine lv_imul hx hb dX6_isNumber_50 ?_
          refine lv_aload_n hx hb dX6_isNumber_51 rfl (lv_at hl 0 rfl) ?_
          refine va_get (D := D) (ci := 6) (v := .ref aT) (C := RX6) (T := TX6) (N := 11) hx hb hts i_X6 hown hK.1 hP 0 rfl rfl 5 (by decide) (hts _ wd_816) (fun _ h9 => h9) rfl dX6_isNumber_52 ?_
          refine lv_aload_n hx hb dX6_isNumber_55 rfl (lv_at hl 0 rfl) ?_
          refine va_get (D := D) (ci := 6) (v := .int mq) (C := RX6) (T := TX6) (N := 11) hx hb hts i_X6 hown hK.1 hP 0 rfl rfl 8 (by decide) (hts _ wd_819) (fun _ h9 => h9) rfl dX6_isNumber_56 ?_
          obtain ⟨g9, hF⟩ := gd_at hF
          refine va_iald hx hb hK.1 hP 5 0 rfl rfl g9 dX6_isNumber_59 ?_
          refine lv_iadd hx hb dX6_isNumber_60 ?_
          refine lv_bipush hx hb dX6_isNumber_61 kc_bipush_48 ?_
          refine lv_isub hx hb dX6_isNumber_63 ?_
          refine lv_topi (fun t10 e11 => ?_)
          have hF := lt_at e11 hF
          refine lv_istore_n (lv' := [(2, .int t10), (0, .ref aX), (1, .int x1)]) hx hb dX6_isNumber_64 rfl hl (by decide) rfl (fun ls hl => ?_)
          refine lv_aload_n hx hb dX6_isNumber_65 rfl (lv_at hl 1 rfl) ?_
          refine lv_dup hx hb dX6_isNumber_66 rfl ?_
          refine va_get (D := D) (ci := 6) (v := .int mq) (C := RX6) (T := TX6) (N := 11) hx hb hts i_X6 hown hK.1 hP 0 rfl rfl 8 (by decide) (hts _ wd_819) (fun _ h9 => h9) rfl dX6_isNumber_67 ?_
          refine lv_iconst hx hb dX6_isNumber_70 kc_iconst_1 ?_
          refine lv_iadd hx hb dX6_isNumber_71 ?_
          refine va_put (D := D) (ci := 6) (v := .int (mq + (1 : Int32))) (ty := .int) (C := RX6) (T := TX6) (N := 11) hx hb hts i_X6 tyX6 tyX6_ok nmX6 hown hK.1 hP hD hS 0 rfl rfl 8 (by decide) (hts _ wd_819) (fun _ h9 => h9) rfl (by decide +kernel) rfl rfl (Nat.le_of_ble_eq_true rfl) dX6_isNumber_72 (fun H locs hP hD hS => ?_)
          have hP : va_P D vwCl (W6 cI aX aN aP aJ aI aT aD ms ml mt (mq + (1 : Int32)) mu mN mP mK mI mT mD) H := hP
          have hD : va_D A0 (W6 cI aX aN aP aJ aI aT aD ms ml mt (mq + (1 : Int32)) mu mN mP mK mI mT mD) := hD
          refine lv_goto (tgt := 15) hx hb dX6_isNumber_75 (by decide) ?_
          exact ih t10 (mq + (1 : Int32)) mD _ _ hP hD hS ls (lv_sub hl [1, 2, 0] rfl) hF
  rw [f6_isNumber] at hF
  show uW p l e wsX6_isNumber rm6_isNumber s m args below meth c D (some (.int r)) A0 (W6 cI aX aN aP aJ aI aT aD ms ml mt z_mq mu mN mP mK mI mT z_mD) s.heap [] (F0 m 0 ls [])
  refine lv_aload_n hx hb dX6_isNumber_0 rfl (lv_at hl 0 rfl) ?_
  refine lv_bipush hx hb dX6_isNumber_1 kc_bipush_49 ?_
  refine lv_bipush hx hb dX6_isNumber_3 kc_bipush_57 ?_
  obtain ⟨q2, h1, hF⟩ := bd1_at hF
  refine rcall (va_runV (As := [.int (49 : Int32), .int (57 : Int32)]) (rest := []) S (K6_sees l D cI cZ cS cJ aX aN aP aJ aI aT aD ms ml mt mq mu mN mP mK mI mT mD (49 : Int32) (57 : Int32) q2 h1) (cwV 2 hts (gd_V wd_965 wd_967 wd_37 wd_67 wd_968) rfl rfl rfl hd6_sees ⟨Nat.le_of_ble_eq_true rfl, Nat.le_of_ble_eq_true rfl⟩) (rPreV hK hP (ci := 6) (q := (RX6, TX6, 11)) rfl rfl) rfl rfl hl.1 rfl (lv_room (Nat.le_of_ble_eq_true rfl)) dX6_isNumber_5 ⟨(Nat.zero_le _), (Nat.zero_le _)⟩) ?_
  refine lv_if_ne (tgt := 13) hx hb dX6_isNumber_8 (by decide) (fun c3 => ?_) (fun c3 => ?_)
  · have hF := ite_f c3 hF
    refine lv_iconst hx hb dX6_isNumber_13 kc_iconst_0 ?_
    refine lv_istore_n (lv' := [(2, .int (0 : Int32)), (0, .ref aX), (1, .int x1)]) hx hb dX6_isNumber_14 rfl hl (by decide) rfl (fun ls hl => ?_)
    exact W_15 x1  fu (0 : Int32) mq mD _ _ hP hD hS ls (lv_sub hl [1, 2, 0] rfl) hF
  · have hF := ite_t c3 hF
    refine lv_iconst hx hb dX6_isNumber_11 kc_iconst_0 ?_
    cases hF
    exact uretz (by decide) hx hb hr hlocks hP hS dX6_isNumber_12
abbrev rm6_isSign : Room := { frames := 2, cells := 0, slots := 0, locals := 44 }
theorem hd6_isSign : yX6_isSign.cls = RX6 ∧ yX6_isSign.cls ≠ "java/lang/invoke/MethodHandle" ∧ yX6_isSign.cls ≠ "java/lang/invoke/VarHandle" ∧ (parseMethodDescriptor yX6_isSign.desc).map (fun d => d.parameters.length) = some 0 := by decide +kernel
set_option maxHeartbeats 4000000 in
set_option maxRecDepth 100000 in
theorem K6_isSign (l : Launch) (D : va_G) (cI cZ cS cJ : ClassId) (aX aN aP aJ aI aT aD : Nat) (ms : Int32) (ml : Int32) (mt : Int32) (mq : Int32) (mu : Int32) (mN : Nat → Int32) (mP : Nat → Int32) (mK : Nat → Int32) (mI : Nat → Int32) (mT : Nat → Int32) (mD : Nat → Int32) (r : Int32) (z_mq : Int32) (z_mD : Nat → Int32) (hF : f6_isSign ml mq mu mT mD = some (r, z_mq, z_mD)) : Met l yX6_isSign wsX6_isSign rm6_isSign (uP D (gT cI cZ cS cJ) (W6 cI aX aN aP aJ aI aT aD ms ml mt mq mu mN mP mK mI mT mD) [.ref aX]) (uQ D (some (.int r)) (uA (W6 cI aX aN aP aJ aI aT aD ms ml mt mq mu mN mP mK mI mT mD)) (W6 cI aX aN aP aJ aI aT aD ms ml mt z_mq mu mN mP mK mI mT z_mD)) 0 0 (uA (W6 cI aX aN aP aJ aI aT aD ms ml mt mq mu mN mP mK mI mT mD)) := by
  refine Met.ofW (cc := cX6_isSign) (maxL := 1) (ret := (some .boolean)) (by decide) rfl ?_
  intro p e s m args below meth c s₁ B hml hv
  obtain ⟨ha, hK, hP, hD0⟩ := hv
  have hx := B.exec
  have hb := B.bytes
  have hr := B.returns
  have hlocks := B.notSynchronized
  have hts : ∀ w ∈ lw_all, w.before args s = true := fun w h => atoms_spec (ws := wsX6_isSign) B.pre w (List.mem_cons_of_mem _ h)
  have hown : s.vm.findClass RX6 = some m.cls := findClass_of_methodNamed B.named
  have S : CallFix p m c cX6_isSign 1 s args lw_all RX6 := ⟨hx, hb, hml, hown, hts⟩
  have hD := hD0.own
  generalize uA (W6 cI aX aN aP aJ aI aT aD ms ml mt mq mu mN mP mK mI mT mD) = A0 at hD ⊢
  have hS : va_S A0 s.heap s.heap [] := va_S.rf
  have hl := lv_entry ([.ref aX] : List Value) (n := 1) (Nat.le_of_ble_eq_true rfl)
  refine W.eq (g2 := F0 m 0 ((lg_sl ([.ref aX] : List Value) ++ List.replicate (1 - (lg_sl ([.ref aX] : List Value)).length) Slot.unset).toArray) []) (by rw [ha]; exact lg_entry_eq _ _ _) ?_
  generalize (lg_sl ([.ref aX] : List Value) ++ List.replicate (1 - (lg_sl ([.ref aX] : List Value)).length) Slot.unset).toArray = ls at hl ⊢
  have hl : lv_has ls 1 [(0, .ref aX)] := hl
  rw [f6_isSign] at hF
  show uW p l e wsX6_isSign rm6_isSign s m args below meth c D (some (.int r)) A0 (W6 cI aX aN aP aJ aI aT aD ms ml mt z_mq mu mN mP mK mI mT z_mD) s.heap [] (F0 m 0 ls [])
  refine lv_aload_n hx hb dX6_isSign_0 rfl (lv_at hl 0 rfl) ?_
  refine lv_bipush hx hb dX6_isSign_1 kc_bipush_65 ?_
  refine lv_bipush hx hb dX6_isSign_3 kc_bipush_90 ?_
  obtain ⟨q2, h1, hF⟩ := bd1_at hF
  refine rcall (va_runV (As := [.int (65 : Int32), .int (90 : Int32)]) (rest := []) S (K6_sees l D cI cZ cS cJ aX aN aP aJ aI aT aD ms ml mt mq mu mN mP mK mI mT mD (65 : Int32) (90 : Int32) q2 h1) (cwV 2 hts (gd_V wd_965 wd_967 wd_37 wd_67 wd_968) rfl rfl rfl hd6_sees ⟨Nat.le_of_ble_eq_true rfl, Nat.le_of_ble_eq_true rfl⟩) (rPreV hK hP (ci := 6) (q := (RX6, TX6, 11)) rfl rfl) rfl rfl hl.1 rfl (lv_room (Nat.le_of_ble_eq_true rfl)) dX6_isSign_5 ⟨(Nat.zero_le _), (Nat.zero_le _)⟩) ?_
  refine lv_if_ne (tgt := 13) hx hb dX6_isSign_8 (by decide) (fun c3 => ?_) (fun c3 => ?_)
  · have hF := ite_f c3 hF
    refine lv_aload_n hx hb dX6_isSign_13 rfl (lv_at hl 0 rfl) ?_
    refine va_get (D := D) (ci := 6) (v := .ref aD) (C := RX6) (T := TX6) (N := 11) hx hb hts i_X6 hown hK.1 hP 0 rfl rfl 9 (by decide) (hts _ wd_820) (fun _ h9 => h9) rfl dX6_isSign_14 ?_
    refine lv_iconst hx hb dX6_isSign_17 kc_iconst_3 ?_
    refine lv_aload_n hx hb dX6_isSign_18 rfl (lv_at hl 0 rfl) ?_
    refine va_get (D := D) (ci := 6) (v := .int mu) (C := RX6) (T := TX6) (N := 11) hx hb hts i_X6 hown hK.1 hP 0 rfl rfl 10 (by decide) (hts _ wd_821) (fun _ h9 => h9) rfl dX6_isSign_19 ?_
    refine lv_imul hx hb dX6_isSign_22 ?_
    refine lv_iconst hx hb dX6_isSign_23 kc_iconst_2 ?_
    refine lv_iadd hx hb dX6_isSign_24 ?_
    refine lv_aload_n hx hb dX6_isSign_25 rfl (lv_at hl 0 rfl) ?_
    refine va_get (D := D) (ci := 6) (v := .ref aT) (C := RX6) (T := TX6) (N := 11) hx hb hts i_X6 hown hK.1 hP 0 rfl rfl 5 (by decide) (hts _ wd_816) (fun _ h9 => h9) rfl dX6_isSign_26 ?_
    refine lv_aload_n hx hb dX6_isSign_29 rfl (lv_at hl 0 rfl) ?_
    refine va_get (D := D) (ci := 6) (v := .int mq) (C := RX6) (T := TX6) (N := 11) hx hb hts i_X6 hown hK.1 hP 0 rfl rfl 8 (by decide) (hts _ wd_819) (fun _ h9 => h9) rfl dX6_isSign_30 ?_
    obtain ⟨g4, hF⟩ := gd_at hF
    refine va_iald hx hb hK.1 hP 5 0 rfl rfl g4 dX6_isSign_33 ?_
    refine lv_bipush hx hb dX6_isSign_34 kc_bipush_65 ?_
    refine lv_isub hx hb dX6_isSign_36 ?_
    obtain ⟨g5, hF⟩ := gd_at hF
    refine va_iast hx hb hK.1 hP hD hS 6 0 rfl rfl g5 dX6_isSign_37 (fun H locs hP hD hS => ?_)
    have hP : va_P D vwCl (W6 cI aX aN aP aJ aI aT aD ms ml mt mq mu mN mP mK mI mT (upd mD (((3 : Int32) * mu) + (2 : Int32)).toNatClampNeg ((mT mq.toNatClampNeg) - (65 : Int32)))) H := hP
    have hD : va_D A0 (W6 cI aX aN aP aJ aI aT aD ms ml mt mq mu mN mP mK mI mT (upd mD (((3 : Int32) * mu) + (2 : Int32)).toNatClampNeg ((mT mq.toNatClampNeg) - (65 : Int32)))) := hD
    refine lv_aload_n hx hb dX6_isSign_38 rfl (lv_at hl 0 rfl) ?_
    refine lv_dup hx hb dX6_isSign_39 rfl ?_
    refine va_get (D := D) (ci := 6) (v := .int mq) (C := RX6) (T := TX6) (N := 11) hx hb hts i_X6 hown hK.1 hP 0 rfl rfl 8 (by decide) (hts _ wd_819) (fun _ h9 => h9) rfl dX6_isSign_40 ?_
    refine lv_iconst hx hb dX6_isSign_43 kc_iconst_1 ?_
    refine lv_iadd hx hb dX6_isSign_44 ?_
    refine va_put (D := D) (ci := 6) (v := .int (mq + (1 : Int32))) (ty := .int) (C := RX6) (T := TX6) (N := 11) hx hb hts i_X6 tyX6 tyX6_ok nmX6 hown hK.1 hP hD hS 0 rfl rfl 8 (by decide) (hts _ wd_819) (fun _ h9 => h9) rfl (by decide +kernel) rfl rfl (Nat.le_of_ble_eq_true rfl) dX6_isSign_45 (fun H locs hP hD hS => ?_)
    have hP : va_P D vwCl (W6 cI aX aN aP aJ aI aT aD ms ml mt (mq + (1 : Int32)) mu mN mP mK mI mT (upd mD (((3 : Int32) * mu) + (2 : Int32)).toNatClampNeg ((mT mq.toNatClampNeg) - (65 : Int32)))) H := hP
    have hD : va_D A0 (W6 cI aX aN aP aJ aI aT aD ms ml mt (mq + (1 : Int32)) mu mN mP mK mI mT (upd mD (((3 : Int32) * mu) + (2 : Int32)).toNatClampNeg ((mT mq.toNatClampNeg) - (65 : Int32)))) := hD
    refine lv_iconst hx hb dX6_isSign_48 kc_iconst_1 ?_
    cases hF
    exact uretz (by decide) hx hb hr hlocks hP hS dX6_isSign_49
  · have hF := ite_t c3 hF
    refine lv_iconst hx hb dX6_isSign_11 kc_iconst_0 ?_
    cases hF
    exact uretz (by decide) hx hb hr hlocks hP hS dX6_isSign_12
abbrev rm6_isOrder : Room := { frames := 3, cells := 0, slots := 0, locals := 67 }
theorem hd6_isOrder : yX6_isOrder.cls = RX6 ∧ yX6_isOrder.cls ≠ "java/lang/invoke/MethodHandle" ∧ yX6_isOrder.cls ≠ "java/lang/invoke/VarHandle" ∧ (parseMethodDescriptor yX6_isOrder.desc).map (fun d => d.parameters.length) = some 0 := by decide +kernel
set_option maxHeartbeats 4000000 in
set_option maxRecDepth 100000 in
theorem K6_isOrder (l : Launch) (D : va_G) (cI cZ cS cJ : ClassId) (aX aN aP aJ aI aT aD : Nat) (ms : Int32) (ml : Int32) (mt : Int32) (mq : Int32) (mu : Int32) (mN : Nat → Int32) (mP : Nat → Int32) (mK : Nat → Int32) (mI : Nat → Int32) (mT : Nat → Int32) (mD : Nat → Int32) (r : Int32) (z_mq : Int32) (z_mD : Nat → Int32) (hF : f6_isOrder ml mq mu mT mD = some (r, z_mq, z_mD)) : Met l yX6_isOrder wsX6_isOrder rm6_isOrder (uP D (gT cI cZ cS cJ) (W6 cI aX aN aP aJ aI aT aD ms ml mt mq mu mN mP mK mI mT mD) [.ref aX]) (uQ D (some (.int r)) (uA (W6 cI aX aN aP aJ aI aT aD ms ml mt mq mu mN mP mK mI mT mD)) (W6 cI aX aN aP aJ aI aT aD ms ml mt z_mq mu mN mP mK mI mT z_mD)) 0 0 (uA (W6 cI aX aN aP aJ aI aT aD ms ml mt mq mu mN mP mK mI mT mD)) := by
  refine Met.ofW (cc := cX6_isOrder) (maxL := 2) (ret := (some .boolean)) (by decide) rfl ?_
  intro p e s m args below meth c s₁ B hml hv
  obtain ⟨ha, hK, hP, hD0⟩ := hv
  have hx := B.exec
  have hb := B.bytes
  have hr := B.returns
  have hlocks := B.notSynchronized
  have hts : ∀ w ∈ lw_all, w.before args s = true := fun w h => atoms_spec (ws := wsX6_isOrder) B.pre w (List.mem_cons_of_mem _ h)
  have hown : s.vm.findClass RX6 = some m.cls := findClass_of_methodNamed B.named
  have S : CallFix p m c cX6_isOrder 2 s args lw_all RX6 := ⟨hx, hb, hml, hown, hts⟩
  have hD := hD0.own
  generalize uA (W6 cI aX aN aP aJ aI aT aD ms ml mt mq mu mN mP mK mI mT mD) = A0 at hD ⊢
  have hS : va_S A0 s.heap s.heap [] := va_S.rf
  have hl := lv_entry ([.ref aX] : List Value) (n := 2) (Nat.le_of_ble_eq_true rfl)
  refine W.eq (g2 := F0 m 0 ((lg_sl ([.ref aX] : List Value) ++ List.replicate (2 - (lg_sl ([.ref aX] : List Value)).length) Slot.unset).toArray) []) (by rw [ha]; exact lg_entry_eq _ _ _) ?_
  generalize (lg_sl ([.ref aX] : List Value) ++ List.replicate (2 - (lg_sl ([.ref aX] : List Value)).length) Slot.unset).toArray = ls at hl ⊢
  have hl : lv_has ls 2 [(0, .ref aX)] := hl
  clear ha
  have W_24 : ∀ (mq : Int32) (mD : Nat → Int32), ∀ (H : Heap) (locs : List Loc), va_P D vwCl (W6 cI aX aN aP aJ aI aT aD ms ml mt mq mu mN mP mK mI mT mD) H → va_D A0 (W6 cI aX aN aP aJ aI aT aD ms ml mt mq mu mN mP mK mI mT mD) → va_S A0 s.heap H locs → ∀ (ls : Array Slot), lv_has ls 2 [(0, .ref aX)] → f6_isOrder_j24 ml mq mu mT mD = some (r, z_mq, z_mD) → uW p l e wsX6_isOrder rm6_isOrder s m args below meth c D (some (.int r)) A0 (W6 cI aX aN aP aJ aI aT aD ms ml mt z_mq mu mN mP mK mI mT z_mD) H locs (F0 m 24 ls []) := by
    intro mq mD  H locs hP hD hS ls hl hF
    rw [f6_isOrder_j24] at hF
    refine lv_aload_n hx hb dX6_isOrder_24 rfl (lv_at hl 0 rfl) ?_
    refine va_get (D := D) (ci := 6) (v := .ref aT) (C := RX6) (T := TX6) (N := 11) hx hb hts i_X6 hown hK.1 hP 0 rfl rfl 5 (by decide) (hts _ wd_816) (fun _ h9 => h9) rfl dX6_isOrder_25 ?_
    refine lv_aload_n hx hb dX6_isOrder_28 rfl (lv_at hl 0 rfl) ?_
    refine va_get (D := D) (ci := 6) (v := .int mq) (C := RX6) (T := TX6) (N := 11) hx hb hts i_X6 hown hK.1 hP 0 rfl rfl 8 (by decide) (hts _ wd_819) (fun _ h9 => h9) rfl dX6_isOrder_29 ?_
    obtain ⟨g7, hF⟩ := gd_at hF
    refine va_iald hx hb hK.1 hP 5 0 rfl rfl g7 dX6_isOrder_32 ?_
    refine lv_istore_n (lv' := [(1, .int (mT mq.toNatClampNeg)), (0, .ref aX)]) hx hb dX6_isOrder_33 rfl hl (by decide) rfl (fun ls hl => ?_)
    refine lv_aload_n hx hb dX6_isOrder_34 rfl (lv_at hl 1 rfl) ?_
    refine va_get (D := D) (ci := 6) (v := .ref aD) (C := RX6) (T := TX6) (N := 11) hx hb hts i_X6 hown hK.1 hP 0 rfl rfl 9 (by decide) (hts _ wd_820) (fun _ h9 => h9) rfl dX6_isOrder_35 ?_
    refine lv_iconst hx hb dX6_isOrder_38 kc_iconst_3 ?_
    refine lv_aload_n hx hb dX6_isOrder_39 rfl (lv_at hl 1 rfl) ?_
    refine va_get (D := D) (ci := 6) (v := .int mu) (C := RX6) (T := TX6) (N := 11) hx hb hts i_X6 hown hK.1 hP 0 rfl rfl 10 (by decide) (hts _ wd_821) (fun _ h9 => h9) rfl dX6_isOrder_40 ?_
    refine lv_imul hx hb dX6_isOrder_43 ?_
    refine lv_iload_n hx hb dX6_isOrder_44 rfl (lv_at hl 0 rfl) ?_
    obtain ⟨g8, hF⟩ := gd_at hF
    refine va_iast hx hb hK.1 hP hD hS 6 0 rfl rfl g8 dX6_isOrder_45 (fun H locs hP hD hS => ?_)
    have hP : va_P D vwCl (W6 cI aX aN aP aJ aI aT aD ms ml mt mq mu mN mP mK mI mT (upd mD ((3 : Int32) * mu).toNatClampNeg (mT mq.toNatClampNeg))) H := hP
    have hD : va_D A0 (W6 cI aX aN aP aJ aI aT aD ms ml mt mq mu mN mP mK mI mT (upd mD ((3 : Int32) * mu).toNatClampNeg (mT mq.toNatClampNeg))) := hD
    refine lv_aload_n hx hb dX6_isOrder_46 rfl (lv_at hl 1 rfl) ?_
    refine lv_dup hx hb dX6_isOrder_47 rfl ?_
    refine va_get (D := D) (ci := 6) (v := .int mq) (C := RX6) (T := TX6) (N := 11) hx hb hts i_X6 hown hK.1 hP 0 rfl rfl 8 (by decide) (hts _ wd_819) (fun _ h9 => h9) rfl dX6_isOrder_48 ?_
    refine lv_iconst hx hb dX6_isOrder_51 kc_iconst_1 ?_
    refine lv_iadd hx hb dX6_isOrder_52 ?_
    refine va_put (D := D) (ci := 6) (v := .int (mq + (1 : Int32))) (ty := .int) (C := RX6) (T := TX6) (N := 11) hx hb hts i_X6 tyX6 tyX6_ok nmX6 hown hK.1 hP hD hS 0 rfl rfl 8 (by decide) (hts _ wd_819) (fun _ h9 => h9) rfl (by decide +kernel) rfl rfl (Nat.le_of_ble_eq_true rfl) dX6_isOrder_53 (fun H locs hP hD hS => ?_)
    have hP : va_P D vwCl (W6 cI aX aN aP aJ aI aT aD ms ml mt (mq + (1 : Int32)) mu mN mP mK mI mT (upd mD ((3 : Int32) * mu).toNatClampNeg (mT mq.toNatClampNeg))) H := hP
    have hD : va_D A0 (W6 cI aX aN aP aJ aI aT aD ms ml mt (mq + (1 : Int32)) mu mN mP mK mI mT (upd mD ((3 : Int32) * mu).toNatClampNeg (mT mq.toNatClampNeg))) := hD
    refine lv_aload_n hx hb dX6_isOrder_56 rfl (lv_at hl 1 rfl) ?_
    refine lv_iconst hx hb dX6_isOrder_57 kc_iconst_1 ?_
    obtain ⟨q10, u11, u12, h9, hF⟩ := bd3_at hF
    refine ucalli (ws' := (W6 cI aX aN aP aJ aI aT aD ms ml mt u11 mu mN mP mK mI mT u12)) (va_runV (As := [.int (1 : Int32)]) (rest := []) S (K6_isSix l D cI cZ cS cJ aX aN aP aJ aI aT aD ms ml mt (mq + (1 : Int32)) mu mN mP mK mI mT (upd mD ((3 : Int32) * mu).toNatClampNeg (mT mq.toNatClampNeg)) (1 : Int32) q10 u11 u12 h9) (cwV 1 hts (gd_V wd_969 wd_971 wd_38 wd_67 wd_972) rfl rfl rfl hd6_isSix ⟨Nat.le_of_ble_eq_true rfl, Nat.le_of_ble_eq_true rfl⟩) (uPreV hK hP hD (ci := 6) (q := (RX6, TX6, 11)) rfl rfl) rfl rfl hl.1 rfl (lv_room (Nat.le_of_ble_eq_true rfl)) dX6_isOrder_58 ⟨(Nat.zero_le _), (Nat.zero_le _)⟩) hS hP hD [0, 1, 2, 3, 4, 5, 6] rfl rfl rfl rfl (fun H locs hP hD hS => ?_)
    refine lv_if_ne (tgt := 66) hx hb dX6_isOrder_61 (by decide) (fun c13 => ?_) (fun c13 => ?_)
    · have hF := ite_f c13 hF
      refine lv_iload_n hx hb dX6_isOrder_66 rfl (lv_at hl 0 rfl) ?_
      refine lv_bipush hx hb dX6_isOrder_67 kc_bipush_98 ?_
      refine lv_icmp_ne (tgt := 98) hx hb dX6_isOrder_69 (by decide) (fun c14 => ?_) (fun c14 => ?_)
      · have hF := ite_f c14 hF
        refine lv_iload_n hx hb dX6_isOrder_98 rfl (lv_at hl 0 rfl) ?_
        refine lv_bipush hx hb dX6_isOrder_99 kc_bipush_119 ?_
        refine lv_icmp_ne (tgt := 131) hx hb dX6_isOrder_101 (by decide) (fun c15 => ?_) (fun c15 => ?_)
        · have hF := ite_f c15 hF
          refine lv_iload_n hx hb dX6_isOrder_131 rfl (lv_at hl 0 rfl) ?_
          refine lv_bipush hx hb dX6_isOrder_132 kc_bipush_99 ?_
          refine lv_icmp_ne (tgt := 144) hx hb dX6_isOrder_134 (by decide) (fun c16 => ?_) (fun c16 => ?_)
          · have hF := ite_f c16 hF
            refine lv_aload_n hx hb dX6_isOrder_144 rfl (lv_at hl 1 rfl) ?_
            refine lv_bipush hx hb dX6_isOrder_145 kc_bipush_45 ?_
            obtain ⟨q18, u19, h17, hF⟩ := bd2_at hF
            refine ucalli (ws' := (W6 cI aX aN aP aJ aI aT aD ms ml mt u19 mu mN mP mK mI mT u12)) (va_runV (As := [.int (45 : Int32)]) (rest := []) S (K6_takes l D cI cZ cS cJ aX aN aP aJ aI aT aD ms ml mt u11 mu mN mP mK mI mT u12 (45 : Int32) q18 u19 h17) (cwV 1 hts (gd_V wd_973 wd_975 wd_39 wd_67 wd_976) rfl rfl rfl hd6_takes ⟨Nat.le_of_ble_eq_true rfl, Nat.le_of_ble_eq_true rfl⟩) (uPreV hK hP hD (ci := 6) (q := (RX6, TX6, 11)) rfl rfl) rfl rfl hl.1 rfl (lv_room (Nat.le_of_ble_eq_true rfl)) dX6_isOrder_147 ⟨(Nat.zero_le _), (Nat.zero_le _)⟩) hS hP hD [0, 1, 2, 3, 4, 5, 6] rfl rfl rfl rfl (fun H locs hP hD hS => ?_)
            refine lv_if_eq (tgt := 165) hx hb dX6_isOrder_150 (by decide) (fun c20 => ?_) (fun c20 => ?_)
            · have hF := ite_t c20 hF
              refine lv_iconst hx hb dX6_isOrder_165 kc_iconst_0 ?_
              cases hF
              exact uretz (by decide) hx hb hr hlocks hP hS dX6_isOrder_166
            · have hF := ite_f c20 hF
              refine lv_aload_n hx hb dX6_isOrder_153 rfl (lv_at hl 1 rfl) ?_
              refine lv_iconst hx hb dX6_isOrder_154 kc_iconst_2 ?_
              obtain ⟨q22, u23, u24, h21, hF⟩ := bd3_at hF
              refine ucalli (ws' := (W6 cI aX aN aP aJ aI aT aD ms ml mt u23 mu mN mP mK mI mT u24)) (va_runV (As := [.int (2 : Int32)]) (rest := []) S (K6_isSix l D cI cZ cS cJ aX aN aP aJ aI aT aD ms ml mt u19 mu mN mP mK mI mT u12 (2 : Int32) q22 u23 u24 h21) (cwV 1 hts (gd_V wd_969 wd_971 wd_38 wd_67 wd_972) rfl rfl rfl hd6_isSix ⟨Nat.le_of_ble_eq_true rfl, Nat.le_of_ble_eq_true rfl⟩) (uPreV hK hP hD (ci := 6) (q := (RX6, TX6, 11)) rfl rfl) rfl rfl hl.1 rfl (lv_room (Nat.le_of_ble_eq_true rfl)) dX6_isOrder_155 ⟨(Nat.zero_le _), (Nat.zero_le _)⟩) hS hP hD [0, 1, 2, 3, 4, 5, 6] rfl rfl rfl rfl (fun H locs hP hD hS => ?_)
              refine lv_if_eq (tgt := 165) hx hb dX6_isOrder_158 (by decide) (fun c25 => ?_) (fun c25 => ?_)
              · rw [if_pos c25] at hF
                refine lv_iconst hx hb dX6_isOrder_165 kc_iconst_0 ?_
                cases hF
                exact uretz (by decide) hx hb hr hlocks hP hS dX6_isOrder_166
              · rw [if_neg c25] at hF
                refine lv_iconst hx hb dX6_isOrder_161 kc_iconst_1 ?_
                refine lv_goto (tgt := 166) hx hb dX6_isOrder_162 (by decide) ?_
                cases hF
                exact uretz (by decide) hx hb hr hlocks hP hS dX6_isOrder_166
          · have hF := ite_t c16 hF
            refine lv_aload_n hx hb dX6_isOrder_137 rfl (lv_at hl 1 rfl) ?_
            obtain ⟨q27, u28, u29, h26, hF⟩ := bd3_at hF
            refine ucalli (ws' := (W6 cI aX aN aP aJ aI aT aD ms ml mt u28 mu mN mP mK mI mT u29)) (va_runV (As := []) (rest := []) S (K6_isSign l D cI cZ cS cJ aX aN aP aJ aI aT aD ms ml mt u11 mu mN mP mK mI mT u12 q27 u28 u29 h26) (cwV 0 hts (gd_V wd_981 wd_983 wd_41 wd_67 wd_984) rfl rfl rfl hd6_isSign ⟨Nat.le_of_ble_eq_true rfl, Nat.le_of_ble_eq_true rfl⟩) (uPreV hK hP hD (ci := 6) (q := (RX6, TX6, 11)) rfl rfl) rfl rfl hl.1 rfl (lv_room (Nat.le_of_ble_eq_true rfl)) dX6_isOrder_138 ⟨(Nat.zero_le _), (Nat.zero_le _)⟩) hS hP hD [0, 1, 2, 3, 4, 5, 6] rfl rfl rfl rfl (fun H locs hP hD hS => ?_)
            refine lv_goto (tgt := 166) hx hb dX6_isOrder_141 (by decide) ?_
            obtain ⟨hz, hF⟩ := gd_at hF
            cases hF
            exact uretz hz hx hb hr hlocks hP hS dX6_isOrder_166
        · have hF := ite_t c15 hF
          refine lv_aload_n hx hb dX6_isOrder_104 rfl (lv_at hl 1 rfl) ?_
          refine lv_bipush hx hb dX6_isOrder_105 kc_bipush_61 ?_
          obtain ⟨q31, u32, h30, hF⟩ := bd2_at hF
          refine ucalli (ws' := (W6 cI aX aN aP aJ aI aT aD ms ml mt u32 mu mN mP mK mI mT u12)) (va_runV (As := [.int (61 : Int32)]) (rest := []) S (K6_takes l D cI cZ cS cJ aX aN aP aJ aI aT aD ms ml mt u11 mu mN mP mK mI mT u12 (61 : Int32) q31 u32 h30) (cwV 1 hts (gd_V wd_973 wd_975 wd_39 wd_67 wd_976) rfl rfl rfl hd6_takes ⟨Nat.le_of_ble_eq_true rfl, Nat.le_of_ble_eq_true rfl⟩) (uPreV hK hP hD (ci := 6) (q := (RX6, TX6, 11)) rfl rfl) rfl rfl hl.1 rfl (lv_room (Nat.le_of_ble_eq_true rfl)) dX6_isOrder_107 ⟨(Nat.zero_le _), (Nat.zero_le _)⟩) hS hP hD [0, 1, 2, 3, 4, 5, 6] rfl rfl rfl rfl (fun H locs hP hD hS => ?_)
          refine lv_if_eq (tgt := 127) hx hb dX6_isOrder_110 (by decide) (fun c33 => ?_) (fun c33 => ?_)
          · have hF := ite_t c33 hF
            refine lv_iconst hx hb dX6_isOrder_127 kc_iconst_0 ?_
            refine lv_goto (tgt := 166) hx hb dX6_isOrder_128 (by decide) ?_
            cases hF
            exact uretz (by decide) hx hb hr hlocks hP hS dX6_isOrder_166
          · have hF := ite_f c33 hF
            refine lv_aload_n hx hb dX6_isOrder_113 rfl (lv_at hl 1 rfl) ?_
            refine lv_sipush hx hb dX6_isOrder_114 kc_sipush_999 ?_
            obtain ⟨q35, u36, u37, h34, hF⟩ := bd3_at hF
            refine ucalli (ws' := (W6 cI aX aN aP aJ aI aT aD ms ml mt u36 mu mN mP mK mI mT u37)) (va_runV (As := [.int (999 : Int32)]) (rest := []) S (K6_isNumber l D cI cZ cS cJ aX aN aP aJ aI aT aD ms ml mt u32 mu mN mP mK mI mT u12 (999 : Int32) q35 u36 u37 h34) (cwV 1 hts (gd_V wd_977 wd_979 wd_40 wd_67 wd_980) rfl rfl rfl hd6_isNumber ⟨Nat.le_of_ble_eq_true rfl, Nat.le_of_ble_eq_true rfl⟩) (uPreV hK hP hD (ci := 6) (q := (RX6, TX6, 11)) rfl rfl) rfl rfl hl.1 rfl (lv_room (Nat.le_of_ble_eq_true rfl)) dX6_isOrder_117 ⟨(Nat.zero_le _), (Nat.zero_le _)⟩) hS hP hD [0, 1, 2, 3, 4, 5, 6] rfl rfl rfl rfl (fun H locs hP hD hS => ?_)
            refine lv_if_eq (tgt := 127) hx hb dX6_isOrder_120 (by decide) (fun c38 => ?_) (fun c38 => ?_)
            · rw [if_pos c38] at hF
              refine lv_iconst hx hb dX6_isOrder_127 kc_iconst_0 ?_
              refine lv_goto (tgt := 166) hx hb dX6_isOrder_128 (by decide) ?_
              cases hF
              exact uretz (by decide) hx hb hr hlocks hP hS dX6_isOrder_166
            · rw [if_neg c38] at hF
              refine lv_iconst hx hb dX6_isOrder_123 kc_iconst_1 ?_
              refine lv_goto (tgt := 166) hx hb dX6_isOrder_124 (by decide) ?_
              cases hF
              exact uretz (by decide) hx hb hr hlocks hP hS dX6_isOrder_166
      · have hF := ite_t c14 hF
        refine lv_aload_n hx hb dX6_isOrder_72 rfl (lv_at hl 1 rfl) ?_
        refine lv_bipush hx hb dX6_isOrder_73 kc_bipush_43 ?_
        obtain ⟨q40, u41, h39, hF⟩ := bd2_at hF
        refine ucalli (ws' := (W6 cI aX aN aP aJ aI aT aD ms ml mt u41 mu mN mP mK mI mT u12)) (va_runV (As := [.int (43 : Int32)]) (rest := []) S (K6_takes l D cI cZ cS cJ aX aN aP aJ aI aT aD ms ml mt u11 mu mN mP mK mI mT u12 (43 : Int32) q40 u41 h39) (cwV 1 hts (gd_V wd_973 wd_975 wd_39 wd_67 wd_976) rfl rfl rfl hd6_takes ⟨Nat.le_of_ble_eq_true rfl, Nat.le_of_ble_eq_true rfl⟩) (uPreV hK hP hD (ci := 6) (q := (RX6, TX6, 11)) rfl rfl) rfl rfl hl.1 rfl (lv_room (Nat.le_of_ble_eq_true rfl)) dX6_isOrder_75 ⟨(Nat.zero_le _), (Nat.zero_le _)⟩) hS hP hD [0, 1, 2, 3, 4, 5, 6] rfl rfl rfl rfl (fun H locs hP hD hS => ?_)
        refine lv_if_eq (tgt := 94) hx hb dX6_isOrder_78 (by decide) (fun c42 => ?_) (fun c42 => ?_)
        · have hF := ite_t c42 hF
          refine lv_iconst hx hb dX6_isOrder_94 kc_iconst_0 ?_
          refine lv_goto (tgt := 166) hx hb dX6_isOrder_95 (by decide) ?_
          cases hF
          exact uretz (by decide) hx hb hr hlocks hP hS dX6_isOrder_166
        · have hF := ite_f c42 hF
          refine lv_aload_n hx hb dX6_isOrder_81 rfl (lv_at hl 1 rfl) ?_
          refine lv_bipush hx hb dX6_isOrder_82 kc_bipush_40 ?_
          obtain ⟨q44, u45, u46, h43, hF⟩ := bd3_at hF
          refine ucalli (ws' := (W6 cI aX aN aP aJ aI aT aD ms ml mt u45 mu mN mP mK mI mT u46)) (va_runV (As := [.int (40 : Int32)]) (rest := []) S (K6_isNumber l D cI cZ cS cJ aX aN aP aJ aI aT aD ms ml mt u41 mu mN mP mK mI mT u12 (40 : Int32) q44 u45 u46 h43) (cwV 1 hts (gd_V wd_977 wd_979 wd_40 wd_67 wd_980) rfl rfl rfl hd6_isNumber ⟨Nat.le_of_ble_eq_true rfl, Nat.le_of_ble_eq_true rfl⟩) (uPreV hK hP hD (ci := 6) (q := (RX6, TX6, 11)) rfl rfl) rfl rfl hl.1 rfl (lv_room (Nat.le_of_ble_eq_true rfl)) dX6_isOrder_84 ⟨(Nat.zero_le _), (Nat.zero_le _)⟩) hS hP hD [0, 1, 2, 3, 4, 5, 6] rfl rfl rfl rfl (fun H locs hP hD hS => ?_)
          refine lv_if_eq (tgt := 94) hx hb dX6_isOrder_87 (by decide) (fun c47 => ?_) (fun c47 => ?_)
          · rw [if_pos c47] at hF
            refine lv_iconst hx hb dX6_isOrder_94 kc_iconst_0 ?_
            refine lv_goto (tgt := 166) hx hb dX6_isOrder_95 (by decide) ?_
            cases hF
            exact uretz (by decide) hx hb hr hlocks hP hS dX6_isOrder_166
          · rw [if_neg c47] at hF
            refine lv_iconst hx hb dX6_isOrder_90 kc_iconst_1 ?_
            refine lv_goto (tgt := 166) hx hb dX6_isOrder_91 (by decide) ?_
            cases hF
            exact uretz (by decide) hx hb hr hlocks hP hS dX6_isOrder_166
    · have hF := ite_t c13 hF
      refine lv_iconst hx hb dX6_isOrder_64 kc_iconst_0 ?_
      cases hF
      exact uretz (by decide) hx hb hr hlocks hP hS dX6_isOrder_65
  rw [f6_isOrder] at hF
  show uW p l e wsX6_isOrder rm6_isOrder s m args below meth c D (some (.int r)) A0 (W6 cI aX aN aP aJ aI aT aD ms ml mt z_mq mu mN mP mK mI mT z_mD) s.heap [] (F0 m 0 ls [])
  refine lv_aload_n hx hb dX6_isOrder_0 rfl (lv_at hl 0 rfl) ?_
  refine lv_bipush hx hb dX6_isOrder_1 kc_bipush_98 ?_
  refine lv_bipush hx hb dX6_isOrder_3 kc_bipush_99 ?_
  obtain ⟨q2, h1, hF⟩ := bd1_at hF
  refine rcall (va_runV (As := [.int (98 : Int32), .int (99 : Int32)]) (rest := []) S (K6_sees l D cI cZ cS cJ aX aN aP aJ aI aT aD ms ml mt mq mu mN mP mK mI mT mD (98 : Int32) (99 : Int32) q2 h1) (cwV 2 hts (gd_V wd_965 wd_967 wd_37 wd_67 wd_968) rfl rfl rfl hd6_sees ⟨Nat.le_of_ble_eq_true rfl, Nat.le_of_ble_eq_true rfl⟩) (rPreV hK hP (ci := 6) (q := (RX6, TX6, 11)) rfl rfl) rfl rfl hl.1 rfl (lv_room (Nat.le_of_ble_eq_true rfl)) dX6_isOrder_5 ⟨(Nat.zero_le _), (Nat.zero_le _)⟩) ?_
  refine lv_if_ne (tgt := 24) hx hb dX6_isOrder_8 (by decide) (fun c3 => ?_) (fun c3 => ?_)
  · have hF := ite_f c3 hF
    exact W_24 mq mD  _ _ hP hD hS ls (lv_sub hl [0] rfl) hF
  · have hF := ite_t c3 hF
    refine lv_aload_n hx hb dX6_isOrder_11 rfl (lv_at hl 0 rfl) ?_
    refine lv_bipush hx hb dX6_isOrder_12 kc_bipush_118 ?_
    refine lv_bipush hx hb dX6_isOrder_14 kc_bipush_119 ?_
    obtain ⟨q5, h4, hF⟩ := bd1_at hF
    refine rcall (va_runV (As := [.int (118 : Int32), .int (119 : Int32)]) (rest := []) S (K6_sees l D cI cZ cS cJ aX aN aP aJ aI aT aD ms ml mt mq mu mN mP mK mI mT mD (118 : Int32) (119 : Int32) q5 h4) (cwV 2 hts (gd_V wd_965 wd_967 wd_37 wd_67 wd_968) rfl rfl rfl hd6_sees ⟨Nat.le_of_ble_eq_true rfl, Nat.le_of_ble_eq_true rfl⟩) (rPreV hK hP (ci := 6) (q := (RX6, TX6, 11)) rfl rfl) rfl rfl hl.1 rfl (lv_room (Nat.le_of_ble_eq_true rfl)) dX6_isOrder_16 ⟨(Nat.zero_le _), (Nat.zero_le _)⟩) ?_
    refine lv_if_ne (tgt := 24) hx hb dX6_isOrder_19 (by decide) (fun c6 => ?_) (fun c6 => ?_)
    · have hF := ite_f c6 hF
      exact W_24 mq mD  _ _ hP hD hS ls (lv_sub hl [0] rfl) hF
    · have hF := ite_t c6 hF
      refine lv_iconst hx hb dX6_isOrder_22 kc_iconst_0 ?_
      cases hF
      exact uretz (by decide) hx hb hr hlocks hP hS dX6_isOrder_23
abbrev rm6_isWhole : Room := { frames := 4, cells := 0, slots := 0, locals := 88 }
theorem hd6_isWhole : yX6_isWhole.cls = RX6 ∧ yX6_isWhole.cls ≠ "java/lang/invoke/MethodHandle" ∧ yX6_isWhole.cls ≠ "java/lang/invoke/VarHandle" ∧ (parseMethodDescriptor yX6_isWhole.desc).map (fun d => d.parameters.length) = some 0 := by decide +kernel
set_option maxHeartbeats 4000000 in
set_option maxRecDepth 100000 in
theorem K6_isWhole (l : Launch) (D : va_G) (cI cZ cS cJ : ClassId) (aX aN aP aJ aI aT aD : Nat) (ms : Int32) (ml : Int32) (mt : Int32) (mq : Int32) (mu : Int32) (mN : Nat → Int32) (mP : Nat → Int32) (mK : Nat → Int32) (mI : Nat → Int32) (mT : Nat → Int32) (mD : Nat → Int32) (r : Int32) (z_mq : Int32) (z_mu : Int32) (z_mD : Nat → Int32) (hF : f6_isWhole ml mq mu mT mD = some (r, z_mq, z_mu, z_mD)) : Met l yX6_isWhole wsX6_isWhole rm6_isWhole (uP D (gT cI cZ cS cJ) (W6 cI aX aN aP aJ aI aT aD ms ml mt mq mu mN mP mK mI mT mD) [.ref aX]) (uQ D (some (.int r)) (uA (W6 cI aX aN aP aJ aI aT aD ms ml mt mq mu mN mP mK mI mT mD)) (W6 cI aX aN aP aJ aI aT aD ms ml mt z_mq z_mu mN mP mK mI mT z_mD)) 0 0 (uA (W6 cI aX aN aP aJ aI aT aD ms ml mt mq mu mN mP mK mI mT mD)) := by
  refine Met.ofW (cc := cX6_isWhole) (maxL := 2) (ret := (some .boolean)) (by decide) rfl ?_
  intro p e s m args below meth c s₁ B hml hv
  obtain ⟨ha, hK, hP, hD0⟩ := hv
  have hx := B.exec
  have hb := B.bytes
  have hr := B.returns
  have hlocks := B.notSynchronized
  have hts : ∀ w ∈ lw_all, w.before args s = true := fun w h => atoms_spec (ws := wsX6_isWhole) B.pre w (List.mem_cons_of_mem _ h)
  have hown : s.vm.findClass RX6 = some m.cls := findClass_of_methodNamed B.named
  have S : CallFix p m c cX6_isWhole 2 s args lw_all RX6 := ⟨hx, hb, hml, hown, hts⟩
  have hD := hD0.own
  generalize uA (W6 cI aX aN aP aJ aI aT aD ms ml mt mq mu mN mP mK mI mT mD) = A0 at hD ⊢
  have hS : va_S A0 s.heap s.heap [] := va_S.rf
  have hl := lv_entry ([.ref aX] : List Value) (n := 2) (Nat.le_of_ble_eq_true rfl)
  refine W.eq (g2 := F0 m 0 ((lg_sl ([.ref aX] : List Value) ++ List.replicate (2 - (lg_sl ([.ref aX] : List Value)).length) Slot.unset).toArray) []) (by rw [ha]; exact lg_entry_eq _ _ _) ?_
  generalize (lg_sl ([.ref aX] : List Value) ++ List.replicate (2 - (lg_sl ([.ref aX] : List Value)).length) Slot.unset).toArray = ls at hl ⊢
  have hl : lv_has ls 2 [(0, .ref aX)] := hl
  clear ha
  have W_12 : ∀  (n : Nat) (x1 : Int32) (mq : Int32) (mu : Int32) (mD : Nat → Int32), ∀ (H : Heap) (locs : List Loc), va_P D vwCl (W6 cI aX aN aP aJ aI aT aD ms ml mt mq mu mN mP mK mI mT mD) H → va_D A0 (W6 cI aX aN aP aJ aI aT aD ms ml mt mq mu mN mP mK mI mT mD) → va_S A0 s.heap H locs → ∀ (ls : Array Slot), lv_has ls 2 [(0, .ref aX), (1, .int x1)] → f6_isWhole_l12 ml mT n x1 mq mu mD = some (r, z_mq, z_mu, z_mD) → uW p l e wsX6_isWhole rm6_isWhole s m args below meth c D (some (.int r)) A0 (W6 cI aX aN aP aJ aI aT aD ms ml mt z_mq z_mu mN mP mK mI mT z_mD) H locs (F0 m 12 ls []) := by
    intro   n
    induction n with
    | zero =>
      intro x1 mq mu mD H locs hP hD hS ls hl hF
      rw [f6_isWhole_l12] at hF
      cases hF
    | succ n ih =>
      intro x1 mq mu mD H locs hP hD hS ls hl hF
      rw [f6_isWhole_l12] at hF
      refine lv_iload_n hx hb dX6_isWhole_12 rfl (lv_at hl 1 rfl) ?_
      refine lv_if_eq (tgt := 45) hx hb dX6_isWhole_13 (by decide) (fun c1 => ?_) (fun c1 => ?_)
      · have hF := ite_t c1 hF
        refine lv_aload_n hx hb dX6_isWhole_45 rfl (lv_at hl 0 rfl) ?_
        refine va_get (D := D) (ci := 6) (v := .int mq) (C := RX6) (T := TX6) (N := 11) hx hb hts i_X6 hown hK.1 hP 0 rfl rfl 8 (by decide) (hts _ wd_819) (fun _ h9 => h9) rfl dX6_isWhole_46 ?_
        refine lv_aload_n hx hb dX6_isWhole_49 rfl (lv_at hl 0 rfl) ?_
        refine va_get (D := D) (ci := 6) (v := .int ml) (C := RX6) (T := TX6) (N := 11) hx hb hts i_X6 hown hK.1 hP 0 rfl rfl 6 (by decide) (hts _ wd_817) (fun _ h9 => h9) rfl dX6_isWhole_50 ?_
        refine lv_icmp_ne (tgt := 60) hx hb dX6_isWhole_53 (by decide) (fun c2 => ?_) (fun c2 => ?_)
        · rw [if_neg c2] at hF
          refine lv_iconst hx hb dX6_isWhole_60 kc_iconst_0 ?_
          cases hF
          exact uretz (by decide) hx hb hr hlocks hP hS dX6_isWhole_61
        · rw [if_pos c2] at hF
          refine lv_iconst hx hb dX6_isWhole_56 kc_iconst_1 ?_
          refine lv_goto (tgt := 61) hx hb dX6_isWhole_57 (by decide) ?_
          cases hF
          exact uretz (by decide) hx hb hr hlocks hP hS dX6_isWhole_61
      · have hF := ite_f c1 hF
        refine lv_aload_n hx hb dX6_isWhole_16 rfl (lv_at hl 0 rfl) ?_
        obtain ⟨q4, u5, u6, h3, hF⟩ := bd3_at hF
        refine ucalli (ws' := (W6 cI aX aN aP aJ aI aT aD ms ml mt u5 mu mN mP mK mI mT u6)) (va_runV (As := []) (rest := []) S (K6_isOrder l D cI cZ cS cJ aX aN aP aJ aI aT aD ms ml mt mq mu mN mP mK mI mT mD q4 u5 u6 h3) (cwV 0 hts (gd_V wd_961 wd_963 wd_36 wd_67 wd_964) rfl rfl rfl hd6_isOrder ⟨Nat.le_of_ble_eq_true rfl, Nat.le_of_ble_eq_true rfl⟩) (uPreV hK hP hD (ci := 6) (q := (RX6, TX6, 11)) rfl rfl) rfl rfl hl.1 rfl (lv_room (Nat.le_of_ble_eq_true rfl)) dX6_isWhole_17 ⟨(Nat.zero_le _), (Nat.zero_le _)⟩) hS hP hD [0, 1, 2, 3, 4, 5, 6] rfl rfl rfl rfl (fun H locs hP hD hS => ?_)
        refine lv_if_ne (tgt := 25) hx hb dX6_isWhole_20 (by decide) (fun c7 => ?_) (fun c7 => ?_)
        · have hF := ite_f c7 hF
          refine lv_aload_n hx hb dX6_isWhole_25 rfl (lv_at hl 0 rfl) ?_
          refine lv_dup hx hb dX6_isWhole_26 rfl ?_
          refine va_get (D := D) (ci := 6) (v := .int mu) (C := RX6) (T := TX6) (N := 11) hx hb hts i_X6 hown hK.1 hP 0 rfl rfl 10 (by decide) (hts _ wd_821) (fun _ h9 => h9) rfl dX6_isWhole_27 ?_
          refine lv_iconst hx hb dX6_isWhole_30 kc_iconst_1 ?_
          refine lv_iadd hx hb dX6_isWhole_31 ?_
          refine va_put (D := D) (ci := 6) (v := .int (mu + (1 : Int32))) (ty := .int) (C := RX6) (T := TX6) (N := 11) hx hb hts i_X6 tyX6 tyX6_ok nmX6 hown hK.1 hP hD hS 0 rfl rfl 10 (by decide) (hts _ wd_821) (fun _ h9 => h9) rfl (by decide +kernel) rfl rfl (Nat.le_of_ble_eq_true rfl) dX6_isWhole_32 (fun H locs hP hD hS => ?_)
          have hP : va_P D vwCl (W6 cI aX aN aP aJ aI aT aD ms ml mt u5 (mu + (1 : Int32)) mN mP mK mI mT u6) H := hP
          have hD : va_D A0 (W6 cI aX aN aP aJ aI aT aD ms ml mt u5 (mu + (1 : Int32)) mN mP mK mI mT u6) := hD
          refine lv_aload_n hx hb dX6_isWhole_35 rfl (lv_at hl 0 rfl) ?_
          refine lv_bipush hx hb dX6_isWhole_36 kc_bipush_59 ?_
          obtain ⟨q9, u10, h8, hF⟩ := bd2_at hF
          refine ucalli (ws' := (W6 cI aX aN aP aJ aI aT aD ms ml mt u10 (mu + (1 : Int32)) mN mP mK mI mT u6)) (va_runV (As := [.int (59 : Int32)]) (rest := []) S (K6_takes l D cI cZ cS cJ aX aN aP aJ aI aT aD ms ml mt u5 (mu + (1 : Int32)) mN mP mK mI mT u6 (59 : Int32) q9 u10 h8) (cwV 1 hts (gd_V wd_973 wd_975 wd_39 wd_67 wd_976) rfl rfl rfl hd6_takes ⟨Nat.le_of_ble_eq_true rfl, Nat.le_of_ble_eq_true rfl⟩) (uPreV hK hP hD (ci := 6) (q := (RX6, TX6, 11)) rfl rfl) rfl rfl hl.1 rfl (lv_room (Nat.le_of_ble_eq_true rfl)) dX6_isWhole_38 ⟨(Nat.zero_le _), (Nat.zero_le _)⟩) hS hP hD [0, 1, 2, 3, 4, 5, 6] rfl rfl rfl rfl (fun H locs hP hD hS => ?_)
          refine lv_istore_n (lv' := [(1, .int q9), (0, .ref aX)]) hx hb dX6_isWhole_41 rfl hl (by decide) rfl (fun ls hl => ?_)
          refine lv_goto (tgt := 12) hx hb dX6_isWhole_42 (by decide) ?_
          exact ih q9 u10 (mu + (1 : Int32)) u6 _ _ hP hD hS ls (lv_sub hl [1, 0] rfl) hF
        · have hF := ite_t c7 hF
          refine lv_iconst hx hb dX6_isWhole_23 kc_iconst_0 ?_
          cases hF
          exact uretz (by decide) hx hb hr hlocks hP hS dX6_isWhole_24
  rw [f6_isWhole] at hF
  show uW p l e wsX6_isWhole rm6_isWhole s m args below meth c D (some (.int r)) A0 (W6 cI aX aN aP aJ aI aT aD ms ml mt z_mq z_mu mN mP mK mI mT z_mD) s.heap [] (F0 m 0 ls [])
  refine lv_aload_n hx hb dX6_isWhole_0 rfl (lv_at hl 0 rfl) ?_
  refine lv_iconst hx hb dX6_isWhole_1 kc_iconst_0 ?_
  refine va_put (D := D) (ci := 6) (v := .int (0 : Int32)) (ty := .int) (C := RX6) (T := TX6) (N := 11) hx hb hts i_X6 tyX6 tyX6_ok nmX6 hown hK.1 hP hD hS 0 rfl rfl 8 (by decide) (hts _ wd_819) (fun _ h9 => h9) rfl (by decide +kernel) rfl rfl (Nat.le_of_ble_eq_true rfl) dX6_isWhole_2 (fun H locs hP hD hS => ?_)
  have hP : va_P D vwCl (W6 cI aX aN aP aJ aI aT aD ms ml mt (0 : Int32) mu mN mP mK mI mT mD) H := hP
  have hD : va_D A0 (W6 cI aX aN aP aJ aI aT aD ms ml mt (0 : Int32) mu mN mP mK mI mT mD) := hD
  refine lv_aload_n hx hb dX6_isWhole_5 rfl (lv_at hl 0 rfl) ?_
  refine lv_iconst hx hb dX6_isWhole_6 kc_iconst_0 ?_
  refine va_put (D := D) (ci := 6) (v := .int (0 : Int32)) (ty := .int) (C := RX6) (T := TX6) (N := 11) hx hb hts i_X6 tyX6 tyX6_ok nmX6 hown hK.1 hP hD hS 0 rfl rfl 10 (by decide) (hts _ wd_821) (fun _ h9 => h9) rfl (by decide +kernel) rfl rfl (Nat.le_of_ble_eq_true rfl) dX6_isWhole_7 (fun H locs hP hD hS => ?_)
  have hP : va_P D vwCl (W6 cI aX aN aP aJ aI aT aD ms ml mt (0 : Int32) (0 : Int32) mN mP mK mI mT mD) H := hP
  have hD : va_D A0 (W6 cI aX aN aP aJ aI aT aD ms ml mt (0 : Int32) (0 : Int32) mN mP mK mI mT mD) := hD
  refine lv_iconst hx hb dX6_isWhole_10 kc_iconst_1 ?_
  refine lv_istore_n (lv' := [(1, .int (1 : Int32)), (0, .ref aX)]) hx hb dX6_isWhole_11 rfl hl (by decide) rfl (fun ls hl => ?_)
  exact W_12   fu (1 : Int32) (0 : Int32) (0 : Int32) mD _ _ hP hD hS ls (lv_sub hl [1, 0] rfl) hF
abbrev rm6_firstError : Room := { frames := 5, cells := 0, slots := 0, locals := 109 }
theorem hd6_firstError : yX6_firstError.cls = RX6 ∧ yX6_firstError.cls ≠ "java/lang/invoke/MethodHandle" ∧ yX6_firstError.cls ≠ "java/lang/invoke/VarHandle" ∧ (parseMethodDescriptor yX6_firstError.desc).map (fun d => d.parameters.length) = some 0 := by decide +kernel
set_option maxHeartbeats 4000000 in
set_option maxRecDepth 100000 in
theorem K6_firstError (l : Launch) (D : va_G) (cI cZ cS cJ : ClassId) (aX aN aP aJ aI aT aD : Nat) (ms : Int32) (ml : Int32) (mt : Int32) (mq : Int32) (mu : Int32) (mN : Nat → Int32) (mP : Nat → Int32) (mK : Nat → Int32) (mI : Nat → Int32) (mT : Nat → Int32) (mD : Nat → Int32) (r : Int32) (z_mt : Int32) (z_mq : Int32) (z_mu : Int32) (z_mD : Nat → Int32) (hF : f6_firstError ml mt mq mu mT mD = some (r, z_mt, z_mq, z_mu, z_mD)) : Met l yX6_firstError wsX6_firstError rm6_firstError (uP D (gT cI cZ cS cJ) (W6 cI aX aN aP aJ aI aT aD ms ml mt mq mu mN mP mK mI mT mD) [.ref aX]) (uQ D (some (.int r)) (uA (W6 cI aX aN aP aJ aI aT aD ms ml mt mq mu mN mP mK mI mT mD)) (W6 cI aX aN aP aJ aI aT aD ms ml z_mt z_mq z_mu mN mP mK mI mT z_mD)) 0 0 (uA (W6 cI aX aN aP aJ aI aT aD ms ml mt mq mu mN mP mK mI mT mD)) := by
  refine Met.ofW (cc := cX6_firstError) (maxL := 1) (ret := (some .int)) (by decide) rfl ?_
  intro p e s m args below meth c s₁ B hml hv
  obtain ⟨ha, hK, hP, hD0⟩ := hv
  have hx := B.exec
  have hb := B.bytes
  have hr := B.returns
  have hlocks := B.notSynchronized
  have hts : ∀ w ∈ lw_all, w.before args s = true := fun w h => atoms_spec (ws := wsX6_firstError) B.pre w (List.mem_cons_of_mem _ h)
  have hown : s.vm.findClass RX6 = some m.cls := findClass_of_methodNamed B.named
  have S : CallFix p m c cX6_firstError 1 s args lw_all RX6 := ⟨hx, hb, hml, hown, hts⟩
  have hD := hD0.own
  generalize uA (W6 cI aX aN aP aJ aI aT aD ms ml mt mq mu mN mP mK mI mT mD) = A0 at hD ⊢
  have hS : va_S A0 s.heap s.heap [] := va_S.rf
  have hl := lv_entry ([.ref aX] : List Value) (n := 1) (Nat.le_of_ble_eq_true rfl)
  refine W.eq (g2 := F0 m 0 ((lg_sl ([.ref aX] : List Value) ++ List.replicate (1 - (lg_sl ([.ref aX] : List Value)).length) Slot.unset).toArray) []) (by rw [ha]; exact lg_entry_eq _ _ _) ?_
  generalize (lg_sl ([.ref aX] : List Value) ++ List.replicate (1 - (lg_sl ([.ref aX] : List Value)).length) Slot.unset).toArray = ls at hl ⊢
  have hl : lv_has ls 1 [(0, .ref aX)] := hl
  rw [f6_firstError] at hF
  show uW p l e wsX6_firstError rm6_firstError s m args below meth c D (some (.int r)) A0 (W6 cI aX aN aP aJ aI aT aD ms ml z_mt z_mq z_mu mN mP mK mI mT z_mD) s.heap [] (F0 m 0 ls [])
  refine lv_aload_n hx hb dX6_firstError_0 rfl (lv_at hl 0 rfl) ?_
  refine lv_iconst hx hb dX6_firstError_1 kc_iconst_0 ?_
  refine va_put (D := D) (ci := 6) (v := .int (0 : Int32)) (ty := .int) (C := RX6) (T := TX6) (N := 11) hx hb hts i_X6 tyX6 tyX6_ok nmX6 hown hK.1 hP hD hS 0 rfl rfl 7 (by decide) (hts _ wd_818) (fun _ h9 => h9) rfl (by decide +kernel) rfl rfl (Nat.le_of_ble_eq_true rfl) dX6_firstError_2 (fun H locs hP hD hS => ?_)
  have hP : va_P D vwCl (W6 cI aX aN aP aJ aI aT aD ms ml (0 : Int32) mq mu mN mP mK mI mT mD) H := hP
  have hD : va_D A0 (W6 cI aX aN aP aJ aI aT aD ms ml (0 : Int32) mq mu mN mP mK mI mT mD) := hD
  refine lv_aload_n hx hb dX6_firstError_5 rfl (lv_at hl 0 rfl) ?_
  obtain ⟨q2, u3, u4, u5, h1, hF⟩ := bd4_at hF
  refine ucalli (ws' := (W6 cI aX aN aP aJ aI aT aD ms ml (0 : Int32) u3 u4 mN mP mK mI mT u5)) (va_runV (As := []) (rest := []) S (K6_isWhole l D cI cZ cS cJ aX aN aP aJ aI aT aD ms ml (0 : Int32) mq mu mN mP mK mI mT mD q2 u3 u4 u5 h1) (cwV 0 hts (gd_V wd_957 wd_959 wd_35 wd_67 wd_960) rfl rfl rfl hd6_isWhole ⟨Nat.le_of_ble_eq_true rfl, Nat.le_of_ble_eq_true rfl⟩) (uPreV hK hP hD (ci := 6) (q := (RX6, TX6, 11)) rfl rfl) rfl rfl hl.1 rfl (lv_room (Nat.le_of_ble_eq_true rfl)) dX6_firstError_6 ⟨(Nat.zero_le _), (Nat.zero_le _)⟩) hS hP hD [0, 1, 2, 3, 4, 5, 6] rfl rfl rfl rfl (fun H locs hP hD hS => ?_)
  refine lv_if_eq (tgt := 19) hx hb dX6_firstError_9 (by decide) (fun c6 => ?_) (fun c6 => ?_)
  · rw [if_pos c6] at hF
    refine lv_aload_n hx hb dX6_firstError_19 rfl (lv_at hl 0 rfl) ?_
    refine va_get (D := D) (ci := 6) (v := .int u3) (C := RX6) (T := TX6) (N := 11) hx hb hts i_X6 hown hK.1 hP 0 rfl rfl 8 (by decide) (hts _ wd_819) (fun _ h9 => h9) rfl dX6_firstError_20 ?_
    cases hF
    exact ureti hx hb hr hlocks hP hS dX6_firstError_23
  · rw [if_neg c6] at hF
    refine lv_aload_n hx hb dX6_firstError_12 rfl (lv_at hl 0 rfl) ?_
    refine va_get (D := D) (ci := 6) (v := .int ml) (C := RX6) (T := TX6) (N := 11) hx hb hts i_X6 hown hK.1 hP 0 rfl rfl 6 (by decide) (hts _ wd_817) (fun _ h9 => h9) rfl dX6_firstError_13 ?_
    refine lv_goto (tgt := 23) hx hb dX6_firstError_16 (by decide) ?_
    cases hF
    exact ureti hx hb hr hlocks hP hS dX6_firstError_23
abbrev rm6_isDone : Room := { frames := 3, cells := 0, slots := 0, locals := 70 }
theorem hd6_isDone : yX6_isDone.cls = RX6 ∧ yX6_isDone.cls ≠ "java/lang/invoke/MethodHandle" ∧ yX6_isDone.cls ≠ "java/lang/invoke/VarHandle" ∧ (parseMethodDescriptor yX6_isDone.desc).map (fun d => d.parameters.length) = some 1 := by decide +kernel
set_option maxHeartbeats 4000000 in
set_option maxRecDepth 100000 in
theorem K6_isDone (l : Launch) (D : va_G) (cI cZ cS cJ : ClassId) (aX aN aP aJ aI aT aD : Nat) (ms : Int32) (ml : Int32) (mt : Int32) (mq : Int32) (mu : Int32) (mN : Nat → Int32) (mP : Nat → Int32) (mK : Nat → Int32) (mI : Nat → Int32) (mT : Nat → Int32) (mD : Nat → Int32) (x1 : Int32) (r : Int32) (z_mN : Nat → Int32) (hF : f6_isDone mN mD x1 = some (r, z_mN)) : Met l yX6_isDone wsX6_isDone rm6_isDone (uP D (gT cI cZ cS cJ) (W6 cI aX aN aP aJ aI aT aD ms ml mt mq mu mN mP mK mI mT mD) [.ref aX, .int x1]) (uQ D (some (.int r)) (uA (W6 cI aX aN aP aJ aI aT aD ms ml mt mq mu mN mP mK mI mT mD)) (W6 cI aX aN aP aJ aI aT aD ms ml mt mq mu z_mN mP mK mI mT mD)) 0 0 (uA (W6 cI aX aN aP aJ aI aT aD ms ml mt mq mu mN mP mK mI mT mD)) := by
  refine Met.ofW (cc := cX6_isDone) (maxL := 6) (ret := (some .boolean)) (by decide) rfl ?_
  intro p e s m args below meth c s₁ B hml hv
  obtain ⟨ha, hK, hP, hD0⟩ := hv
  have hx := B.exec
  have hb := B.bytes
  have hr := B.returns
  have hlocks := B.notSynchronized
  have hts : ∀ w ∈ lw_all, w.before args s = true := fun w h => atoms_spec (ws := wsX6_isDone) B.pre w (List.mem_cons_of_mem _ h)
  have hown : s.vm.findClass RX6 = some m.cls := findClass_of_methodNamed B.named
  have S : CallFix p m c cX6_isDone 6 s args lw_all RX6 := ⟨hx, hb, hml, hown, hts⟩
  have hD := hD0.own
  generalize uA (W6 cI aX aN aP aJ aI aT aD ms ml mt mq mu mN mP mK mI mT mD) = A0 at hD ⊢
  have hS : va_S A0 s.heap s.heap [] := va_S.rf
  have hl := lv_entry ([.ref aX, .int x1] : List Value) (n := 6) (Nat.le_of_ble_eq_true rfl)
  refine W.eq (g2 := F0 m 0 ((lg_sl ([.ref aX, .int x1] : List Value) ++ List.replicate (6 - (lg_sl ([.ref aX, .int x1] : List Value)).length) Slot.unset).toArray) []) (by rw [ha]; exact lg_entry_eq _ _ _) ?_
  generalize (lg_sl ([.ref aX, .int x1] : List Value) ++ List.replicate (6 - (lg_sl ([.ref aX, .int x1] : List Value)).length) Slot.unset).toArray = ls at hl ⊢
  have hl : lv_has ls 6 [(0, .ref aX), (1, .int x1)] := hl
  rw [f6_isDone] at hF
  show uW p l e wsX6_isDone rm6_isDone s m args below meth c D (some (.int r)) A0 (W6 cI aX aN aP aJ aI aT aD ms ml mt mq mu z_mN mP mK mI mT mD) s.heap [] (F0 m 0 ls [])
  refine lv_aload_n hx hb dX6_isDone_0 rfl (lv_at hl 0 rfl) ?_
  refine va_get (D := D) (ci := 6) (v := .ref aD) (C := RX6) (T := TX6) (N := 11) hx hb hts i_X6 hown hK.1 hP 0 rfl rfl 9 (by decide) (hts _ wd_820) (fun _ h9 => h9) rfl dX6_isDone_1 ?_
  refine lv_iconst hx hb dX6_isDone_4 kc_iconst_3 ?_
  refine lv_iload_n hx hb dX6_isDone_5 rfl (lv_at hl 1 rfl) ?_
  refine lv_imul hx hb dX6_isDone_6 ?_
  obtain ⟨g1, hF⟩ := gd_at hF
  refine va_iald hx hb hK.1 hP 6 0 rfl rfl g1 dX6_isDone_7 ?_
  refine lv_istore_n (lv' := [(2, .int (mD ((3 : Int32) * x1).toNatClampNeg)), (0, .ref aX), (1, .int x1)]) hx hb dX6_isDone_8 rfl hl (by decide) rfl (fun ls hl => ?_)
  refine lv_aload_n hx hb dX6_isDone_9 rfl (lv_at hl 1 rfl) ?_
  refine va_get (D := D) (ci := 6) (v := .ref aD) (C := RX6) (T := TX6) (N := 11) hx hb hts i_X6 hown hK.1 hP 0 rfl rfl 9 (by decide) (hts _ wd_820) (fun _ h9 => h9) rfl dX6_isDone_10 ?_
  refine lv_iconst hx hb dX6_isDone_13 kc_iconst_3 ?_
  refine lv_iload_n hx hb dX6_isDone_14 rfl (lv_at hl 2 rfl) ?_
  refine lv_imul hx hb dX6_isDone_15 ?_
  refine lv_iconst hx hb dX6_isDone_16 kc_iconst_1 ?_
  refine lv_iadd hx hb dX6_isDone_17 ?_
  obtain ⟨g2, hF⟩ := gd_at hF
  refine va_iald hx hb hK.1 hP 6 0 rfl rfl g2 dX6_isDone_18 ?_
  refine lv_topi (fun t3 e4 => ?_)
  have hF := lt_at e4 hF
  refine lv_istore_n (lv' := [(3, .int t3), (2, .int (mD ((3 : Int32) * x1).toNatClampNeg)), (0, .ref aX), (1, .int x1)]) hx hb dX6_isDone_19 rfl hl (by decide) rfl (fun ls hl => ?_)
  refine lv_aload_n hx hb dX6_isDone_20 rfl (lv_at hl 2 rfl) ?_
  refine va_get (D := D) (ci := 6) (v := .ref aD) (C := RX6) (T := TX6) (N := 11) hx hb hts i_X6 hown hK.1 hP 0 rfl rfl 9 (by decide) (hts _ wd_820) (fun _ h9 => h9) rfl dX6_isDone_21 ?_
  refine lv_iconst hx hb dX6_isDone_24 kc_iconst_3 ?_
  refine lv_iload_n hx hb dX6_isDone_25 rfl (lv_at hl 3 rfl) ?_
  refine lv_imul hx hb dX6_isDone_26 ?_
  refine lv_iconst hx hb dX6_isDone_27 kc_iconst_2 ?_
  refine lv_iadd hx hb dX6_isDone_28 ?_
  obtain ⟨g5, hF⟩ := gd_at hF
  refine va_iald hx hb hK.1 hP 6 0 rfl rfl g5 dX6_isDone_29 ?_
  refine lv_topi (fun t6 e7 => ?_)
  have hF := lt_at e7 hF
  refine lv_istore (lv' := [(4, .int t6), (3, .int t3), (2, .int (mD ((3 : Int32) * x1).toNatClampNeg)), (0, .ref aX), (1, .int x1)]) hx hb dX6_isDone_30 hl (by decide) rfl (fun ls hl => ?_)
  refine lv_iload_n hx hb dX6_isDone_32 rfl (lv_at hl 2 rfl) ?_
  refine lv_bipush hx hb dX6_isDone_33 kc_bipush_99 ?_
  refine lv_icmp_ne (tgt := 54) hx hb dX6_isDone_35 (by decide) (fun c8 => ?_) (fun c8 => ?_)
  · have hF := ite_f c8 hF
    refine lv_iload_n hx hb dX6_isDone_54 rfl (lv_at hl 2 rfl) ?_
    refine lv_bipush hx hb dX6_isDone_55 kc_bipush_98 ?_
    refine lv_icmp_ne (tgt := 98) hx hb dX6_isDone_57 (by decide) (fun c9 => ?_) (fun c9 => ?_)
    · have hF := ite_f c9 hF
      refine lv_iload_n hx hb dX6_isDone_98 rfl (lv_at hl 2 rfl) ?_
      refine lv_bipush hx hb dX6_isDone_99 kc_bipush_118 ?_
      refine lv_icmp_ne (tgt := 126) hx hb dX6_isDone_101 (by decide) (fun c10 => ?_) (fun c10 => ?_)
      · have hF := ite_f c10 hF
        refine lv_aload_n hx hb dX6_isDone_126 rfl (lv_at hl 3 rfl) ?_
        refine lv_iload_n hx hb dX6_isDone_127 rfl (lv_at hl 1 rfl) ?_
        obtain ⟨q12, h11, hF⟩ := bd1_at hF
        refine rcall (va_runV (As := [.int t3]) (rest := []) S (K6_spotOf l D cI cZ cS cJ aX aN aP aJ aI aT aD ms ml mt mq mu mN mP mK mI mT mD t3 q12 h11) (cwV 1 hts (gd_V wd_903 wd_905 wd_28 wd_67 wd_906) rfl rfl rfl hd6_spotOf ⟨Nat.le_of_ble_eq_true rfl, Nat.le_of_ble_eq_true rfl⟩) (rPreV hK hP (ci := 6) (q := (RX6, TX6, 11)) rfl rfl) rfl rfl hl.1 rfl (lv_room (Nat.le_of_ble_eq_true rfl)) dX6_isDone_128 ⟨(Nat.zero_le _), (Nat.zero_le _)⟩) ?_
        refine lv_istore (lv' := [(5, .int q12), (4, .int t6), (3, .int t3), (2, .int (mD ((3 : Int32) * x1).toNatClampNeg)), (0, .ref aX), (1, .int x1)]) hx hb dX6_isDone_131 hl (by decide) rfl (fun ls hl => ?_)
        refine lv_iload hx hb dX6_isDone_133 (lv_at hl 0 rfl) ?_
        refine lv_iconst hx hb dX6_isDone_135 kc_iconst_m1 ?_
        refine lv_icmp_eq (tgt := 152) hx hb dX6_isDone_136 (by decide) (fun c13 => ?_) (fun c13 => ?_)
        · have hF := ite_t c13 hF
          refine lv_iconst hx hb dX6_isDone_152 kc_iconst_0 ?_
          cases hF
          exact uretz (by decide) hx hb hr hlocks hP hS dX6_isDone_153
        · have hF := ite_f c13 hF
          refine lv_aload_n hx hb dX6_isDone_139 rfl (lv_at hl 4 rfl) ?_
          refine va_get (D := D) (ci := 6) (v := .ref aN) (C := RX6) (T := TX6) (N := 11) hx hb hts i_X6 hown hK.1 hP 0 rfl rfl 0 (by decide) (hts _ wd_811) (fun _ h9 => h9) rfl dX6_isDone_140 ?_
          refine lv_bipush hx hb dX6_isDone_143 kc_bipush_21 ?_
          refine lv_iload hx hb dX6_isDone_145 (lv_at hl 0 rfl) ?_
          refine lv_iadd hx hb dX6_isDone_147 ?_
          obtain ⟨g14, hF⟩ := gd_at hF
          refine va_iald hx hb hK.1 hP 1 0 rfl rfl g14 dX6_isDone_148 ?_
          refine lv_if_eq (tgt := 154) hx hb dX6_isDone_149 (by decide) (fun c15 => ?_) (fun c15 => ?_)
          · have hF := ite_t c15 hF
            refine lv_aload_n hx hb dX6_isDone_154 rfl (lv_at hl 4 rfl) ?_
            refine lv_iload hx hb dX6_isDone_155 (lv_at hl 0 rfl) ?_
            refine lv_iload hx hb dX6_isDone_157 (lv_at hl 1 rfl) ?_
            obtain ⟨u17, h16, hF⟩ := bd1_at hF
            refine ucallv (ws' := (W6 cI aX aN aP aJ aI aT aD ms ml mt mq mu u17 mP mK mI mT mD)) (va_runV (As := [.int q12, .int t6]) (rest := []) S (K6_writes l D cI cZ cS cJ aX aN aP aJ aI aT aD ms ml mt mq mu mN mP mK mI mT mD q12 t6 u17 h16) (cwV 2 hts (gd_V wd_907 wd_909 wd_29 wd_67 wd_910) rfl rfl rfl hd6_writes ⟨Nat.le_of_ble_eq_true rfl, Nat.le_of_ble_eq_true rfl⟩) (uPreV hK hP hD (ci := 6) (q := (RX6, TX6, 11)) rfl rfl) rfl rfl hl.1 rfl (lv_room (Nat.le_of_ble_eq_true rfl)) dX6_isDone_159 ⟨(Nat.zero_le _), (Nat.zero_le _)⟩) hS hP hD [0, 1, 2, 3, 4, 5, 6] rfl rfl rfl rfl (fun H locs hP hD hS => ?_)
            refine lv_iconst hx hb dX6_isDone_162 kc_iconst_1 ?_
            cases hF
            exact uretz (by decide) hx hb hr hlocks hP hS dX6_isDone_163
          · have hF := ite_f c15 hF
            refine lv_iconst hx hb dX6_isDone_152 kc_iconst_0 ?_
            cases hF
            exact uretz (by decide) hx hb hr hlocks hP hS dX6_isDone_153
      · have hF := ite_t c10 hF
        refine lv_iload hx hb dX6_isDone_104 (lv_at hl 0 rfl) ?_
        refine lv_iload_n hx hb dX6_isDone_106 rfl (lv_at hl 1 rfl) ?_
        refine lv_icmp_lt (tgt := 124) hx hb dX6_isDone_107 (by decide) (fun c18 => ?_) (fun c18 => ?_)
        · have hF := ite_t c18 hF
          refine lv_iconst hx hb dX6_isDone_124 kc_iconst_0 ?_
          cases hF
          exact uretz (by decide) hx hb hr hlocks hP hS dX6_isDone_125
        · have hF := ite_f c18 hF
          refine lv_aload_n hx hb dX6_isDone_110 rfl (lv_at hl 3 rfl) ?_
          refine lv_iload_n hx hb dX6_isDone_111 rfl (lv_at hl 1 rfl) ?_
          refine lv_iload hx hb dX6_isDone_112 (lv_at hl 0 rfl) ?_
          obtain ⟨q20, u21, h19, hF⟩ := bd2_at hF
          refine ucalli (ws' := (W6 cI aX aN aP aJ aI aT aD ms ml mt mq mu u21 mP mK mI mT mD)) (va_runV (As := [.int t3, .int t6]) (rest := []) S (K6_voids l D cI cZ cS cJ aX aN aP aJ aI aT aD ms ml mt mq mu mN mP mK mI mT mD t3 t6 q20 u21 h19) (cwV 2 hts (gd_V wd_933 wd_935 wd_32 wd_67 wd_936) rfl rfl rfl hd6_voids ⟨Nat.le_of_ble_eq_true rfl, Nat.le_of_ble_eq_true rfl⟩) (uPreV hK hP hD (ci := 6) (q := (RX6, TX6, 11)) rfl rfl) rfl rfl hl.1 rfl (lv_room (Nat.le_of_ble_eq_true rfl)) dX6_isDone_114 ⟨(Nat.zero_le _), (Nat.zero_le _)⟩) hS hP hD [0, 1, 2, 3, 4, 5, 6] rfl rfl rfl rfl (fun H locs hP hD hS => ?_)
          refine lv_if_lt (tgt := 124) hx hb dX6_isDone_117 (by decide) (fun c22 => ?_) (fun c22 => ?_)
          · rw [if_pos c22] at hF
            refine lv_iconst hx hb dX6_isDone_124 kc_iconst_0 ?_
            cases hF
            exact uretz (by decide) hx hb hr hlocks hP hS dX6_isDone_125
          · rw [if_neg c22] at hF
            refine lv_iconst hx hb dX6_isDone_120 kc_iconst_1 ?_
            refine lv_goto (tgt := 125) hx hb dX6_isDone_121 (by decide) ?_
            cases hF
            exact uretz (by decide) hx hb hr hlocks hP hS dX6_isDone_125
    · have hF := ite_t c9 hF
      refine lv_iload_n hx hb dX6_isDone_60 rfl (lv_at hl 1 rfl) ?_
      refine lv_iload hx hb dX6_isDone_61 (lv_at hl 0 rfl) ?_
      refine lv_iadd hx hb dX6_isDone_63 ?_
      refine lv_iconst hx hb dX6_isDone_64 kc_iconst_1 ?_
      refine lv_isub hx hb dX6_isDone_65 ?_
      obtain ⟨q24, h23, hF⟩ := bd1_at hF
      refine rcall (va_runS (As := [.int ((t3 + t6) - (1 : Int32))]) (rest := []) S (K6_isSerial l D cI cZ cS cJ ((t3 + t6) - (1 : Int32)) q24 h23) (va_cwS 1 hts (gd_S wd_875 wd_876 wd_67 wd_877) rfl rfl rfl hdn6_isSerial ⟨Nat.le_of_ble_eq_true rfl, Nat.le_of_ble_eq_true rfl⟩) (rPreS hK (hP.sub (ws' := ([] : va_W)) [] rfl)) rfl rfl hl.1 rfl (lv_room (Nat.le_of_ble_eq_true rfl)) dX6_isDone_66 ⟨(Nat.zero_le _), (Nat.zero_le _)⟩) ?_
      refine lv_if_eq (tgt := 96) hx hb dX6_isDone_69 (by decide) (fun c25 => ?_) (fun c25 => ?_)
      · have hF := ite_t c25 hF
        refine lv_iconst hx hb dX6_isDone_96 kc_iconst_0 ?_
        cases hF
        exact uretz (by decide) hx hb hr hlocks hP hS dX6_isDone_97
      · have hF := ite_f c25 hF
        refine lv_aload_n hx hb dX6_isDone_72 rfl (lv_at hl 3 rfl) ?_
        refine lv_iload_n hx hb dX6_isDone_73 rfl (lv_at hl 1 rfl) ?_
        refine lv_iload hx hb dX6_isDone_74 (lv_at hl 0 rfl) ?_
        obtain ⟨q27, h26, hF⟩ := bd1_at hF
        refine rcall (va_runV (As := [.int t3, .int t6]) (rest := []) S (K6_canBook l D cI cZ cS cJ aX aN aP aJ aI aT aD ms ml mt mq mu mN mP mK mI mT mD t3 t6 q27 h26) (cwV 2 hts (gd_V wd_879 wd_881 wd_23 wd_67 wd_882) rfl rfl rfl hd6_canBook ⟨Nat.le_of_ble_eq_true rfl, Nat.le_of_ble_eq_true rfl⟩) (rPreV hK hP (ci := 6) (q := (RX6, TX6, 11)) rfl rfl) rfl rfl hl.1 rfl (lv_room (Nat.le_of_ble_eq_true rfl)) dX6_isDone_76 ⟨(Nat.zero_le _), (Nat.zero_le _)⟩) ?_
        refine lv_if_eq (tgt := 96) hx hb dX6_isDone_79 (by decide) (fun c28 => ?_) (fun c28 => ?_)
        · have hF := ite_t c28 hF
          refine lv_iconst hx hb dX6_isDone_96 kc_iconst_0 ?_
          cases hF
          exact uretz (by decide) hx hb hr hlocks hP hS dX6_isDone_97
        · have hF := ite_f c28 hF
          refine lv_aload_n hx hb dX6_isDone_82 rfl (lv_at hl 3 rfl) ?_
          refine lv_iload_n hx hb dX6_isDone_83 rfl (lv_at hl 1 rfl) ?_
          refine lv_iload hx hb dX6_isDone_84 (lv_at hl 0 rfl) ?_
          obtain ⟨q30, u31, h29, hF⟩ := bd2_at hF
          refine ucalli (ws' := (W6 cI aX aN aP aJ aI aT aD ms ml mt mq mu u31 mP mK mI mT mD)) (va_runV (As := [.int t3, .int t6]) (rest := []) S (K6_books l D cI cZ cS cJ aX aN aP aJ aI aT aD ms ml mt mq mu mN mP mK mI mT mD t3 t6 q30 u31 h29) (cwV 2 hts (gd_V wd_895 wd_897 wd_27 wd_67 wd_898) rfl rfl rfl hd6_books ⟨Nat.le_of_ble_eq_true rfl, Nat.le_of_ble_eq_true rfl⟩) (uPreV hK hP hD (ci := 6) (q := (RX6, TX6, 11)) rfl rfl) rfl rfl hl.1 rfl (lv_room (Nat.le_of_ble_eq_true rfl)) dX6_isDone_86 ⟨(Nat.zero_le _), (Nat.zero_le _)⟩) hS hP hD [0, 1, 2, 3, 4, 5, 6] rfl rfl rfl rfl (fun H locs hP hD hS => ?_)
          refine lv_if_lt (tgt := 96) hx hb dX6_isDone_89 (by decide) (fun c32 => ?_) (fun c32 => ?_)
          · rw [if_pos c32] at hF
            refine lv_iconst hx hb dX6_isDone_96 kc_iconst_0 ?_
            cases hF
            exact uretz (by decide) hx hb hr hlocks hP hS dX6_isDone_97
          · rw [if_neg c32] at hF
            refine lv_iconst hx hb dX6_isDone_92 kc_iconst_1 ?_
            refine lv_goto (tgt := 97) hx hb dX6_isDone_93 (by decide) ?_
            cases hF
            exact uretz (by decide) hx hb hr hlocks hP hS dX6_isDone_97
  · have hF := ite_t c8 hF
    refine lv_aload_n hx hb dX6_isDone_38 rfl (lv_at hl 3 rfl) ?_
    refine lv_iload_n hx hb dX6_isDone_39 rfl (lv_at hl 1 rfl) ?_
    refine lv_iload hx hb dX6_isDone_40 (lv_at hl 0 rfl) ?_
    obtain ⟨q34, u35, h33, hF⟩ := bd2_at hF
    refine ucalli (ws' := (W6 cI aX aN aP aJ aI aT aD ms ml mt mq mu u35 mP mK mI mT mD)) (va_runV (As := [.int t3, .int t6]) (rest := []) S (K6_cashes l D cI cZ cS cJ aX aN aP aJ aI aT aD ms ml mt mq mu mN mP mK mI mT mD t3 t6 q34 u35 h33) (cwV 2 hts (gd_V wd_925 wd_927 wd_31 wd_67 wd_928) rfl rfl rfl hd6_cashes ⟨Nat.le_of_ble_eq_true rfl, Nat.le_of_ble_eq_true rfl⟩) (uPreV hK hP hD (ci := 6) (q := (RX6, TX6, 11)) rfl rfl) rfl rfl hl.1 rfl (lv_room (Nat.le_of_ble_eq_true rfl)) dX6_isDone_42 ⟨(Nat.zero_le _), (Nat.zero_le _)⟩) hS hP hD [0, 1, 2, 3, 4, 5, 6] rfl rfl rfl rfl (fun H locs hP hD hS => ?_)
    refine lv_if_le (tgt := 52) hx hb dX6_isDone_45 (by decide) (fun c36 => ?_) (fun c36 => ?_)
    · rw [if_pos c36] at hF
      refine lv_iconst hx hb dX6_isDone_52 kc_iconst_0 ?_
      cases hF
      exact uretz (by decide) hx hb hr hlocks hP hS dX6_isDone_53
    · rw [if_neg c36] at hF
      refine lv_iconst hx hb dX6_isDone_48 kc_iconst_1 ?_
      refine lv_goto (tgt := 53) hx hb dX6_isDone_49 (by decide) ?_
      cases hF
      exact uretz (by decide) hx hb hr hlocks hP hS dX6_isDone_53
abbrev rm6_execute : Room := { frames := 5, cells := 0, slots := 0, locals := 109 }
theorem hd6_execute : yX6_execute.cls = RX6 ∧ yX6_execute.cls ≠ "java/lang/invoke/MethodHandle" ∧ yX6_execute.cls ≠ "java/lang/invoke/VarHandle" ∧ (parseMethodDescriptor yX6_execute.desc).map (fun d => d.parameters.length) = some 0 := by decide +kernel
set_option maxHeartbeats 4000000 in
set_option maxRecDepth 100000 in
theorem K6_execute (l : Launch) (D : va_G) (cI cZ cS cJ : ClassId) (aX aN aP aJ aI aT aD : Nat) (ms : Int32) (ml : Int32) (mt : Int32) (mq : Int32) (mu : Int32) (mN : Nat → Int32) (mP : Nat → Int32) (mK : Nat → Int32) (mI : Nat → Int32) (mT : Nat → Int32) (mD : Nat → Int32) (r : Int32) (z_ms : Int32) (z_ml : Int32) (z_mt : Int32) (z_mq : Int32) (z_mu : Int32) (z_mN : Nat → Int32) (z_mP : Nat → Int32) (z_mD : Nat → Int32) (hF : f6_execute ms ml mt mq mu mN mP mT mD = some (r, z_ms, z_ml, z_mt, z_mq, z_mu, z_mN, z_mP, z_mD)) : Met l yX6_execute wsX6_execute rm6_execute (uP D (gT cI cZ cS cJ) (W6 cI aX aN aP aJ aI aT aD ms ml mt mq mu mN mP mK mI mT mD) [.ref aX]) (uQ D (some (.int r)) (uA (W6 cI aX aN aP aJ aI aT aD ms ml mt mq mu mN mP mK mI mT mD)) (W6 cI aX aN aP aJ aI aT aD z_ms z_ml z_mt z_mq z_mu z_mN z_mP mK mI mT z_mD)) 0 0 (uA (W6 cI aX aN aP aJ aI aT aD ms ml mt mq mu mN mP mK mI mT mD)) := by
  refine Met.ofW (cc := cX6_execute) (maxL := 2) (ret := (some .int)) (by decide) rfl ?_
  intro p e s m args below meth c s₁ B hml hv
  obtain ⟨ha, hK, hP, hD0⟩ := hv
  have hx := B.exec
  have hb := B.bytes
  have hr := B.returns
  have hlocks := B.notSynchronized
  have hts : ∀ w ∈ lw_all, w.before args s = true := fun w h => atoms_spec (ws := wsX6_execute) B.pre w (List.mem_cons_of_mem _ h)
  have hown : s.vm.findClass RX6 = some m.cls := findClass_of_methodNamed B.named
  have S : CallFix p m c cX6_execute 2 s args lw_all RX6 := ⟨hx, hb, hml, hown, hts⟩
  have hD := hD0.own
  generalize uA (W6 cI aX aN aP aJ aI aT aD ms ml mt mq mu mN mP mK mI mT mD) = A0 at hD ⊢
  have hS : va_S A0 s.heap s.heap [] := va_S.rf
  have hl := lv_entry ([.ref aX] : List Value) (n := 2) (Nat.le_of_ble_eq_true rfl)
  refine W.eq (g2 := F0 m 0 ((lg_sl ([.ref aX] : List Value) ++ List.replicate (2 - (lg_sl ([.ref aX] : List Value)).length) Slot.unset).toArray) []) (by rw [ha]; exact lg_entry_eq _ _ _) ?_
  generalize (lg_sl ([.ref aX] : List Value) ++ List.replicate (2 - (lg_sl ([.ref aX] : List Value)).length) Slot.unset).toArray = ls at hl ⊢
  have hl : lv_has ls 2 [(0, .ref aX)] := hl
  clear ha
  have W_29 : ∀  (n : Nat) (x1 : Int32) (ms : Int32) (ml : Int32) (mt : Int32) (mq : Int32) (mu : Int32) (mN : Nat → Int32) (mP : Nat → Int32) (mD : Nat → Int32), ∀ (H : Heap) (locs : List Loc), va_P D vwCl (W6 cI aX aN aP aJ aI aT aD ms ml mt mq mu mN mP mK mI mT mD) H → va_D A0 (W6 cI aX aN aP aJ aI aT aD ms ml mt mq mu mN mP mK mI mT mD) → va_S A0 s.heap H locs → ∀ (ls : Array Slot), lv_has ls 2 [(0, .ref aX), (1, .int x1)] → f6_execute_l29 mT n x1 ms ml mt mq mu mN mP mD = some (r, z_ms, z_ml, z_mt, z_mq, z_mu, z_mN, z_mP, z_mD) → uW p l e wsX6_execute rm6_execute s m args below meth c D (some (.int r)) A0 (W6 cI aX aN aP aJ aI aT aD z_ms z_ml z_mt z_mq z_mu z_mN z_mP mK mI mT z_mD) H locs (F0 m 29 ls []) := by
    intro   n
    induction n with
    | zero =>
      intro x1 ms ml mt mq mu mN mP mD H locs hP hD hS ls hl hF
      rw [f6_execute_l29] at hF
      cases hF
    | succ n ih =>
      intro x1 ms ml mt mq mu mN mP mD H locs hP hD hS ls hl hF
      rw [f6_execute_l29] at hF
      refine lv_iload_n hx hb dX6_execute_29 rfl (lv_at hl 1 rfl) ?_
      refine lv_aload_n hx hb dX6_execute_30 rfl (lv_at hl 0 rfl) ?_
      refine va_get (D := D) (ci := 6) (v := .int mu) (C := RX6) (T := TX6) (N := 11) hx hb hts i_X6 hown hK.1 hP 0 rfl rfl 10 (by decide) (hts _ wd_821) (fun _ h9 => h9) rfl dX6_execute_31 ?_
      refine lv_icmp_ge (tgt := 51) hx hb dX6_execute_34 (by decide) (fun c13 => ?_) (fun c13 => ?_)
      · have hF := ite_t c13 hF
        refine lv_iload_n hx hb dX6_execute_51 rfl (lv_at hl 1 rfl) ?_
        cases hF
        exact ureti hx hb hr hlocks hP hS dX6_execute_52
      · have hF := ite_f c13 hF
        refine lv_aload_n hx hb dX6_execute_37 rfl (lv_at hl 0 rfl) ?_
        refine lv_iload_n hx hb dX6_execute_38 rfl (lv_at hl 1 rfl) ?_
        obtain ⟨q15, u16, h14, hF⟩ := bd2_at hF
        refine ucalli (ws' := (W6 cI aX aN aP aJ aI aT aD ms ml mt mq mu u16 mP mK mI mT mD)) (va_runV (As := [.int x1]) (rest := []) S (K6_isDone l D cI cZ cS cJ aX aN aP aJ aI aT aD ms ml mt mq mu mN mP mK mI mT mD x1 q15 u16 h14) (cwV 1 hts (gd_V wd_989 wd_991 wd_42 wd_67 wd_992) rfl rfl rfl hd6_isDone ⟨Nat.le_of_ble_eq_true rfl, Nat.le_of_ble_eq_true rfl⟩) (uPreV hK hP hD (ci := 6) (q := (RX6, TX6, 11)) rfl rfl) rfl rfl hl.1 rfl (lv_room (Nat.le_of_ble_eq_true rfl)) dX6_execute_39 ⟨(Nat.zero_le _), (Nat.zero_le _)⟩) hS hP hD [0, 1, 2, 3, 4, 5, 6] rfl rfl rfl rfl (fun H locs hP hD hS => ?_)
        refine lv_if_eq (tgt := 51) hx hb dX6_execute_42 (by decide) (fun c17 => ?_) (fun c17 => ?_)
        · have hF := ite_t c17 hF
          refine lv_iload_n hx hb dX6_execute_51 rfl (lv_at hl 1 rfl) ?_
          cases hF
          exact ureti hx hb hr hlocks hP hS dX6_execute_52
        · have hF := ite_f c17 hF
          refine lv_iinc (v := (x1 + 1)) (lv' := [(1, .int (x1 + 1)), (0, .ref aX)]) hx hb dX6_execute_45 hl (k := 1) rfl rfl (by decide) rfl (fun ls hl => ?_)
          refine lv_goto (tgt := 29) hx hb dX6_execute_48 (by decide) ?_
          exact ih (x1 + 1) ms ml mt mq mu u16 mP mD _ _ hP hD hS ls (lv_sub hl [1, 0] rfl) hF
  rw [f6_execute] at hF
  show uW p l e wsX6_execute rm6_execute s m args below meth c D (some (.int r)) A0 (W6 cI aX aN aP aJ aI aT aD z_ms z_ml z_mt z_mq z_mu z_mN z_mP mK mI mT z_mD) s.heap [] (F0 m 0 ls [])
  refine lv_aload_n hx hb dX6_execute_0 rfl (lv_at hl 0 rfl) ?_
  refine lv_iconst hx hb dX6_execute_1 kc_iconst_0 ?_
  refine va_put (D := D) (ci := 6) (v := .int (0 : Int32)) (ty := .int) (C := RX6) (T := TX6) (N := 11) hx hb hts i_X6 tyX6 tyX6_ok nmX6 hown hK.1 hP hD hS 0 rfl rfl 7 (by decide) (hts _ wd_818) (fun _ h9 => h9) rfl (by decide +kernel) rfl rfl (Nat.le_of_ble_eq_true rfl) dX6_execute_2 (fun H locs hP hD hS => ?_)
  have hP : va_P D vwCl (W6 cI aX aN aP aJ aI aT aD ms ml (0 : Int32) mq mu mN mP mK mI mT mD) H := hP
  have hD : va_D A0 (W6 cI aX aN aP aJ aI aT aD ms ml (0 : Int32) mq mu mN mP mK mI mT mD) := hD
  refine lv_aload_n hx hb dX6_execute_5 rfl (lv_at hl 0 rfl) ?_
  obtain ⟨q2, u3, u4, u5, h1, hF⟩ := bd4_at hF
  refine ucalli (ws' := (W6 cI aX aN aP aJ aI aT aD ms ml (0 : Int32) u3 u4 mN mP mK mI mT u5)) (va_runV (As := []) (rest := []) S (K6_isWhole l D cI cZ cS cJ aX aN aP aJ aI aT aD ms ml (0 : Int32) mq mu mN mP mK mI mT mD q2 u3 u4 u5 h1) (cwV 0 hts (gd_V wd_957 wd_959 wd_35 wd_67 wd_960) rfl rfl rfl hd6_isWhole ⟨Nat.le_of_ble_eq_true rfl, Nat.le_of_ble_eq_true rfl⟩) (uPreV hK hP hD (ci := 6) (q := (RX6, TX6, 11)) rfl rfl) rfl rfl hl.1 rfl (lv_room (Nat.le_of_ble_eq_true rfl)) dX6_execute_6 ⟨(Nat.zero_le _), (Nat.zero_le _)⟩) hS hP hD [0, 1, 2, 3, 4, 5, 6] rfl rfl rfl rfl (fun H locs hP hD hS => ?_)
  refine lv_if_ne (tgt := 18) hx hb dX6_execute_9 (by decide) (fun c6 => ?_) (fun c6 => ?_)
  · have hF := ite_f c6 hF
    refine lv_aload_n hx hb dX6_execute_18 rfl (lv_at hl 0 rfl) ?_
    obtain ⟨u8, u9, h7, hF⟩ := bd2_at hF
    refine ucallv (ws' := (W6 cI aX aN aP aJ aI aT aD u8 ml (0 : Int32) u3 u4 mN u9 mK mI mT u5)) (va_runV (As := []) (rest := []) S (K6_saves l D cI cZ cS cJ aX aN aP aJ aI aT aD ms ml (0 : Int32) u3 u4 mN mP mK mI mT u5 u8 u9 h7) (cwV 0 hts (gd_V wd_860 wd_862 wd_22 wd_67 wd_863) rfl rfl rfl hd6_saves ⟨Nat.le_of_ble_eq_true rfl, Nat.le_of_ble_eq_true rfl⟩) (uPreV hK hP hD (ci := 6) (q := (RX6, TX6, 11)) rfl rfl) rfl rfl hl.1 rfl (lv_room (Nat.le_of_ble_eq_true rfl)) dX6_execute_19 ⟨(Nat.zero_le _), (Nat.zero_le _)⟩) hS hP hD [0, 1, 2, 3, 4, 5, 6] rfl rfl rfl rfl (fun H locs hP hD hS => ?_)
    refine lv_aload_n hx hb dX6_execute_22 rfl (lv_at hl 0 rfl) ?_
    refine lv_iconst hx hb dX6_execute_23 kc_iconst_0 ?_
    refine va_put (D := D) (ci := 6) (v := .int (0 : Int32)) (ty := .int) (C := RX6) (T := TX6) (N := 11) hx hb hts i_X6 tyX6 tyX6_ok nmX6 hown hK.1 hP hD hS 0 rfl rfl 6 (by decide) (hts _ wd_817) (fun _ h9 => h9) rfl (by decide +kernel) rfl rfl (Nat.le_of_ble_eq_true rfl) dX6_execute_24 (fun H locs hP hD hS => ?_)
    have hP : va_P D vwCl (W6 cI aX aN aP aJ aI aT aD u8 (0 : Int32) (0 : Int32) u3 u4 mN u9 mK mI mT u5) H := hP
    have hD : va_D A0 (W6 cI aX aN aP aJ aI aT aD u8 (0 : Int32) (0 : Int32) u3 u4 mN u9 mK mI mT u5) := hD
    refine lv_iconst hx hb dX6_execute_27 kc_iconst_0 ?_
    refine lv_istore_n (lv' := [(1, .int (0 : Int32)), (0, .ref aX)]) hx hb dX6_execute_28 rfl hl (by decide) rfl (fun ls hl => ?_)
    exact W_29   fu (0 : Int32) u8 (0 : Int32) (0 : Int32) u3 u4 mN u9 u5 _ _ hP hD hS ls (lv_sub hl [1, 0] rfl) hF
  · have hF := ite_t c6 hF
    refine lv_aload_n hx hb dX6_execute_12 rfl (lv_at hl 0 rfl) ?_
    refine lv_iconst hx hb dX6_execute_13 kc_iconst_1 ?_
    obtain ⟨q11, u12, h10, hF⟩ := bd2_at hF
    refine ucalli (ws' := (W6 cI aX aN aP aJ aI aT aD ms ml u12 u3 u4 mN mP mK mI mT u5)) (va_runV (As := [.int (1 : Int32)]) (rest := []) S (K6_refuses l D cI cZ cS cJ aX aN aP aJ aI aT aD ms ml (0 : Int32) u3 u4 mN mP mK mI mT u5 (1 : Int32) q11 u12 h10) (cwV 1 hts (gd_V wd_856 wd_858 wd_21 wd_67 wd_859) rfl rfl rfl hd6_refuses ⟨Nat.le_of_ble_eq_true rfl, Nat.le_of_ble_eq_true rfl⟩) (uPreV hK hP hD (ci := 6) (q := (RX6, TX6, 11)) rfl rfl) rfl rfl hl.1 rfl (lv_room (Nat.le_of_ble_eq_true rfl)) dX6_execute_14 ⟨(Nat.zero_le _), (Nat.zero_le _)⟩) hS hP hD [0, 1, 2, 3, 4, 5, 6] rfl rfl rfl rfl (fun H locs hP hD hS => ?_)
    cases hF
    exact ureti hx hb hr hlocks hP hS dX6_execute_17
abbrev rm6_undo : Room := { frames := 1, cells := 0, slots := 0, locals := 24 }
theorem hd6_undo : yX6_undo.cls = RX6 ∧ yX6_undo.cls ≠ "java/lang/invoke/MethodHandle" ∧ yX6_undo.cls ≠ "java/lang/invoke/VarHandle" ∧ (parseMethodDescriptor yX6_undo.desc).map (fun d => d.parameters.length) = some 0 := by decide +kernel
set_option maxHeartbeats 4000000 in
set_option maxRecDepth 100000 in
theorem K6_undo (l : Launch) (D : va_G) (cI cZ cS cJ : ClassId) (aX aN aP aJ aI aT aD : Nat) (ms : Int32) (ml : Int32) (mt : Int32) (mq : Int32) (mu : Int32) (mN : Nat → Int32) (mP : Nat → Int32) (mK : Nat → Int32) (mI : Nat → Int32) (mT : Nat → Int32) (mD : Nat → Int32) (r : Int32) (z_ms : Int32) (z_mt : Int32) (z_mN : Nat → Int32) (hF : f6_undo ms mt mN mP = some (r, z_ms, z_mt, z_mN)) : Met l yX6_undo wsX6_undo rm6_undo (uP D (gT cI cZ cS cJ) (W6 cI aX aN aP aJ aI aT aD ms ml mt mq mu mN mP mK mI mT mD) [.ref aX]) (uQ D (some (.int r)) (uA (W6 cI aX aN aP aJ aI aT aD ms ml mt mq mu mN mP mK mI mT mD)) (W6 cI aX aN aP aJ aI aT aD z_ms ml z_mt mq mu z_mN mP mK mI mT mD)) 0 0 (uA (W6 cI aX aN aP aJ aI aT aD ms ml mt mq mu mN mP mK mI mT mD)) := by
  refine Met.ofW (cc := cX6_undo) (maxL := 1) (ret := (some .int)) (by decide) rfl ?_
  intro p e s m args below meth c s₁ B hml hv
  obtain ⟨ha, hK, hP, hD0⟩ := hv
  have hx := B.exec
  have hb := B.bytes
  have hr := B.returns
  have hlocks := B.notSynchronized
  have hts : ∀ w ∈ lw_all, w.before args s = true := fun w h => atoms_spec (ws := wsX6_undo) B.pre w (List.mem_cons_of_mem _ h)
  have hown : s.vm.findClass RX6 = some m.cls := findClass_of_methodNamed B.named
  have S : CallFix p m c cX6_undo 1 s args lw_all RX6 := ⟨hx, hb, hml, hown, hts⟩
  have hD := hD0.own
  generalize uA (W6 cI aX aN aP aJ aI aT aD ms ml mt mq mu mN mP mK mI mT mD) = A0 at hD ⊢
  have hS : va_S A0 s.heap s.heap [] := va_S.rf
  have hl := lv_entry ([.ref aX] : List Value) (n := 1) (Nat.le_of_ble_eq_true rfl)
  refine W.eq (g2 := F0 m 0 ((lg_sl ([.ref aX] : List Value) ++ List.replicate (1 - (lg_sl ([.ref aX] : List Value)).length) Slot.unset).toArray) []) (by rw [ha]; exact lg_entry_eq _ _ _) ?_
  generalize (lg_sl ([.ref aX] : List Value) ++ List.replicate (1 - (lg_sl ([.ref aX] : List Value)).length) Slot.unset).toArray = ls at hl ⊢
  have hl : lv_has ls 1 [(0, .ref aX)] := hl
  rw [f6_undo] at hF
  show uW p l e wsX6_undo rm6_undo s m args below meth c D (some (.int r)) A0 (W6 cI aX aN aP aJ aI aT aD z_ms ml z_mt mq mu z_mN mP mK mI mT mD) s.heap [] (F0 m 0 ls [])
  refine lv_aload_n hx hb dX6_undo_0 rfl (lv_at hl 0 rfl) ?_
  refine lv_iconst hx hb dX6_undo_1 kc_iconst_0 ?_
  refine va_put (D := D) (ci := 6) (v := .int (0 : Int32)) (ty := .int) (C := RX6) (T := TX6) (N := 11) hx hb hts i_X6 tyX6 tyX6_ok nmX6 hown hK.1 hP hD hS 0 rfl rfl 7 (by decide) (hts _ wd_818) (fun _ h9 => h9) rfl (by decide +kernel) rfl rfl (Nat.le_of_ble_eq_true rfl) dX6_undo_2 (fun H locs hP hD hS => ?_)
  have hP : va_P D vwCl (W6 cI aX aN aP aJ aI aT aD ms ml (0 : Int32) mq mu mN mP mK mI mT mD) H := hP
  have hD : va_D A0 (W6 cI aX aN aP aJ aI aT aD ms ml (0 : Int32) mq mu mN mP mK mI mT mD) := hD
  refine lv_aload_n hx hb dX6_undo_5 rfl (lv_at hl 0 rfl) ?_
  refine va_get (D := D) (ci := 6) (v := .int ms) (C := RX6) (T := TX6) (N := 11) hx hb hts i_X6 hown hK.1 hP 0 rfl rfl 2 (by decide) (hts _ wd_813) (fun _ h9 => h9) rfl dX6_undo_6 ?_
  refine lv_if_ne (tgt := 18) hx hb dX6_undo_9 (by decide) (fun c1 => ?_) (fun c1 => ?_)
  · have hF := ite_f c1 hF
    refine lv_aload_n hx hb dX6_undo_18 rfl (lv_at hl 0 rfl) ?_
    refine lv_dup hx hb dX6_undo_19 rfl ?_
    refine va_get (D := D) (ci := 6) (v := .int ms) (C := RX6) (T := TX6) (N := 11) hx hb hts i_X6 hown hK.1 hP 0 rfl rfl 2 (by decide) (hts _ wd_813) (fun _ h9 => h9) rfl dX6_undo_20 ?_
    refine lv_iconst hx hb dX6_undo_23 kc_iconst_1 ?_
    refine lv_isub hx hb dX6_undo_24 ?_
    refine va_put (D := D) (ci := 6) (v := .int (ms - (1 : Int32))) (ty := .int) (C := RX6) (T := TX6) (N := 11) hx hb hts i_X6 tyX6 tyX6_ok nmX6 hown hK.1 hP hD hS 0 rfl rfl 2 (by decide) (hts _ wd_813) (fun _ h9 => h9) rfl (by decide +kernel) rfl rfl (Nat.le_of_ble_eq_true rfl) dX6_undo_25 (fun H locs hP hD hS => ?_)
    have hP : va_P D vwCl (W6 cI aX aN aP aJ aI aT aD (ms - (1 : Int32)) ml (0 : Int32) mq mu mN mP mK mI mT mD) H := hP
    have hD : va_D A0 (W6 cI aX aN aP aJ aI aT aD (ms - (1 : Int32)) ml (0 : Int32) mq mu mN mP mK mI mT mD) := hD
    refine lv_aload_n hx hb dX6_undo_28 rfl (lv_at hl 0 rfl) ?_
    refine va_get (D := D) (ci := 6) (v := .ref aP) (C := RX6) (T := TX6) (N := 11) hx hb hts i_X6 hown hK.1 hP 0 rfl rfl 1 (by decide) (hts _ wd_812) (fun _ h9 => h9) rfl dX6_undo_29 ?_
    refine lv_sipush hx hb dX6_undo_32 kc_sipush_501 ?_
    refine lv_aload_n hx hb dX6_undo_35 rfl (lv_at hl 0 rfl) ?_
    refine va_get (D := D) (ci := 6) (v := .int (ms - (1 : Int32))) (C := RX6) (T := TX6) (N := 11) hx hb hts i_X6 hown hK.1 hP 0 rfl rfl 2 (by decide) (hts _ wd_813) (fun _ h9 => h9) rfl dX6_undo_36 ?_
    refine lv_imul hx hb dX6_undo_39 ?_
    refine lv_aload_n hx hb dX6_undo_40 rfl (lv_at hl 0 rfl) ?_
    refine va_get (D := D) (ci := 6) (v := .ref aN) (C := RX6) (T := TX6) (N := 11) hx hb hts i_X6 hown hK.1 hP 0 rfl rfl 0 (by decide) (hts _ wd_811) (fun _ h9 => h9) rfl dX6_undo_41 ?_
    refine lv_iconst hx hb dX6_undo_44 kc_iconst_0 ?_
    obtain ⟨u3, h2, hF⟩ := bd1_at hF
    refine ucallv (ws' := (W6 cI aX aN aP aJ aI aT aD (ms - (1 : Int32)) ml (0 : Int32) mq mu u3 mP mK mI mT mD)) (va_runS (As := [.ref aP, .int ((501 : Int32) * (ms - (1 : Int32))), .ref aN, .int (0 : Int32)]) (rest := []) S (K6_lays l D cI cZ cS cJ aP aN 3006 501 mP mN ((501 : Int32) * (ms - (1 : Int32))) (0 : Int32) u3 h2) (va_cwS 4 hts (gd_S wd_864 wd_865 wd_67 wd_866) rfl rfl rfl hdn6_lays ⟨Nat.le_of_ble_eq_true rfl, Nat.le_of_ble_eq_true rfl⟩) (uPreS hK (hP.sub (ws' := (WC cI aP aN 3006 501 mP mN)) [2, 1] rfl) (hD.sub (ws' := (WC cI aP aN 3006 501 mP mN)) [2, 1] (by decide) rfl)) rfl rfl hl.1 rfl (lv_room (Nat.le_of_ble_eq_true rfl)) dX6_undo_45 ⟨(Nat.zero_le _), (Nat.zero_le _)⟩) hS hP hD [2, 1] rfl rfl rfl rfl (fun H locs hP hD hS => ?_)
    refine lv_aload_n hx hb dX6_undo_48 rfl (lv_at hl 0 rfl) ?_
    refine va_get (D := D) (ci := 6) (v := .int (ms - (1 : Int32))) (C := RX6) (T := TX6) (N := 11) hx hb hts i_X6 hown hK.1 hP 0 rfl rfl 2 (by decide) (hts _ wd_813) (fun _ h9 => h9) rfl dX6_undo_49 ?_
    cases hF
    exact ureti hx hb hr hlocks hP hS dX6_undo_52
  · have hF := ite_t c1 hF
    refine lv_aload_n hx hb dX6_undo_12 rfl (lv_at hl 0 rfl) ?_
    refine lv_iconst hx hb dX6_undo_13 kc_iconst_1 ?_
    obtain ⟨q5, u6, h4, hF⟩ := bd2_at hF
    refine ucalli (ws' := (W6 cI aX aN aP aJ aI aT aD ms ml u6 mq mu mN mP mK mI mT mD)) (va_runV (As := [.int (1 : Int32)]) (rest := []) S (K6_refuses l D cI cZ cS cJ aX aN aP aJ aI aT aD ms ml (0 : Int32) mq mu mN mP mK mI mT mD (1 : Int32) q5 u6 h4) (cwV 1 hts (gd_V wd_856 wd_858 wd_21 wd_67 wd_859) rfl rfl rfl hd6_refuses ⟨Nat.le_of_ble_eq_true rfl, Nat.le_of_ble_eq_true rfl⟩) (uPreV hK hP hD (ci := 6) (q := (RX6, TX6, 11)) rfl rfl) rfl rfl hl.1 rfl (lv_room (Nat.le_of_ble_eq_true rfl)) dX6_undo_14 ⟨(Nat.zero_le _), (Nat.zero_le _)⟩) hS hP hD [0, 1, 2, 3, 4, 5, 6] rfl rfl rfl rfl (fun H locs hP hD hS => ?_)
    cases hF
    exact ureti hx hb hr hlocks hP hS dX6_undo_17
abbrev rm6_keep : Room := { frames := 1, cells := 0, slots := 0, locals := 24 }
theorem hd6_keep : yX6_keep.cls = RX6 ∧ yX6_keep.cls ≠ "java/lang/invoke/MethodHandle" ∧ yX6_keep.cls ≠ "java/lang/invoke/VarHandle" ∧ (parseMethodDescriptor yX6_keep.desc).map (fun d => d.parameters.length) = some 1 := by decide +kernel
set_option maxHeartbeats 4000000 in
set_option maxRecDepth 100000 in
theorem K6_keep (l : Launch) (D : va_G) (cI cZ cS cJ : ClassId) (aX aN aP aJ aI aT aD : Nat) (ms : Int32) (ml : Int32) (mt : Int32) (mq : Int32) (mu : Int32) (mN : Nat → Int32) (mP : Nat → Int32) (mK : Nat → Int32) (mI : Nat → Int32) (mT : Nat → Int32) (mD : Nat → Int32) (x1 : Int32) (r : Int32) (z_mt : Int32) (z_mK : Nat → Int32) (z_mI : Nat → Int32) (hF : f6_keep mt mN mK mI x1 = some (r, z_mt, z_mK, z_mI)) : Met l yX6_keep wsX6_keep rm6_keep (uP D (gT cI cZ cS cJ) (W6 cI aX aN aP aJ aI aT aD ms ml mt mq mu mN mP mK mI mT mD) [.ref aX, .int x1]) (uQ D (some (.int r)) (uA (W6 cI aX aN aP aJ aI aT aD ms ml mt mq mu mN mP mK mI mT mD)) (W6 cI aX aN aP aJ aI aT aD ms ml z_mt mq mu mN mP z_mK z_mI mT mD)) 0 0 (uA (W6 cI aX aN aP aJ aI aT aD ms ml mt mq mu mN mP mK mI mT mD)) := by
  refine Met.ofW (cc := cX6_keep) (maxL := 2) (ret := (some .int)) (by decide) rfl ?_
  intro p e s m args below meth c s₁ B hml hv
  obtain ⟨ha, hK, hP, hD0⟩ := hv
  have hx := B.exec
  have hb := B.bytes
  have hr := B.returns
  have hlocks := B.notSynchronized
  have hts : ∀ w ∈ lw_all, w.before args s = true := fun w h => atoms_spec (ws := wsX6_keep) B.pre w (List.mem_cons_of_mem _ h)
  have hown : s.vm.findClass RX6 = some m.cls := findClass_of_methodNamed B.named
  have S : CallFix p m c cX6_keep 2 s args lw_all RX6 := ⟨hx, hb, hml, hown, hts⟩
  have hD := hD0.own
  generalize uA (W6 cI aX aN aP aJ aI aT aD ms ml mt mq mu mN mP mK mI mT mD) = A0 at hD ⊢
  have hS : va_S A0 s.heap s.heap [] := va_S.rf
  have hl := lv_entry ([.ref aX, .int x1] : List Value) (n := 2) (Nat.le_of_ble_eq_true rfl)
  refine W.eq (g2 := F0 m 0 ((lg_sl ([.ref aX, .int x1] : List Value) ++ List.replicate (2 - (lg_sl ([.ref aX, .int x1] : List Value)).length) Slot.unset).toArray) []) (by rw [ha]; exact lg_entry_eq _ _ _) ?_
  generalize (lg_sl ([.ref aX, .int x1] : List Value) ++ List.replicate (2 - (lg_sl ([.ref aX, .int x1] : List Value)).length) Slot.unset).toArray = ls at hl ⊢
  have hl : lv_has ls 2 [(0, .ref aX), (1, .int x1)] := hl
  rw [f6_keep] at hF
  show uW p l e wsX6_keep rm6_keep s m args below meth c D (some (.int r)) A0 (W6 cI aX aN aP aJ aI aT aD ms ml z_mt mq mu mN mP z_mK z_mI mT mD) s.heap [] (F0 m 0 ls [])
  refine lv_aload_n hx hb dX6_keep_0 rfl (lv_at hl 0 rfl) ?_
  refine lv_iconst hx hb dX6_keep_1 kc_iconst_0 ?_
  refine va_put (D := D) (ci := 6) (v := .int (0 : Int32)) (ty := .int) (C := RX6) (T := TX6) (N := 11) hx hb hts i_X6 tyX6 tyX6_ok nmX6 hown hK.1 hP hD hS 0 rfl rfl 7 (by decide) (hts _ wd_818) (fun _ h9 => h9) rfl (by decide +kernel) rfl rfl (Nat.le_of_ble_eq_true rfl) dX6_keep_2 (fun H locs hP hD hS => ?_)
  have hP : va_P D vwCl (W6 cI aX aN aP aJ aI aT aD ms ml (0 : Int32) mq mu mN mP mK mI mT mD) H := hP
  have hD : va_D A0 (W6 cI aX aN aP aJ aI aT aD ms ml (0 : Int32) mq mu mN mP mK mI mT mD) := hD
  refine lv_iload_n hx hb dX6_keep_5 rfl (lv_at hl 1 rfl) ?_
  refine lv_iconst hx hb dX6_keep_6 kc_iconst_0 ?_
  refine lv_iconst hx hb dX6_keep_7 kc_iconst_1 ?_
  obtain ⟨q2, h1, hF⟩ := bd1_at hF
  refine rcall (va_runS (As := [.int x1, .int (0 : Int32), .int (1 : Int32)]) (rest := []) S (K6_in l D cI cZ cS cJ x1 (0 : Int32) (1 : Int32) q2 h1) (va_cwS 3 hts (gd_S wd_853 wd_854 wd_67 wd_855) rfl rfl rfl hdn6_in ⟨Nat.le_of_ble_eq_true rfl, Nat.le_of_ble_eq_true rfl⟩) (rPreS hK (hP.sub (ws' := ([] : va_W)) [] rfl)) rfl rfl hl.1 rfl (lv_room (Nat.le_of_ble_eq_true rfl)) dX6_keep_8 ⟨(Nat.zero_le _), (Nat.zero_le _)⟩) ?_
  refine lv_if_ne (tgt := 20) hx hb dX6_keep_11 (by decide) (fun c3 => ?_) (fun c3 => ?_)
  · have hF := ite_f c3 hF
    refine lv_aload_n hx hb dX6_keep_20 rfl (lv_at hl 0 rfl) ?_
    refine va_get (D := D) (ci := 6) (v := .ref aN) (C := RX6) (T := TX6) (N := 11) hx hb hts i_X6 hown hK.1 hP 0 rfl rfl 0 (by decide) (hts _ wd_811) (fun _ h9 => h9) rfl dX6_keep_21 ?_
    refine lv_iconst hx hb dX6_keep_24 kc_iconst_0 ?_
    refine lv_aload_n hx hb dX6_keep_25 rfl (lv_at hl 0 rfl) ?_
    refine va_get (D := D) (ci := 6) (v := .ref aJ) (C := RX6) (T := TX6) (N := 11) hx hb hts i_X6 hown hK.1 hP 0 rfl rfl 3 (by decide) (hts _ wd_814) (fun _ h9 => h9) rfl dX6_keep_26 ?_
    refine lv_sipush hx hb dX6_keep_29 kc_sipush_501 ?_
    refine lv_iload_n hx hb dX6_keep_32 rfl (lv_at hl 1 rfl) ?_
    refine lv_imul hx hb dX6_keep_33 ?_
    obtain ⟨u5, h4, hF⟩ := bd1_at hF
    refine ucallv (ws' := (W6 cI aX aN aP aJ aI aT aD ms ml (0 : Int32) mq mu mN mP u5 mI mT mD)) (va_runS (As := [.ref aN, .int (0 : Int32), .ref aJ, .int ((501 : Int32) * x1)]) (rest := []) S (K6_lays l D cI cZ cS cJ aN aJ 501 1002 mN mK (0 : Int32) ((501 : Int32) * x1) u5 h4) (va_cwS 4 hts (gd_S wd_864 wd_865 wd_67 wd_866) rfl rfl rfl hdn6_lays ⟨Nat.le_of_ble_eq_true rfl, Nat.le_of_ble_eq_true rfl⟩) (uPreS hK (hP.sub (ws' := (WC cI aN aJ 501 1002 mN mK)) [1, 3] rfl) (hD.sub (ws' := (WC cI aN aJ 501 1002 mN mK)) [1, 3] (by decide) rfl)) rfl rfl hl.1 rfl (lv_room (Nat.le_of_ble_eq_true rfl)) dX6_keep_34 ⟨(Nat.zero_le _), (Nat.zero_le _)⟩) hS hP hD [1, 3] rfl rfl rfl rfl (fun H locs hP hD hS => ?_)
    refine lv_aload_n hx hb dX6_keep_37 rfl (lv_at hl 0 rfl) ?_
    refine va_get (D := D) (ci := 6) (v := .ref aI) (C := RX6) (T := TX6) (N := 11) hx hb hts i_X6 hown hK.1 hP 0 rfl rfl 4 (by decide) (hts _ wd_815) (fun _ h9 => h9) rfl dX6_keep_38 ?_
    refine lv_iload_n hx hb dX6_keep_41 rfl (lv_at hl 1 rfl) ?_
    refine lv_iconst hx hb dX6_keep_42 kc_iconst_1 ?_
    obtain ⟨g6, hF⟩ := gd_at hF
    refine va_iast hx hb hK.1 hP hD hS 4 0 rfl rfl g6 dX6_keep_43 (fun H locs hP hD hS => ?_)
    have hP : va_P D vwCl (W6 cI aX aN aP aJ aI aT aD ms ml (0 : Int32) mq mu mN mP u5 (upd mI x1.toNatClampNeg (1 : Int32)) mT mD) H := hP
    have hD : va_D A0 (W6 cI aX aN aP aJ aI aT aD ms ml (0 : Int32) mq mu mN mP u5 (upd mI x1.toNatClampNeg (1 : Int32)) mT mD) := hD
    refine lv_aload_n hx hb dX6_keep_44 rfl (lv_at hl 0 rfl) ?_
    refine va_get (D := D) (ci := 6) (v := .ref aN) (C := RX6) (T := TX6) (N := 11) hx hb hts i_X6 hown hK.1 hP 0 rfl rfl 0 (by decide) (hts _ wd_811) (fun _ h9 => h9) rfl dX6_keep_45 ?_
    refine lv_iconst hx hb dX6_keep_48 kc_iconst_0 ?_
    refine va_iald hx hb hK.1 hP 1 0 rfl rfl (inb_lit (by decide)) dX6_keep_49 ?_
    cases hF
    exact ureti hx hb hr hlocks hP hS dX6_keep_50
  · have hF := ite_t c3 hF
    refine lv_aload_n hx hb dX6_keep_14 rfl (lv_at hl 0 rfl) ?_
    refine lv_iconst hx hb dX6_keep_15 kc_iconst_1 ?_
    obtain ⟨q8, u9, h7, hF⟩ := bd2_at hF
    refine ucalli (ws' := (W6 cI aX aN aP aJ aI aT aD ms ml u9 mq mu mN mP mK mI mT mD)) (va_runV (As := [.int (1 : Int32)]) (rest := []) S (K6_refuses l D cI cZ cS cJ aX aN aP aJ aI aT aD ms ml (0 : Int32) mq mu mN mP mK mI mT mD (1 : Int32) q8 u9 h7) (cwV 1 hts (gd_V wd_856 wd_858 wd_21 wd_67 wd_859) rfl rfl rfl hd6_refuses ⟨Nat.le_of_ble_eq_true rfl, Nat.le_of_ble_eq_true rfl⟩) (uPreV hK hP hD (ci := 6) (q := (RX6, TX6, 11)) rfl rfl) rfl rfl hl.1 rfl (lv_room (Nat.le_of_ble_eq_true rfl)) dX6_keep_16 ⟨(Nat.zero_le _), (Nat.zero_le _)⟩) hS hP hD [0, 1, 2, 3, 4, 5, 6] rfl rfl rfl rfl (fun H locs hP hD hS => ?_)
    cases hF
    exact ureti hx hb hr hlocks hP hS dX6_keep_19
abbrev rm6_goBack : Room := { frames := 2, cells := 0, slots := 0, locals := 45 }
theorem hd6_goBack : yX6_goBack.cls = RX6 ∧ yX6_goBack.cls ≠ "java/lang/invoke/MethodHandle" ∧ yX6_goBack.cls ≠ "java/lang/invoke/VarHandle" ∧ (parseMethodDescriptor yX6_goBack.desc).map (fun d => d.parameters.length) = some 1 := by decide +kernel
set_option maxHeartbeats 4000000 in
set_option maxRecDepth 100000 in
theorem K6_goBack (l : Launch) (D : va_G) (cI cZ cS cJ : ClassId) (aX aN aP aJ aI aT aD : Nat) (ms : Int32) (ml : Int32) (mt : Int32) (mq : Int32) (mu : Int32) (mN : Nat → Int32) (mP : Nat → Int32) (mK : Nat → Int32) (mI : Nat → Int32) (mT : Nat → Int32) (mD : Nat → Int32) (x1 : Int32) (r : Int32) (z_ms : Int32) (z_mt : Int32) (z_mN : Nat → Int32) (z_mP : Nat → Int32) (hF : f6_goBack ms mt mN mP mK mI x1 = some (r, z_ms, z_mt, z_mN, z_mP)) : Met l yX6_goBack wsX6_goBack rm6_goBack (uP D (gT cI cZ cS cJ) (W6 cI aX aN aP aJ aI aT aD ms ml mt mq mu mN mP mK mI mT mD) [.ref aX, .int x1]) (uQ D (some (.int r)) (uA (W6 cI aX aN aP aJ aI aT aD ms ml mt mq mu mN mP mK mI mT mD)) (W6 cI aX aN aP aJ aI aT aD z_ms ml z_mt mq mu z_mN z_mP mK mI mT mD)) 0 0 (uA (W6 cI aX aN aP aJ aI aT aD ms ml mt mq mu mN mP mK mI mT mD)) := by
  refine Met.ofW (cc := cX6_goBack) (maxL := 2) (ret := (some .int)) (by decide) rfl ?_
  intro p e s m args below meth c s₁ B hml hv
  obtain ⟨ha, hK, hP, hD0⟩ := hv
  have hx := B.exec
  have hb := B.bytes
  have hr := B.returns
  have hlocks := B.notSynchronized
  have hts : ∀ w ∈ lw_all, w.before args s = true := fun w h => atoms_spec (ws := wsX6_goBack) B.pre w (List.mem_cons_of_mem _ h)
  have hown : s.vm.findClass RX6 = some m.cls := findClass_of_methodNamed B.named
  have S : CallFix p m c cX6_goBack 2 s args lw_all RX6 := ⟨hx, hb, hml, hown, hts⟩
  have hD := hD0.own
  generalize uA (W6 cI aX aN aP aJ aI aT aD ms ml mt mq mu mN mP mK mI mT mD) = A0 at hD ⊢
  have hS : va_S A0 s.heap s.heap [] := va_S.rf
  have hl := lv_entry ([.ref aX, .int x1] : List Value) (n := 2) (Nat.le_of_ble_eq_true rfl)
  refine W.eq (g2 := F0 m 0 ((lg_sl ([.ref aX, .int x1] : List Value) ++ List.replicate (2 - (lg_sl ([.ref aX, .int x1] : List Value)).length) Slot.unset).toArray) []) (by rw [ha]; exact lg_entry_eq _ _ _) ?_
  generalize (lg_sl ([.ref aX, .int x1] : List Value) ++ List.replicate (2 - (lg_sl ([.ref aX, .int x1] : List Value)).length) Slot.unset).toArray = ls at hl ⊢
  have hl : lv_has ls 2 [(0, .ref aX), (1, .int x1)] := hl
  rw [f6_goBack] at hF
  show uW p l e wsX6_goBack rm6_goBack s m args below meth c D (some (.int r)) A0 (W6 cI aX aN aP aJ aI aT aD z_ms ml z_mt mq mu z_mN z_mP mK mI mT mD) s.heap [] (F0 m 0 ls [])
  refine lv_aload_n hx hb dX6_goBack_0 rfl (lv_at hl 0 rfl) ?_
  refine lv_iconst hx hb dX6_goBack_1 kc_iconst_0 ?_
  refine va_put (D := D) (ci := 6) (v := .int (0 : Int32)) (ty := .int) (C := RX6) (T := TX6) (N := 11) hx hb hts i_X6 tyX6 tyX6_ok nmX6 hown hK.1 hP hD hS 0 rfl rfl 7 (by decide) (hts _ wd_818) (fun _ h9 => h9) rfl (by decide +kernel) rfl rfl (Nat.le_of_ble_eq_true rfl) dX6_goBack_2 (fun H locs hP hD hS => ?_)
  have hP : va_P D vwCl (W6 cI aX aN aP aJ aI aT aD ms ml (0 : Int32) mq mu mN mP mK mI mT mD) H := hP
  have hD : va_D A0 (W6 cI aX aN aP aJ aI aT aD ms ml (0 : Int32) mq mu mN mP mK mI mT mD) := hD
  refine lv_iload_n hx hb dX6_goBack_5 rfl (lv_at hl 1 rfl) ?_
  refine lv_iconst hx hb dX6_goBack_6 kc_iconst_0 ?_
  refine lv_iconst hx hb dX6_goBack_7 kc_iconst_1 ?_
  obtain ⟨q2, h1, hF⟩ := bd1_at hF
  refine rcall (va_runS (As := [.int x1, .int (0 : Int32), .int (1 : Int32)]) (rest := []) S (K6_in l D cI cZ cS cJ x1 (0 : Int32) (1 : Int32) q2 h1) (va_cwS 3 hts (gd_S wd_853 wd_854 wd_67 wd_855) rfl rfl rfl hdn6_in ⟨Nat.le_of_ble_eq_true rfl, Nat.le_of_ble_eq_true rfl⟩) (rPreS hK (hP.sub (ws' := ([] : va_W)) [] rfl)) rfl rfl hl.1 rfl (lv_room (Nat.le_of_ble_eq_true rfl)) dX6_goBack_8 ⟨(Nat.zero_le _), (Nat.zero_le _)⟩) ?_
  refine lv_if_ne (tgt := 20) hx hb dX6_goBack_11 (by decide) (fun c3 => ?_) (fun c3 => ?_)
  · have hF := ite_f c3 hF
    refine lv_aload_n hx hb dX6_goBack_20 rfl (lv_at hl 0 rfl) ?_
    refine va_get (D := D) (ci := 6) (v := .ref aI) (C := RX6) (T := TX6) (N := 11) hx hb hts i_X6 hown hK.1 hP 0 rfl rfl 4 (by decide) (hts _ wd_815) (fun _ h9 => h9) rfl dX6_goBack_21 ?_
    refine lv_iload_n hx hb dX6_goBack_24 rfl (lv_at hl 1 rfl) ?_
    obtain ⟨g4, hF⟩ := gd_at hF
    refine va_iald hx hb hK.1 hP 4 0 rfl rfl g4 dX6_goBack_25 ?_
    refine lv_if_ne (tgt := 35) hx hb dX6_goBack_26 (by decide) (fun c5 => ?_) (fun c5 => ?_)
    · have hF := ite_f c5 hF
      refine lv_aload_n hx hb dX6_goBack_35 rfl (lv_at hl 0 rfl) ?_
      obtain ⟨u7, u8, h6, hF⟩ := bd2_at hF
      refine ucallv (ws' := (W6 cI aX aN aP aJ aI aT aD u7 ml (0 : Int32) mq mu mN u8 mK mI mT mD)) (va_runV (As := []) (rest := []) S (K6_saves l D cI cZ cS cJ aX aN aP aJ aI aT aD ms ml (0 : Int32) mq mu mN mP mK mI mT mD u7 u8 h6) (cwV 0 hts (gd_V wd_860 wd_862 wd_22 wd_67 wd_863) rfl rfl rfl hd6_saves ⟨Nat.le_of_ble_eq_true rfl, Nat.le_of_ble_eq_true rfl⟩) (uPreV hK hP hD (ci := 6) (q := (RX6, TX6, 11)) rfl rfl) rfl rfl hl.1 rfl (lv_room (Nat.le_of_ble_eq_true rfl)) dX6_goBack_36 ⟨(Nat.zero_le _), (Nat.zero_le _)⟩) hS hP hD [0, 1, 2, 3, 4, 5, 6] rfl rfl rfl rfl (fun H locs hP hD hS => ?_)
      refine lv_aload_n hx hb dX6_goBack_39 rfl (lv_at hl 0 rfl) ?_
      refine va_get (D := D) (ci := 6) (v := .ref aJ) (C := RX6) (T := TX6) (N := 11) hx hb hts i_X6 hown hK.1 hP 0 rfl rfl 3 (by decide) (hts _ wd_814) (fun _ h9 => h9) rfl dX6_goBack_40 ?_
      refine lv_sipush hx hb dX6_goBack_43 kc_sipush_501 ?_
      refine lv_iload_n hx hb dX6_goBack_46 rfl (lv_at hl 1 rfl) ?_
      refine lv_imul hx hb dX6_goBack_47 ?_
      refine lv_aload_n hx hb dX6_goBack_48 rfl (lv_at hl 0 rfl) ?_
      refine va_get (D := D) (ci := 6) (v := .ref aN) (C := RX6) (T := TX6) (N := 11) hx hb hts i_X6 hown hK.1 hP 0 rfl rfl 0 (by decide) (hts _ wd_811) (fun _ h9 => h9) rfl dX6_goBack_49 ?_
      refine lv_iconst hx hb dX6_goBack_52 kc_iconst_0 ?_
      obtain ⟨u10, h9, hF⟩ := bd1_at hF
      refine ucallv (ws' := (W6 cI aX aN aP aJ aI aT aD u7 ml (0 : Int32) mq mu u10 u8 mK mI mT mD)) (va_runS (As := [.ref aJ, .int ((501 : Int32) * x1), .ref aN, .int (0 : Int32)]) (rest := []) S (K6_lays l D cI cZ cS cJ aJ aN 1002 501 mK mN ((501 : Int32) * x1) (0 : Int32) u10 h9) (va_cwS 4 hts (gd_S wd_864 wd_865 wd_67 wd_866) rfl rfl rfl hdn6_lays ⟨Nat.le_of_ble_eq_true rfl, Nat.le_of_ble_eq_true rfl⟩) (uPreS hK (hP.sub (ws' := (WC cI aJ aN 1002 501 mK mN)) [3, 1] rfl) (hD.sub (ws' := (WC cI aJ aN 1002 501 mK mN)) [3, 1] (by decide) rfl)) rfl rfl hl.1 rfl (lv_room (Nat.le_of_ble_eq_true rfl)) dX6_goBack_53 ⟨(Nat.zero_le _), (Nat.zero_le _)⟩) hS hP hD [3, 1] rfl rfl rfl rfl (fun H locs hP hD hS => ?_)
      refine lv_aload_n hx hb dX6_goBack_56 rfl (lv_at hl 0 rfl) ?_
      refine va_get (D := D) (ci := 6) (v := .ref aN) (C := RX6) (T := TX6) (N := 11) hx hb hts i_X6 hown hK.1 hP 0 rfl rfl 0 (by decide) (hts _ wd_811) (fun _ h9 => h9) rfl dX6_goBack_57 ?_
      refine lv_iconst hx hb dX6_goBack_60 kc_iconst_0 ?_
      refine va_iald hx hb hK.1 hP 1 0 rfl rfl (inb_lit (by decide)) dX6_goBack_61 ?_
      cases hF
      exact ureti hx hb hr hlocks hP hS dX6_goBack_62
    · have hF := ite_t c5 hF
      refine lv_aload_n hx hb dX6_goBack_29 rfl (lv_at hl 0 rfl) ?_
      refine lv_iconst hx hb dX6_goBack_30 kc_iconst_2 ?_
      obtain ⟨q12, u13, h11, hF⟩ := bd2_at hF
      refine ucalli (ws' := (W6 cI aX aN aP aJ aI aT aD ms ml u13 mq mu mN mP mK mI mT mD)) (va_runV (As := [.int (2 : Int32)]) (rest := []) S (K6_refuses l D cI cZ cS cJ aX aN aP aJ aI aT aD ms ml (0 : Int32) mq mu mN mP mK mI mT mD (2 : Int32) q12 u13 h11) (cwV 1 hts (gd_V wd_856 wd_858 wd_21 wd_67 wd_859) rfl rfl rfl hd6_refuses ⟨Nat.le_of_ble_eq_true rfl, Nat.le_of_ble_eq_true rfl⟩) (uPreV hK hP hD (ci := 6) (q := (RX6, TX6, 11)) rfl rfl) rfl rfl hl.1 rfl (lv_room (Nat.le_of_ble_eq_true rfl)) dX6_goBack_31 ⟨(Nat.zero_le _), (Nat.zero_le _)⟩) hS hP hD [0, 1, 2, 3, 4, 5, 6] rfl rfl rfl rfl (fun H locs hP hD hS => ?_)
      cases hF
      exact ureti hx hb hr hlocks hP hS dX6_goBack_34
  · have hF := ite_t c3 hF
    refine lv_aload_n hx hb dX6_goBack_14 rfl (lv_at hl 0 rfl) ?_
    refine lv_iconst hx hb dX6_goBack_15 kc_iconst_1 ?_
    obtain ⟨q15, u16, h14, hF⟩ := bd2_at hF
    refine ucalli (ws' := (W6 cI aX aN aP aJ aI aT aD ms ml u16 mq mu mN mP mK mI mT mD)) (va_runV (As := [.int (1 : Int32)]) (rest := []) S (K6_refuses l D cI cZ cS cJ aX aN aP aJ aI aT aD ms ml (0 : Int32) mq mu mN mP mK mI mT mD (1 : Int32) q15 u16 h14) (cwV 1 hts (gd_V wd_856 wd_858 wd_21 wd_67 wd_859) rfl rfl rfl hd6_refuses ⟨Nat.le_of_ble_eq_true rfl, Nat.le_of_ble_eq_true rfl⟩) (uPreV hK hP hD (ci := 6) (q := (RX6, TX6, 11)) rfl rfl) rfl rfl hl.1 rfl (lv_room (Nat.le_of_ble_eq_true rfl)) dX6_goBack_16 ⟨(Nat.zero_le _), (Nat.zero_le _)⟩) hS hP hD [0, 1, 2, 3, 4, 5, 6] rfl rfl rfl rfl (fun H locs hP hD hS => ?_)
    cases hF
    exact ureti hx hb hr hlocks hP hS dX6_goBack_19
abbrev rm6_letter : Room := { frames := 2, cells := 0, slots := 0, locals := 46 }
theorem hd6_letter : yX6_letter.cls = RX6 ∧ yX6_letter.cls ≠ "java/lang/invoke/MethodHandle" ∧ yX6_letter.cls ≠ "java/lang/invoke/VarHandle" ∧ (parseMethodDescriptor yX6_letter.desc).map (fun d => d.parameters.length) = some 1 := by decide +kernel
set_option maxHeartbeats 4000000 in
set_option maxRecDepth 100000 in
theorem K6_letter (l : Launch) (D : va_G) (cI cZ cS cJ : ClassId) (aX aN aP aJ aI aT aD : Nat) (ms : Int32) (ml : Int32) (mt : Int32) (mq : Int32) (mu : Int32) (mN : Nat → Int32) (mP : Nat → Int32) (mK : Nat → Int32) (mI : Nat → Int32) (mT : Nat → Int32) (mD : Nat → Int32) (x1 : Int32) (r : Int32) (z_mt : Int32) (hF : f6_letter mt mN x1 = some (r, z_mt)) : Met l yX6_letter wsX6_letter rm6_letter (uP D (gT cI cZ cS cJ) (W6 cI aX aN aP aJ aI aT aD ms ml mt mq mu mN mP mK mI mT mD) [.ref aX, .int x1]) (uQ D (some (.int r)) (uA (W6 cI aX aN aP aJ aI aT aD ms ml mt mq mu mN mP mK mI mT mD)) (W6 cI aX aN aP aJ aI aT aD ms ml z_mt mq mu mN mP mK mI mT mD)) 0 0 (uA (W6 cI aX aN aP aJ aI aT aD ms ml mt mq mu mN mP mK mI mT mD)) := by
  refine Met.ofW (cc := cX6_letter) (maxL := 2) (ret := (some .int)) (by decide) rfl ?_
  intro p e s m args below meth c s₁ B hml hv
  obtain ⟨ha, hK, hP, hD0⟩ := hv
  have hx := B.exec
  have hb := B.bytes
  have hr := B.returns
  have hlocks := B.notSynchronized
  have hts : ∀ w ∈ lw_all, w.before args s = true := fun w h => atoms_spec (ws := wsX6_letter) B.pre w (List.mem_cons_of_mem _ h)
  have hown : s.vm.findClass RX6 = some m.cls := findClass_of_methodNamed B.named
  have S : CallFix p m c cX6_letter 2 s args lw_all RX6 := ⟨hx, hb, hml, hown, hts⟩
  have hD := hD0.own
  generalize uA (W6 cI aX aN aP aJ aI aT aD ms ml mt mq mu mN mP mK mI mT mD) = A0 at hD ⊢
  have hS : va_S A0 s.heap s.heap [] := va_S.rf
  have hl := lv_entry ([.ref aX, .int x1] : List Value) (n := 2) (Nat.le_of_ble_eq_true rfl)
  refine W.eq (g2 := F0 m 0 ((lg_sl ([.ref aX, .int x1] : List Value) ++ List.replicate (2 - (lg_sl ([.ref aX, .int x1] : List Value)).length) Slot.unset).toArray) []) (by rw [ha]; exact lg_entry_eq _ _ _) ?_
  generalize (lg_sl ([.ref aX, .int x1] : List Value) ++ List.replicate (2 - (lg_sl ([.ref aX, .int x1] : List Value)).length) Slot.unset).toArray = ls at hl ⊢
  have hl : lv_has ls 2 [(0, .ref aX), (1, .int x1)] := hl
  rw [f6_letter] at hF
  show uW p l e wsX6_letter rm6_letter s m args below meth c D (some (.int r)) A0 (W6 cI aX aN aP aJ aI aT aD ms ml z_mt mq mu mN mP mK mI mT mD) s.heap [] (F0 m 0 ls [])
  refine lv_aload_n hx hb dX6_letter_0 rfl (lv_at hl 0 rfl) ?_
  refine lv_iconst hx hb dX6_letter_1 kc_iconst_0 ?_
  refine va_put (D := D) (ci := 6) (v := .int (0 : Int32)) (ty := .int) (C := RX6) (T := TX6) (N := 11) hx hb hts i_X6 tyX6 tyX6_ok nmX6 hown hK.1 hP hD hS 0 rfl rfl 7 (by decide) (hts _ wd_818) (fun _ h9 => h9) rfl (by decide +kernel) rfl rfl (Nat.le_of_ble_eq_true rfl) dX6_letter_2 (fun H locs hP hD hS => ?_)
  have hP : va_P D vwCl (W6 cI aX aN aP aJ aI aT aD ms ml (0 : Int32) mq mu mN mP mK mI mT mD) H := hP
  have hD : va_D A0 (W6 cI aX aN aP aJ aI aT aD ms ml (0 : Int32) mq mu mN mP mK mI mT mD) := hD
  refine lv_iload_n hx hb dX6_letter_5 rfl (lv_at hl 1 rfl) ?_
  obtain ⟨q2, h1, hF⟩ := bd1_at hF
  refine rcall (va_runS (As := [.int x1]) (rest := []) S (K6_isSerial l D cI cZ cS cJ x1 q2 h1) (va_cwS 1 hts (gd_S wd_875 wd_876 wd_67 wd_877) rfl rfl rfl hdn6_isSerial ⟨Nat.le_of_ble_eq_true rfl, Nat.le_of_ble_eq_true rfl⟩) (rPreS hK (hP.sub (ws' := ([] : va_W)) [] rfl)) rfl rfl hl.1 rfl (lv_room (Nat.le_of_ble_eq_true rfl)) dX6_letter_6 ⟨(Nat.zero_le _), (Nat.zero_le _)⟩) ?_
  refine lv_if_eq (tgt := 20) hx hb dX6_letter_9 (by decide) (fun c3 => ?_) (fun c3 => ?_)
  · have hF := ite_t c3 hF
    refine lv_aload_n hx hb dX6_letter_20 rfl (lv_at hl 0 rfl) ?_
    refine lv_iconst hx hb dX6_letter_21 kc_iconst_1 ?_
    obtain ⟨q5, u6, h4, hF⟩ := bd2_at hF
    refine ucalli (ws' := (W6 cI aX aN aP aJ aI aT aD ms ml u6 mq mu mN mP mK mI mT mD)) (va_runV (As := [.int (1 : Int32)]) (rest := []) S (K6_refuses l D cI cZ cS cJ aX aN aP aJ aI aT aD ms ml (0 : Int32) mq mu mN mP mK mI mT mD (1 : Int32) q5 u6 h4) (cwV 1 hts (gd_V wd_856 wd_858 wd_21 wd_67 wd_859) rfl rfl rfl hd6_refuses ⟨Nat.le_of_ble_eq_true rfl, Nat.le_of_ble_eq_true rfl⟩) (uPreV hK hP hD (ci := 6) (q := (RX6, TX6, 11)) rfl rfl) rfl rfl hl.1 rfl (lv_room (Nat.le_of_ble_eq_true rfl)) dX6_letter_22 ⟨(Nat.zero_le _), (Nat.zero_le _)⟩) hS hP hD [0, 1, 2, 3, 4, 5, 6] rfl rfl rfl rfl (fun H locs hP hD hS => ?_)
    cases hF
    exact ureti hx hb hr hlocks hP hS dX6_letter_25
  · have hF := ite_f c3 hF
    refine lv_aload_n hx hb dX6_letter_12 rfl (lv_at hl 0 rfl) ?_
    refine lv_iload_n hx hb dX6_letter_13 rfl (lv_at hl 1 rfl) ?_
    obtain ⟨q8, h7, hF⟩ := bd1_at hF
    refine rcall (va_runV (As := [.int x1]) (rest := []) S (K6_letterOf l D cI cZ cS cJ aX aN aP aJ aI aT aD ms ml (0 : Int32) mq mu mN mP mK mI mT mD x1 q8 h7) (cwV 1 hts (gd_V wd_911 wd_913 wd_30 wd_67 wd_914) rfl rfl rfl hd6_letterOf ⟨Nat.le_of_ble_eq_true rfl, Nat.le_of_ble_eq_true rfl⟩) (rPreV hK hP (ci := 6) (q := (RX6, TX6, 11)) rfl rfl) rfl rfl hl.1 rfl (lv_room (Nat.le_of_ble_eq_true rfl)) dX6_letter_14 ⟨(Nat.zero_le _), (Nat.zero_le _)⟩) ?_
    refine lv_goto (tgt := 25) hx hb dX6_letter_17 (by decide) ?_
    cases hF
    exact ureti hx hb hr hlocks hP hS dX6_letter_25
abbrev rm6_runFrom : Room := { frames := 1, cells := 0, slots := 0, locals := 21 }
theorem hd6_runFrom : yX6_runFrom.cls = RX6 ∧ yX6_runFrom.cls ≠ "java/lang/invoke/MethodHandle" ∧ yX6_runFrom.cls ≠ "java/lang/invoke/VarHandle" ∧ (parseMethodDescriptor yX6_runFrom.desc).map (fun d => d.parameters.length) = some 1 := by decide +kernel
set_option maxHeartbeats 4000000 in
set_option maxRecDepth 100000 in
theorem K6_runFrom (l : Launch) (D : va_G) (cI cZ cS cJ : ClassId) (aX aN aP aJ aI aT aD : Nat) (ms : Int32) (ml : Int32) (mt : Int32) (mq : Int32) (mu : Int32) (mN : Nat → Int32) (mP : Nat → Int32) (mK : Nat → Int32) (mI : Nat → Int32) (mT : Nat → Int32) (mD : Nat → Int32) (x1 : Int32) (r : Int32) (hF : f6_runFrom mN x1 = some (r)) : Met l yX6_runFrom wsX6_runFrom rm6_runFrom (rP D (gT cI cZ cS cJ) (W6 cI aX aN aP aJ aI aT aD ms ml mt mq mu mN mP mK mI mT mD) [.ref aX, .int x1]) (rQ (.int r)) 0 0 (fun _ => False) := by
  refine Met.ofW (cc := cX6_runFrom) (maxL := 3) (ret := (some .int)) (by decide) rfl ?_
  intro p e s m args below meth c s₁ B hml hv
  obtain ⟨ha, hK, hP⟩ := hv
  have hx := B.exec
  have hb := B.bytes
  have hr := B.returns
  have hlocks := B.notSynchronized
  have hts : ∀ w ∈ lw_all, w.before args s = true := fun w h => atoms_spec (ws := wsX6_runFrom) B.pre w (List.mem_cons_of_mem _ h)
  have hown : s.vm.findClass RX6 = some m.cls := findClass_of_methodNamed B.named
  have S : CallFix p m c cX6_runFrom 3 s args lw_all RX6 := ⟨hx, hb, hml, hown, hts⟩
  have hl := lv_entry ([.ref aX, .int x1] : List Value) (n := 3) (Nat.le_of_ble_eq_true rfl)
  refine W.eq (g2 := F0 m 0 ((lg_sl ([.ref aX, .int x1] : List Value) ++ List.replicate (3 - (lg_sl ([.ref aX, .int x1] : List Value)).length) Slot.unset).toArray) []) (by rw [ha]; exact lg_entry_eq _ _ _) ?_
  generalize (lg_sl ([.ref aX, .int x1] : List Value) ++ List.replicate (3 - (lg_sl ([.ref aX, .int x1] : List Value)).length) Slot.unset).toArray = ls at hl ⊢
  have hl : lv_has ls 3 [(0, .ref aX), (1, .int x1)] := hl
  clear ha
  have W_2 : ∀ (x1 : Int32) (n : Nat) (x2 : Int32), ∀ (ls : Array Slot), lv_has ls 3 [(0, .ref aX), (1, .int x1), (2, .int x2)] → f6_runFrom_l2 mN x1 n x2 = some (r) → rW p l e wsX6_runFrom rm6_runFrom s m args below meth c (.int r) (F0 m 2 ls []) := by
    intro x1  n
    induction n with
    | zero =>
      intro x2 ls hl hF
      rw [f6_runFrom_l2] at hF
      cases hF
    | succ n ih =>
      intro x2 ls hl hF
      rw [f6_runFrom_l2] at hF
      refine lv_iload_n hx hb dX6_runFrom_2 rfl (lv_at hl 1 rfl) ?_
      refine lv_bipush hx hb dX6_runFrom_3 kc_bipush_40 ?_
      refine lv_irem hx hb dX6_runFrom_5 (by decide) ?_
      refine lv_iload_n hx hb dX6_runFrom_6 rfl (lv_at hl 2 rfl) ?_
      refine lv_iadd hx hb dX6_runFrom_7 ?_
      refine lv_aload_n hx hb dX6_runFrom_8 rfl (lv_at hl 0 rfl) ?_
      refine lv_iload_n hx hb dX6_runFrom_9 rfl (lv_at hl 1 rfl) ?_
      refine lv_bipush hx hb dX6_runFrom_10 kc_bipush_40 ?_
      refine lv_idiv hx hb dX6_runFrom_12 (by decide) ?_
      obtain ⟨q2, h1, hF⟩ := bd1_at hF
      refine rcall (va_runV (As := [.int (x1 / (40 : Int32))]) (rest := [.int ((x1 - x1 / (40 : Int32) * (40 : Int32)) + x2)]) S (K6_countOf l D cI cZ cS cJ aX aN aP aJ aI aT aD ms ml mt mq mu mN mP mK mI mT mD (x1 / (40 : Int32)) q2 h1) (cwV 1 hts (gd_V wd_891 wd_893 wd_26 wd_67 wd_894) rfl rfl rfl hd6_countOf ⟨Nat.le_of_ble_eq_true rfl, Nat.le_of_ble_eq_true rfl⟩) (rPreV hK hP (ci := 6) (q := (RX6, TX6, 11)) rfl rfl) rfl rfl hl.1 rfl (lv_room (Nat.le_of_ble_eq_true rfl)) dX6_runFrom_13 ⟨(Nat.zero_le _), (Nat.zero_le _)⟩) ?_
      refine lv_icmp_ge (tgt := 48) hx hb dX6_runFrom_16 (by decide) (fun c3 => ?_) (fun c3 => ?_)
      · have hF := ite_t c3 hF
        refine lv_iload_n hx hb dX6_runFrom_48 rfl (lv_at hl 2 rfl) ?_
        exact rret hF hx hb hr hlocks dX6_runFrom_49
      · have hF := ite_f c3 hF
        refine lv_aload_n hx hb dX6_runFrom_19 rfl (lv_at hl 0 rfl) ?_
        refine va_get (D := D) (ci := 6) (v := .ref aN) (C := RX6) (T := TX6) (N := 11) hx hb hts i_X6 hown hK.1 hP 0 rfl rfl 0 (by decide) (hts _ wd_811) (fun _ h9 => h9) rfl dX6_runFrom_20 ?_
        refine lv_bipush hx hb dX6_runFrom_23 kc_bipush_21 ?_
        refine lv_iload_n hx hb dX6_runFrom_25 rfl (lv_at hl 1 rfl) ?_
        refine lv_iadd hx hb dX6_runFrom_26 ?_
        refine lv_iload_n hx hb dX6_runFrom_27 rfl (lv_at hl 2 rfl) ?_
        refine lv_iadd hx hb dX6_runFrom_28 ?_
        obtain ⟨g4, hF⟩ := gd_at hF
        refine va_iald hx hb hK.1 hP 1 0 rfl rfl g4 dX6_runFrom_29 ?_
        refine lv_aload_n hx hb dX6_runFrom_30 rfl (lv_at hl 0 rfl) ?_
        refine va_get (D := D) (ci := 6) (v := .ref aN) (C := RX6) (T := TX6) (N := 11) hx hb hts i_X6 hown hK.1 hP 0 rfl rfl 0 (by decide) (hts _ wd_811) (fun _ h9 => h9) rfl dX6_runFrom_31 ?_
        refine lv_bipush hx hb dX6_runFrom_34 kc_bipush_21 ?_
        refine lv_iload_n hx hb dX6_runFrom_36 rfl (lv_at hl 1 rfl) ?_
        refine lv_iadd hx hb dX6_runFrom_37 ?_
        obtain ⟨g5, hF⟩ := gd_at hF
        refine va_iald hx hb hK.1 hP 1 0 rfl rfl g5 dX6_runFrom_38 ?_
        refine lv_icmp_ne (tgt := 48) hx hb dX6_runFrom_39 (by decide) (fun c6 => ?_) (fun c6 => ?_)
        · have hF := ite_f c6 hF
          refine lv_iload_n hx hb dX6_runFrom_48 rfl (lv_at hl 2 rfl) ?_
          exact rret hF hx hb hr hlocks dX6_runFrom_49
        · have hF := ite_t c6 hF
          refine lv_iinc (v := (x2 + 1)) (lv' := [(2, .int (x2 + 1)), (0, .ref aX), (1, .int x1)]) hx hb dX6_runFrom_42 hl (k := 2) rfl rfl (by decide) rfl (fun ls hl => ?_)
          refine lv_goto (tgt := 2) hx hb dX6_runFrom_45 (by decide) ?_
          exact ih (x2 + 1) ls (lv_sub hl [1, 2, 0] rfl) hF
  rw [f6_runFrom] at hF
  show rW p l e wsX6_runFrom rm6_runFrom s m args below meth c (.int r) (F0 m 0 ls [])
  refine lv_iconst hx hb dX6_runFrom_0 kc_iconst_0 ?_
  refine lv_istore_n (lv' := [(2, .int (0 : Int32)), (0, .ref aX), (1, .int x1)]) hx hb dX6_runFrom_1 rfl hl (by decide) rfl (fun ls hl => ?_)
  exact W_2 x1  fu (0 : Int32) ls (lv_sub hl [1, 2, 0] rfl) hF
abbrev rm6_aboutCheque : Room := { frames := 2, cells := 0, slots := 0, locals := 43 }
theorem hd6_aboutCheque : yX6_aboutCheque.cls = RX6 ∧ yX6_aboutCheque.cls ≠ "java/lang/invoke/MethodHandle" ∧ yX6_aboutCheque.cls ≠ "java/lang/invoke/VarHandle" ∧ (parseMethodDescriptor yX6_aboutCheque.desc).map (fun d => d.parameters.length) = some 2 := by decide +kernel
set_option maxHeartbeats 4000000 in
set_option maxRecDepth 100000 in
theorem K6_aboutCheque (l : Launch) (D : va_G) (cI cZ cS cJ : ClassId) (aX aN aP aJ aI aT aD : Nat) (ms : Int32) (ml : Int32) (mt : Int32) (mq : Int32) (mu : Int32) (mN : Nat → Int32) (mP : Nat → Int32) (mK : Nat → Int32) (mI : Nat → Int32) (mT : Nat → Int32) (mD : Nat → Int32) (x1 : Int32) (x2 : Int32) (r : Int32) (hF : f6_aboutCheque mN x1 x2 = some (r)) : Met l yX6_aboutCheque wsX6_aboutCheque rm6_aboutCheque (rP D (gT cI cZ cS cJ) (W6 cI aX aN aP aJ aI aT aD ms ml mt mq mu mN mP mK mI mT mD) [.ref aX, .int x1, .int x2]) (rQ (.int r)) 0 0 (fun _ => False) := by
  refine Met.ofW (cc := cX6_aboutCheque) (maxL := 3) (ret := (some .int)) (by decide) rfl ?_
  intro p e s m args below meth c s₁ B hml hv
  obtain ⟨ha, hK, hP⟩ := hv
  have hx := B.exec
  have hb := B.bytes
  have hr := B.returns
  have hlocks := B.notSynchronized
  have hts : ∀ w ∈ lw_all, w.before args s = true := fun w h => atoms_spec (ws := wsX6_aboutCheque) B.pre w (List.mem_cons_of_mem _ h)
  have hown : s.vm.findClass RX6 = some m.cls := findClass_of_methodNamed B.named
  have S : CallFix p m c cX6_aboutCheque 3 s args lw_all RX6 := ⟨hx, hb, hml, hown, hts⟩
  have hl := lv_entry ([.ref aX, .int x1, .int x2] : List Value) (n := 3) (Nat.le_of_ble_eq_true rfl)
  refine W.eq (g2 := F0 m 0 ((lg_sl ([.ref aX, .int x1, .int x2] : List Value) ++ List.replicate (3 - (lg_sl ([.ref aX, .int x1, .int x2] : List Value)).length) Slot.unset).toArray) []) (by rw [ha]; exact lg_entry_eq _ _ _) ?_
  generalize (lg_sl ([.ref aX, .int x1, .int x2] : List Value) ++ List.replicate (3 - (lg_sl ([.ref aX, .int x1, .int x2] : List Value)).length) Slot.unset).toArray = ls at hl ⊢
  have hl : lv_has ls 3 [(0, .ref aX), (1, .int x1), (2, .int x2)] := hl
  rw [f6_aboutCheque] at hF
  show rW p l e wsX6_aboutCheque rm6_aboutCheque s m args below meth c (.int r) (F0 m 0 ls [])
  refine lv_iload_n hx hb dX6_aboutCheque_0 rfl (lv_at hl 2 rfl) ?_
  by_cases c1 : x2 = (0 : Int32)
  · have hF := ite_t c1 hF
    refine lv_tableIn (tgt := 32) hx hb dX6_aboutCheque_1 (by rw [c1]; decide) (by rw [c1]; decide) (by rw [c1]; rfl) (by decide) ?_
    refine lv_aload_n hx hb dX6_aboutCheque_32 rfl (lv_at hl 0 rfl) ?_
    refine va_get (D := D) (ci := 6) (v := .ref aN) (C := RX6) (T := TX6) (N := 11) hx hb hts i_X6 hown hK.1 hP 0 rfl rfl 0 (by decide) (hts _ wd_811) (fun _ h9 => h9) rfl dX6_aboutCheque_33 ?_
    refine lv_bipush hx hb dX6_aboutCheque_36 kc_bipush_21 ?_
    refine lv_iload_n hx hb dX6_aboutCheque_38 rfl (lv_at hl 1 rfl) ?_
    refine lv_iadd hx hb dX6_aboutCheque_39 ?_
    obtain ⟨g2, hF⟩ := gd_at hF
    refine va_iald hx hb hK.1 hP 1 0 rfl rfl g2 dX6_aboutCheque_40 ?_
    exact rret hF hx hb hr hlocks dX6_aboutCheque_41
  have hF := ite_f c1 hF
  by_cases c3 : x2 = (1 : Int32)
  · have hF := ite_t c3 hF
    refine lv_tableIn (tgt := 42) hx hb dX6_aboutCheque_1 (by rw [c3]; decide) (by rw [c3]; decide) (by rw [c3]; rfl) (by decide) ?_
    refine lv_aload_n hx hb dX6_aboutCheque_42 rfl (lv_at hl 0 rfl) ?_
    refine va_get (D := D) (ci := 6) (v := .ref aN) (C := RX6) (T := TX6) (N := 11) hx hb hts i_X6 hown hK.1 hP 0 rfl rfl 0 (by decide) (hts _ wd_811) (fun _ h9 => h9) rfl dX6_aboutCheque_43 ?_
    refine lv_sipush hx hb dX6_aboutCheque_46 kc_sipush_261 ?_
    refine lv_iload_n hx hb dX6_aboutCheque_49 rfl (lv_at hl 1 rfl) ?_
    refine lv_iadd hx hb dX6_aboutCheque_50 ?_
    obtain ⟨g4, hF⟩ := gd_at hF
    refine va_iald hx hb hK.1 hP 1 0 rfl rfl g4 dX6_aboutCheque_51 ?_
    exact rret hF hx hb hr hlocks dX6_aboutCheque_52
  have hF := ite_f c3 hF
  by_cases c5 : x2 = (2 : Int32)
  · have hF := ite_t c5 hF
    refine lv_tableIn (tgt := 53) hx hb dX6_aboutCheque_1 (by rw [c5]; decide) (by rw [c5]; decide) (by rw [c5]; rfl) (by decide) ?_
    refine lv_iload_n hx hb dX6_aboutCheque_53 rfl (lv_at hl 1 rfl) ?_
    refine lv_bipush hx hb dX6_aboutCheque_54 kc_bipush_40 ?_
    refine lv_idiv hx hb dX6_aboutCheque_56 (by decide) ?_
    exact rret hF hx hb hr hlocks dX6_aboutCheque_57
  have hF := ite_f c5 hF
  by_cases c6 : x2 = (3 : Int32)
  · have hF := ite_t c6 hF
    refine lv_tableIn (tgt := 58) hx hb dX6_aboutCheque_1 (by rw [c6]; decide) (by rw [c6]; decide) (by rw [c6]; rfl) (by decide) ?_
    refine lv_iload_n hx hb dX6_aboutCheque_58 rfl (lv_at hl 1 rfl) ?_
    refine lv_bipush hx hb dX6_aboutCheque_59 kc_bipush_40 ?_
    refine lv_irem hx hb dX6_aboutCheque_61 (by decide) ?_
    exact rret hF hx hb hr hlocks dX6_aboutCheque_62
  have hF := ite_f c6 hF
  refine lv_tableOut (tgt := 63) hx hb dX6_aboutCheque_1 (by have q0 := ne_ti c1 (show (0 : Int32).toInt = 0 by decide); have q1 := ne_ti c3 (show (1 : Int32).toInt = 1 by decide); have q2 := ne_ti c5 (show (2 : Int32).toInt = 2 by decide); have q3 := ne_ti c6 (show (3 : Int32).toInt = 3 by decide); omega) (by decide) ?_
  refine lv_aload_n hx hb dX6_aboutCheque_63 rfl (lv_at hl 0 rfl) ?_
  refine lv_iload_n hx hb dX6_aboutCheque_64 rfl (lv_at hl 1 rfl) ?_
  obtain ⟨q8, h7, hF⟩ := bd1_at hF
  refine rcall (va_runV (As := [.int x1]) (rest := []) S (K6_runFrom l D cI cZ cS cJ aX aN aP aJ aI aT aD ms ml mt mq mu mN mP mK mI mT mD x1 q8 h7) (cwV 1 hts (gd_V wd_1017 wd_1019 wd_44 wd_67 wd_1020) rfl rfl rfl hd6_runFrom ⟨Nat.le_of_ble_eq_true rfl, Nat.le_of_ble_eq_true rfl⟩) (rPreV hK hP (ci := 6) (q := (RX6, TX6, 11)) rfl rfl) rfl rfl hl.1 rfl (lv_room (Nat.le_of_ble_eq_true rfl)) dX6_aboutCheque_65 ⟨(Nat.zero_le _), (Nat.zero_le _)⟩) ?_
  exact rret hF hx hb hr hlocks dX6_aboutCheque_68
abbrev rm6_cheque : Room := { frames := 3, cells := 0, slots := 0, locals := 65 }
theorem hd6_cheque : yX6_cheque.cls = RX6 ∧ yX6_cheque.cls ≠ "java/lang/invoke/MethodHandle" ∧ yX6_cheque.cls ≠ "java/lang/invoke/VarHandle" ∧ (parseMethodDescriptor yX6_cheque.desc).map (fun d => d.parameters.length) = some 2 := by decide +kernel
set_option maxHeartbeats 4000000 in
set_option maxRecDepth 100000 in
theorem K6_cheque (l : Launch) (D : va_G) (cI cZ cS cJ : ClassId) (aX aN aP aJ aI aT aD : Nat) (ms : Int32) (ml : Int32) (mt : Int32) (mq : Int32) (mu : Int32) (mN : Nat → Int32) (mP : Nat → Int32) (mK : Nat → Int32) (mI : Nat → Int32) (mT : Nat → Int32) (mD : Nat → Int32) (x1 : Int32) (x2 : Int32) (r : Int32) (z_mt : Int32) (hF : f6_cheque mt mN x1 x2 = some (r, z_mt)) : Met l yX6_cheque wsX6_cheque rm6_cheque (uP D (gT cI cZ cS cJ) (W6 cI aX aN aP aJ aI aT aD ms ml mt mq mu mN mP mK mI mT mD) [.ref aX, .int x1, .int x2]) (uQ D (some (.int r)) (uA (W6 cI aX aN aP aJ aI aT aD ms ml mt mq mu mN mP mK mI mT mD)) (W6 cI aX aN aP aJ aI aT aD ms ml z_mt mq mu mN mP mK mI mT mD)) 0 0 (uA (W6 cI aX aN aP aJ aI aT aD ms ml mt mq mu mN mP mK mI mT mD)) := by
  refine Met.ofW (cc := cX6_cheque) (maxL := 4) (ret := (some .int)) (by decide) rfl ?_
  intro p e s m args below meth c s₁ B hml hv
  obtain ⟨ha, hK, hP, hD0⟩ := hv
  have hx := B.exec
  have hb := B.bytes
  have hr := B.returns
  have hlocks := B.notSynchronized
  have hts : ∀ w ∈ lw_all, w.before args s = true := fun w h => atoms_spec (ws := wsX6_cheque) B.pre w (List.mem_cons_of_mem _ h)
  have hown : s.vm.findClass RX6 = some m.cls := findClass_of_methodNamed B.named
  have S : CallFix p m c cX6_cheque 4 s args lw_all RX6 := ⟨hx, hb, hml, hown, hts⟩
  have hD := hD0.own
  generalize uA (W6 cI aX aN aP aJ aI aT aD ms ml mt mq mu mN mP mK mI mT mD) = A0 at hD ⊢
  have hS : va_S A0 s.heap s.heap [] := va_S.rf
  have hl := lv_entry ([.ref aX, .int x1, .int x2] : List Value) (n := 4) (Nat.le_of_ble_eq_true rfl)
  refine W.eq (g2 := F0 m 0 ((lg_sl ([.ref aX, .int x1, .int x2] : List Value) ++ List.replicate (4 - (lg_sl ([.ref aX, .int x1, .int x2] : List Value)).length) Slot.unset).toArray) []) (by rw [ha]; exact lg_entry_eq _ _ _) ?_
  generalize (lg_sl ([.ref aX, .int x1, .int x2] : List Value) ++ List.replicate (4 - (lg_sl ([.ref aX, .int x1, .int x2] : List Value)).length) Slot.unset).toArray = ls at hl ⊢
  have hl : lv_has ls 4 [(0, .ref aX), (1, .int x1), (2, .int x2)] := hl
  rw [f6_cheque] at hF
  show uW p l e wsX6_cheque rm6_cheque s m args below meth c D (some (.int r)) A0 (W6 cI aX aN aP aJ aI aT aD ms ml z_mt mq mu mN mP mK mI mT mD) s.heap [] (F0 m 0 ls [])
  refine lv_aload_n hx hb dX6_cheque_0 rfl (lv_at hl 0 rfl) ?_
  refine lv_iconst hx hb dX6_cheque_1 kc_iconst_0 ?_
  refine va_put (D := D) (ci := 6) (v := .int (0 : Int32)) (ty := .int) (C := RX6) (T := TX6) (N := 11) hx hb hts i_X6 tyX6 tyX6_ok nmX6 hown hK.1 hP hD hS 0 rfl rfl 7 (by decide) (hts _ wd_818) (fun _ h9 => h9) rfl (by decide +kernel) rfl rfl (Nat.le_of_ble_eq_true rfl) dX6_cheque_2 (fun H locs hP hD hS => ?_)
  have hP : va_P D vwCl (W6 cI aX aN aP aJ aI aT aD ms ml (0 : Int32) mq mu mN mP mK mI mT mD) H := hP
  have hD : va_D A0 (W6 cI aX aN aP aJ aI aT aD ms ml (0 : Int32) mq mu mN mP mK mI mT mD) := hD
  refine lv_aload_n hx hb dX6_cheque_5 rfl (lv_at hl 0 rfl) ?_
  refine lv_iload_n hx hb dX6_cheque_6 rfl (lv_at hl 1 rfl) ?_
  obtain ⟨q2, h1, hF⟩ := bd1_at hF
  refine rcall (va_runV (As := [.int x1]) (rest := []) S (K6_spotOf l D cI cZ cS cJ aX aN aP aJ aI aT aD ms ml (0 : Int32) mq mu mN mP mK mI mT mD x1 q2 h1) (cwV 1 hts (gd_V wd_903 wd_905 wd_28 wd_67 wd_906) rfl rfl rfl hd6_spotOf ⟨Nat.le_of_ble_eq_true rfl, Nat.le_of_ble_eq_true rfl⟩) (rPreV hK hP (ci := 6) (q := (RX6, TX6, 11)) rfl rfl) rfl rfl hl.1 rfl (lv_room (Nat.le_of_ble_eq_true rfl)) dX6_cheque_7 ⟨(Nat.zero_le _), (Nat.zero_le _)⟩) ?_
  refine lv_istore_n (lv' := [(3, .int q2), (0, .ref aX), (1, .int x1), (2, .int x2)]) hx hb dX6_cheque_10 rfl hl (by decide) rfl (fun ls hl => ?_)
  refine lv_iload_n hx hb dX6_cheque_11 rfl (lv_at hl 0 rfl) ?_
  refine lv_iconst hx hb dX6_cheque_12 kc_iconst_m1 ?_
  refine lv_icmp_ne (tgt := 22) hx hb dX6_cheque_13 (by decide) (fun c3 => ?_) (fun c3 => ?_)
  · have hF := ite_f c3 hF
    refine lv_iload_n hx hb dX6_cheque_22 rfl (lv_at hl 3 rfl) ?_
    refine lv_iconst hx hb dX6_cheque_23 kc_iconst_0 ?_
    refine lv_iconst hx hb dX6_cheque_24 kc_iconst_4 ?_
    obtain ⟨q5, h4, hF⟩ := bd1_at hF
    refine rcall (va_runS (As := [.int x2, .int (0 : Int32), .int (4 : Int32)]) (rest := []) S (K6_in l D cI cZ cS cJ x2 (0 : Int32) (4 : Int32) q5 h4) (va_cwS 3 hts (gd_S wd_853 wd_854 wd_67 wd_855) rfl rfl rfl hdn6_in ⟨Nat.le_of_ble_eq_true rfl, Nat.le_of_ble_eq_true rfl⟩) (rPreS hK (hP.sub (ws' := ([] : va_W)) [] rfl)) rfl rfl hl.1 rfl (lv_room (Nat.le_of_ble_eq_true rfl)) dX6_cheque_25 ⟨(Nat.zero_le _), (Nat.zero_le _)⟩) ?_
    refine lv_if_eq (tgt := 40) hx hb dX6_cheque_28 (by decide) (fun c6 => ?_) (fun c6 => ?_)
    · have hF := ite_t c6 hF
      refine lv_aload_n hx hb dX6_cheque_40 rfl (lv_at hl 1 rfl) ?_
      refine lv_iconst hx hb dX6_cheque_41 kc_iconst_2 ?_
      obtain ⟨q8, u9, h7, hF⟩ := bd2_at hF
      refine ucalli (ws' := (W6 cI aX aN aP aJ aI aT aD ms ml u9 mq mu mN mP mK mI mT mD)) (va_runV (As := [.int (2 : Int32)]) (rest := []) S (K6_refuses l D cI cZ cS cJ aX aN aP aJ aI aT aD ms ml (0 : Int32) mq mu mN mP mK mI mT mD (2 : Int32) q8 u9 h7) (cwV 1 hts (gd_V wd_856 wd_858 wd_21 wd_67 wd_859) rfl rfl rfl hd6_refuses ⟨Nat.le_of_ble_eq_true rfl, Nat.le_of_ble_eq_true rfl⟩) (uPreV hK hP hD (ci := 6) (q := (RX6, TX6, 11)) rfl rfl) rfl rfl hl.1 rfl (lv_room (Nat.le_of_ble_eq_true rfl)) dX6_cheque_42 ⟨(Nat.zero_le _), (Nat.zero_le _)⟩) hS hP hD [0, 1, 2, 3, 4, 5, 6] rfl rfl rfl rfl (fun H locs hP hD hS => ?_)
      cases hF
      exact ureti hx hb hr hlocks hP hS dX6_cheque_45
    · have hF := ite_f c6 hF
      refine lv_aload_n hx hb dX6_cheque_31 rfl (lv_at hl 1 rfl) ?_
      refine lv_iload_n hx hb dX6_cheque_32 rfl (lv_at hl 0 rfl) ?_
      refine lv_iload_n hx hb dX6_cheque_33 rfl (lv_at hl 3 rfl) ?_
      obtain ⟨q11, h10, hF⟩ := bd1_at hF
      refine rcall (va_runV (As := [.int q2, .int x2]) (rest := []) S (K6_aboutCheque l D cI cZ cS cJ aX aN aP aJ aI aT aD ms ml (0 : Int32) mq mu mN mP mK mI mT mD q2 x2 q11 h10) (cwV 2 hts (gd_V wd_1013 wd_1015 wd_43 wd_67 wd_1016) rfl rfl rfl hd6_aboutCheque ⟨Nat.le_of_ble_eq_true rfl, Nat.le_of_ble_eq_true rfl⟩) (rPreV hK hP (ci := 6) (q := (RX6, TX6, 11)) rfl rfl) rfl rfl hl.1 rfl (lv_room (Nat.le_of_ble_eq_true rfl)) dX6_cheque_34 ⟨(Nat.zero_le _), (Nat.zero_le _)⟩) ?_
      refine lv_goto (tgt := 45) hx hb dX6_cheque_37 (by decide) ?_
      cases hF
      exact ureti hx hb hr hlocks hP hS dX6_cheque_45
  · have hF := ite_t c3 hF
    refine lv_aload_n hx hb dX6_cheque_16 rfl (lv_at hl 1 rfl) ?_
    refine lv_iconst hx hb dX6_cheque_17 kc_iconst_1 ?_
    obtain ⟨q13, u14, h12, hF⟩ := bd2_at hF
    refine ucalli (ws' := (W6 cI aX aN aP aJ aI aT aD ms ml u14 mq mu mN mP mK mI mT mD)) (va_runV (As := [.int (1 : Int32)]) (rest := []) S (K6_refuses l D cI cZ cS cJ aX aN aP aJ aI aT aD ms ml (0 : Int32) mq mu mN mP mK mI mT mD (1 : Int32) q13 u14 h12) (cwV 1 hts (gd_V wd_856 wd_858 wd_21 wd_67 wd_859) rfl rfl rfl hd6_refuses ⟨Nat.le_of_ble_eq_true rfl, Nat.le_of_ble_eq_true rfl⟩) (uPreV hK hP hD (ci := 6) (q := (RX6, TX6, 11)) rfl rfl) rfl rfl hl.1 rfl (lv_room (Nat.le_of_ble_eq_true rfl)) dX6_cheque_18 ⟨(Nat.zero_le _), (Nat.zero_le _)⟩) hS hP hD [0, 1, 2, 3, 4, 5, 6] rfl rfl rfl rfl (fun H locs hP hD hS => ?_)
    cases hF
    exact ureti hx hb hr hlocks hP hS dX6_cheque_21
abbrev rm6_ofKind : Room := { frames := 2, cells := 0, slots := 0, locals := 42 }
theorem hd6_ofKind : yX6_ofKind.cls = RX6 ∧ yX6_ofKind.cls ≠ "java/lang/invoke/MethodHandle" ∧ yX6_ofKind.cls ≠ "java/lang/invoke/VarHandle" ∧ (parseMethodDescriptor yX6_ofKind.desc).map (fun d => d.parameters.length) = some 3 := by decide +kernel
set_option maxHeartbeats 4000000 in
set_option maxRecDepth 100000 in
theorem K6_ofKind (l : Launch) (D : va_G) (cI cZ cS cJ : ClassId) (aX aN aP aJ aI aT aD : Nat) (ms : Int32) (ml : Int32) (mt : Int32) (mq : Int32) (mu : Int32) (mN : Nat → Int32) (mP : Nat → Int32) (mK : Nat → Int32) (mI : Nat → Int32) (mT : Nat → Int32) (mD : Nat → Int32) (x1 : Int32) (x2 : Int32) (x3 : Int32) (r : Int32) (hF : f6_ofKind mN x1 x2 x3 = some (r)) : Met l yX6_ofKind wsX6_ofKind rm6_ofKind (rP D (gT cI cZ cS cJ) (W6 cI aX aN aP aJ aI aT aD ms ml mt mq mu mN mP mK mI mT mD) [.ref aX, .int x1, .int x2, .int x3]) (rQ (.int r)) 0 0 (fun _ => False) := by
  refine Met.ofW (cc := cX6_ofKind) (maxL := 6) (ret := (some .int)) (by decide) rfl ?_
  intro p e s m args below meth c s₁ B hml hv
  obtain ⟨ha, hK, hP⟩ := hv
  have hx := B.exec
  have hb := B.bytes
  have hr := B.returns
  have hlocks := B.notSynchronized
  have hts : ∀ w ∈ lw_all, w.before args s = true := fun w h => atoms_spec (ws := wsX6_ofKind) B.pre w (List.mem_cons_of_mem _ h)
  have hown : s.vm.findClass RX6 = some m.cls := findClass_of_methodNamed B.named
  have S : CallFix p m c cX6_ofKind 6 s args lw_all RX6 := ⟨hx, hb, hml, hown, hts⟩
  have hl := lv_entry ([.ref aX, .int x1, .int x2, .int x3] : List Value) (n := 6) (Nat.le_of_ble_eq_true rfl)
  refine W.eq (g2 := F0 m 0 ((lg_sl ([.ref aX, .int x1, .int x2, .int x3] : List Value) ++ List.replicate (6 - (lg_sl ([.ref aX, .int x1, .int x2, .int x3] : List Value)).length) Slot.unset).toArray) []) (by rw [ha]; exact lg_entry_eq _ _ _) ?_
  generalize (lg_sl ([.ref aX, .int x1, .int x2, .int x3] : List Value) ++ List.replicate (6 - (lg_sl ([.ref aX, .int x1, .int x2, .int x3] : List Value)).length) Slot.unset).toArray = ls at hl ⊢
  have hl : lv_has ls 6 [(0, .ref aX), (1, .int x1), (2, .int x2), (3, .int x3)] := hl
  clear ha
  have W_42 : ∀ (x2 : Int32) (x3 : Int32) (x5 : Int32) (s0 : Int32) (s1 : Int32) (k6 : Int32 → Int32 → Option (Int32)) (hk6 : ∀ (x4 : Int32) (x5 : Int32), ∀ (ls : Array Slot), lv_has ls 6 [(0, .ref aX), (2, .int x2), (3, .int x3), (4, .int x4), (5, .int x5)] → k6 x4 x5 = some (r) → rW p l e wsX6_ofKind rm6_ofKind s m args below meth c (.int r) (F0 m 6 ls [])), ∀ (ls : Array Slot), lv_has ls 6 [(0, .ref aX), (2, .int x2), (3, .int x3), (5, .int x5)] → f6_ofKind_j42 k6 mN x2 x3 x5 s0 s1 = some (r) → rW p l e wsX6_ofKind rm6_ofKind s m args below meth c (.int r) (F0 m 42 ls [.int s0, .int s1]) := by
    intro x2 x3 x5 s0 s1 k6 hk6 ls hl hF
    rw [f6_ofKind_j42] at hF
    refine lv_iadd hx hb dX6_ofKind_42 ?_
    refine lv_istore (lv' := [(4, .int (s1 + s0)), (0, .ref aX), (2, .int x2), (3, .int x3), (5, .int x5)]) hx hb dX6_ofKind_43 hl (by decide) rfl (fun ls hl => ?_)
    refine lv_iinc (v := (x5 + 1)) (lv' := [(5, .int (x5 + 1)), (4, .int (s1 + s0)), (0, .ref aX), (2, .int x2), (3, .int x3)]) hx hb dX6_ofKind_45 hl (k := 4) rfl rfl (by decide) rfl (fun ls hl => ?_)
    refine lv_goto (tgt := 6) hx hb dX6_ofKind_48 (by decide) ?_
    exact hk6 (s1 + s0) (x5 + 1) ls (lv_sub hl [2, 3, 4, 1, 0] rfl) hF
  have W_41 : ∀ (x2 : Int32) (x3 : Int32) (x5 : Int32) (s0 : Int32) (k6 : Int32 → Int32 → Option (Int32)) (hk6 : ∀ (x4 : Int32) (x5 : Int32), ∀ (ls : Array Slot), lv_has ls 6 [(0, .ref aX), (2, .int x2), (3, .int x3), (4, .int x4), (5, .int x5)] → k6 x4 x5 = some (r) → rW p l e wsX6_ofKind rm6_ofKind s m args below meth c (.int r) (F0 m 6 ls [])), ∀ (ls : Array Slot), lv_has ls 6 [(0, .ref aX), (2, .int x2), (3, .int x3), (5, .int x5)] → f6_ofKind_j41 k6 mN x2 x3 x5 s0 = some (r) → rW p l e wsX6_ofKind rm6_ofKind s m args below meth c (.int r) (F0 m 41 ls [.int s0]) := by
    intro x2 x3 x5 s0 k6 hk6 ls hl hF
    rw [f6_ofKind_j41] at hF
    refine lv_iconst hx hb dX6_ofKind_41 kc_iconst_0 ?_
    exact W_42 x2 x3 x5 (0 : Int32) s0 k6 hk6 ls (lv_sub hl [0, 1, 2, 3] rfl) hF
  have W_6 : ∀ (x2 : Int32) (x3 : Int32) (n : Nat) (x4 : Int32) (x5 : Int32), ∀ (ls : Array Slot), lv_has ls 6 [(0, .ref aX), (2, .int x2), (3, .int x3), (4, .int x4), (5, .int x5)] → f6_ofKind_l6 mN x2 x3 n x4 x5 = some (r) → rW p l e wsX6_ofKind rm6_ofKind s m args below meth c (.int r) (F0 m 6 ls []) := by
    intro x2 x3  n
    induction n with
    | zero =>
      intro x4 x5 ls hl hF
      rw [f6_ofKind_l6] at hF
      cases hF
    | succ n ih =>
      intro x4 x5 ls hl hF
      rw [f6_ofKind_l6] at hF
      refine lv_iload hx hb dX6_ofKind_6 (lv_at hl 4 rfl) ?_
      refine lv_iload_n hx hb dX6_ofKind_8 rfl (lv_at hl 1 rfl) ?_
      refine lv_icmp_ge (tgt := 51) hx hb dX6_ofKind_9 (by decide) (fun c1 => ?_) (fun c1 => ?_)
      · have hF := ite_t c1 hF
        refine lv_iload hx hb dX6_ofKind_51 (lv_at hl 3 rfl) ?_
        exact rret hF hx hb hr hlocks dX6_ofKind_53
      · have hF := ite_f c1 hF
        refine lv_iload hx hb dX6_ofKind_12 (lv_at hl 3 rfl) ?_
        refine lv_aload_n hx hb dX6_ofKind_14 rfl (lv_at hl 0 rfl) ?_
        refine lv_iload hx hb dX6_ofKind_15 (lv_at hl 4 rfl) ?_
        obtain ⟨q3, h2, hF⟩ := bd1_at hF
        refine rcall (va_runV (As := [.int x5]) (rest := [.int x4]) S (K6_isCheque l D cI cZ cS cJ aX aN aP aJ aI aT aD ms ml mt mq mu mN mP mK mI mT mD x5 q3 h2) (cwV 1 hts (gd_V wd_937 wd_939 wd_33 wd_67 wd_940) rfl rfl rfl hd6_isCheque ⟨Nat.le_of_ble_eq_true rfl, Nat.le_of_ble_eq_true rfl⟩) (rPreV hK hP (ci := 6) (q := (RX6, TX6, 11)) rfl rfl) rfl rfl hl.1 rfl (lv_room (Nat.le_of_ble_eq_true rfl)) dX6_ofKind_17 ⟨(Nat.zero_le _), (Nat.zero_le _)⟩) ?_
        refine lv_if_eq (tgt := 41) hx hb dX6_ofKind_20 (by decide) (fun c4 => ?_) (fun c4 => ?_)
        · have hF := ite_t c4 hF
          exact W_41 x2 x3 x5 x4 (f6_ofKind_l6 mN x2 x3 n) ih ls (lv_sub hl [0, 1, 2, 4] rfl) hF
        · have hF := ite_f c4 hF
          refine lv_aload_n hx hb dX6_ofKind_23 rfl (lv_at hl 0 rfl) ?_
          refine va_get (D := D) (ci := 6) (v := .ref aN) (C := RX6) (T := TX6) (N := 11) hx hb hts i_X6 hown hK.1 hP 0 rfl rfl 0 (by decide) (hts _ wd_811) (fun _ h9 => h9) rfl dX6_ofKind_24 ?_
          refine lv_bipush hx hb dX6_ofKind_27 kc_bipush_21 ?_
          refine lv_iload hx hb dX6_ofKind_29 (lv_at hl 4 rfl) ?_
          refine lv_iadd hx hb dX6_ofKind_31 ?_
          obtain ⟨g5, hF⟩ := gd_at hF
          refine va_iald hx hb hK.1 hP 1 0 rfl rfl g5 dX6_ofKind_32 ?_
          refine lv_iload_n hx hb dX6_ofKind_33 rfl (lv_at hl 2 rfl) ?_
          refine lv_icmp_ne (tgt := 41) hx hb dX6_ofKind_34 (by decide) (fun c6 => ?_) (fun c6 => ?_)
          · have hF := ite_f c6 hF
            exact W_41 x2 x3 x5 x4 (f6_ofKind_l6 mN x2 x3 n) ih ls (lv_sub hl [0, 1, 2, 4] rfl) hF
          · have hF := ite_t c6 hF
            refine lv_iconst hx hb dX6_ofKind_37 kc_iconst_1 ?_
            refine lv_goto (tgt := 42) hx hb dX6_ofKind_38 (by decide) ?_
            exact W_42 x2 x3 x5 (1 : Int32) x4 (f6_ofKind_l6 mN x2 x3 n) ih ls (lv_sub hl [0, 1, 2, 4] rfl) hF
  rw [f6_ofKind] at hF
  show rW p l e wsX6_ofKind rm6_ofKind s m args below meth c (.int r) (F0 m 0 ls [])
  refine lv_iconst hx hb dX6_ofKind_0 kc_iconst_0 ?_
  refine lv_istore (lv' := [(4, .int (0 : Int32)), (0, .ref aX), (1, .int x1), (2, .int x2), (3, .int x3)]) hx hb dX6_ofKind_1 hl (by decide) rfl (fun ls hl => ?_)
  refine lv_iload_n hx hb dX6_ofKind_3 rfl (lv_at hl 2 rfl) ?_
  refine lv_istore (lv' := [(5, .int x1), (4, .int (0 : Int32)), (0, .ref aX), (1, .int x1), (2, .int x2), (3, .int x3)]) hx hb dX6_ofKind_4 hl (by decide) rfl (fun ls hl => ?_)
  exact W_6 x2 x3  fu (0 : Int32) x1 ls (lv_sub hl [2, 4, 5, 1, 0] rfl) hF
abbrev rm6_amounts : Room := { frames := 2, cells := 0, slots := 0, locals := 42 }
theorem hd6_amounts : yX6_amounts.cls = RX6 ∧ yX6_amounts.cls ≠ "java/lang/invoke/MethodHandle" ∧ yX6_amounts.cls ≠ "java/lang/invoke/VarHandle" ∧ (parseMethodDescriptor yX6_amounts.desc).map (fun d => d.parameters.length) = some 3 := by decide +kernel
set_option maxHeartbeats 4000000 in
set_option maxRecDepth 100000 in
theorem K6_amounts (l : Launch) (D : va_G) (cI cZ cS cJ : ClassId) (aX aN aP aJ aI aT aD : Nat) (ms : Int32) (ml : Int32) (mt : Int32) (mq : Int32) (mu : Int32) (mN : Nat → Int32) (mP : Nat → Int32) (mK : Nat → Int32) (mI : Nat → Int32) (mT : Nat → Int32) (mD : Nat → Int32) (x1 : Int32) (x2 : Int32) (x3 : Int32) (r : Int32) (hF : f6_amounts mN x1 x2 x3 = some (r)) : Met l yX6_amounts wsX6_amounts rm6_amounts (rP D (gT cI cZ cS cJ) (W6 cI aX aN aP aJ aI aT aD ms ml mt mq mu mN mP mK mI mT mD) [.ref aX, .int x1, .int x2, .int x3]) (rQ (.int r)) 0 0 (fun _ => False) := by
  refine Met.ofW (cc := cX6_amounts) (maxL := 6) (ret := (some .int)) (by decide) rfl ?_
  intro p e s m args below meth c s₁ B hml hv
  obtain ⟨ha, hK, hP⟩ := hv
  have hx := B.exec
  have hb := B.bytes
  have hr := B.returns
  have hlocks := B.notSynchronized
  have hts : ∀ w ∈ lw_all, w.before args s = true := fun w h => atoms_spec (ws := wsX6_amounts) B.pre w (List.mem_cons_of_mem _ h)
  have hown : s.vm.findClass RX6 = some m.cls := findClass_of_methodNamed B.named
  have S : CallFix p m c cX6_amounts 6 s args lw_all RX6 := ⟨hx, hb, hml, hown, hts⟩
  have hl := lv_entry ([.ref aX, .int x1, .int x2, .int x3] : List Value) (n := 6) (Nat.le_of_ble_eq_true rfl)
  refine W.eq (g2 := F0 m 0 ((lg_sl ([.ref aX, .int x1, .int x2, .int x3] : List Value) ++ List.replicate (6 - (lg_sl ([.ref aX, .int x1, .int x2, .int x3] : List Value)).length) Slot.unset).toArray) []) (by rw [ha]; exact lg_entry_eq _ _ _) ?_
  generalize (lg_sl ([.ref aX, .int x1, .int x2, .int x3] : List Value) ++ List.replicate (6 - (lg_sl ([.ref aX, .int x1, .int x2, .int x3] : List Value)).length) Slot.unset).toArray = ls at hl ⊢
  have hl : lv_has ls 6 [(0, .ref aX), (1, .int x1), (2, .int x2), (3, .int x3)] := hl
  clear ha
  have W_52 : ∀ (x2 : Int32) (x3 : Int32) (x5 : Int32) (s0 : Int32) (s1 : Int32) (k6 : Int32 → Int32 → Option (Int32)) (hk6 : ∀ (x4 : Int32) (x5 : Int32), ∀ (ls : Array Slot), lv_has ls 6 [(0, .ref aX), (2, .int x2), (3, .int x3), (4, .int x4), (5, .int x5)] → k6 x4 x5 = some (r) → rW p l e wsX6_amounts rm6_amounts s m args below meth c (.int r) (F0 m 6 ls [])), ∀ (ls : Array Slot), lv_has ls 6 [(0, .ref aX), (2, .int x2), (3, .int x3), (5, .int x5)] → f6_amounts_j52 k6 mN x2 x3 x5 s0 s1 = some (r) → rW p l e wsX6_amounts rm6_amounts s m args below meth c (.int r) (F0 m 52 ls [.int s0, .int s1]) := by
    intro x2 x3 x5 s0 s1 k6 hk6 ls hl hF
    rw [f6_amounts_j52] at hF
    refine lv_iadd hx hb dX6_amounts_52 ?_
    refine lv_istore (lv' := [(4, .int (s1 + s0)), (0, .ref aX), (2, .int x2), (3, .int x3), (5, .int x5)]) hx hb dX6_amounts_53 hl (by decide) rfl (fun ls hl => ?_)
    refine lv_iinc (v := (x5 + 1)) (lv' := [(5, .int (x5 + 1)), (4, .int (s1 + s0)), (0, .ref aX), (2, .int x2), (3, .int x3)]) hx hb dX6_amounts_55 hl (k := 4) rfl rfl (by decide) rfl (fun ls hl => ?_)
    refine lv_goto (tgt := 6) hx hb dX6_amounts_58 (by decide) ?_
    exact hk6 (s1 + s0) (x5 + 1) ls (lv_sub hl [2, 3, 4, 1, 0] rfl) hF
  have W_51 : ∀ (x2 : Int32) (x3 : Int32) (x5 : Int32) (s0 : Int32) (k6 : Int32 → Int32 → Option (Int32)) (hk6 : ∀ (x4 : Int32) (x5 : Int32), ∀ (ls : Array Slot), lv_has ls 6 [(0, .ref aX), (2, .int x2), (3, .int x3), (4, .int x4), (5, .int x5)] → k6 x4 x5 = some (r) → rW p l e wsX6_amounts rm6_amounts s m args below meth c (.int r) (F0 m 6 ls [])), ∀ (ls : Array Slot), lv_has ls 6 [(0, .ref aX), (2, .int x2), (3, .int x3), (5, .int x5)] → f6_amounts_j51 k6 mN x2 x3 x5 s0 = some (r) → rW p l e wsX6_amounts rm6_amounts s m args below meth c (.int r) (F0 m 51 ls [.int s0]) := by
    intro x2 x3 x5 s0 k6 hk6 ls hl hF
    rw [f6_amounts_j51] at hF
    refine lv_iconst hx hb dX6_amounts_51 kc_iconst_0 ?_
    exact W_52 x2 x3 x5 (0 : Int32) s0 k6 hk6 ls (lv_sub hl [0, 1, 2, 3] rfl) hF
  have W_6 : ∀ (x2 : Int32) (x3 : Int32) (n : Nat) (x4 : Int32) (x5 : Int32), ∀ (ls : Array Slot), lv_has ls 6 [(0, .ref aX), (2, .int x2), (3, .int x3), (4, .int x4), (5, .int x5)] → f6_amounts_l6 mN x2 x3 n x4 x5 = some (r) → rW p l e wsX6_amounts rm6_amounts s m args below meth c (.int r) (F0 m 6 ls []) := by
    intro x2 x3  n
    induction n with
    | zero =>
      intro x4 x5 ls hl hF
      rw [f6_amounts_l6] at hF
      cases hF
    | succ n ih =>
      intro x4 x5 ls hl hF
      rw [f6_amounts_l6] at hF
      refine lv_iload hx hb dX6_amounts_6 (lv_at hl 4 rfl) ?_
      refine lv_iload_n hx hb dX6_amounts_8 rfl (lv_at hl 1 rfl) ?_
      refine lv_icmp_ge (tgt := 61) hx hb dX6_amounts_9 (by decide) (fun c1 => ?_) (fun c1 => ?_)
      · have hF := ite_t c1 hF
        refine lv_iload hx hb dX6_amounts_61 (lv_at hl 3 rfl) ?_
        exact rret hF hx hb hr hlocks dX6_amounts_63
      · have hF := ite_f c1 hF
        refine lv_iload hx hb dX6_amounts_12 (lv_at hl 3 rfl) ?_
        refine lv_aload_n hx hb dX6_amounts_14 rfl (lv_at hl 0 rfl) ?_
        refine lv_iload hx hb dX6_amounts_15 (lv_at hl 4 rfl) ?_
        obtain ⟨q3, h2, hF⟩ := bd1_at hF
        refine rcall (va_runV (As := [.int x5]) (rest := [.int x4]) S (K6_isCheque l D cI cZ cS cJ aX aN aP aJ aI aT aD ms ml mt mq mu mN mP mK mI mT mD x5 q3 h2) (cwV 1 hts (gd_V wd_937 wd_939 wd_33 wd_67 wd_940) rfl rfl rfl hd6_isCheque ⟨Nat.le_of_ble_eq_true rfl, Nat.le_of_ble_eq_true rfl⟩) (rPreV hK hP (ci := 6) (q := (RX6, TX6, 11)) rfl rfl) rfl rfl hl.1 rfl (lv_room (Nat.le_of_ble_eq_true rfl)) dX6_amounts_17 ⟨(Nat.zero_le _), (Nat.zero_le _)⟩) ?_
        refine lv_if_eq (tgt := 51) hx hb dX6_amounts_20 (by decide) (fun c4 => ?_) (fun c4 => ?_)
        · have hF := ite_t c4 hF
          exact W_51 x2 x3 x5 x4 (f6_amounts_l6 mN x2 x3 n) ih ls (lv_sub hl [0, 1, 2, 4] rfl) hF
        · have hF := ite_f c4 hF
          refine lv_aload_n hx hb dX6_amounts_23 rfl (lv_at hl 0 rfl) ?_
          refine va_get (D := D) (ci := 6) (v := .ref aN) (C := RX6) (T := TX6) (N := 11) hx hb hts i_X6 hown hK.1 hP 0 rfl rfl 0 (by decide) (hts _ wd_811) (fun _ h9 => h9) rfl dX6_amounts_24 ?_
          refine lv_bipush hx hb dX6_amounts_27 kc_bipush_21 ?_
          refine lv_iload hx hb dX6_amounts_29 (lv_at hl 4 rfl) ?_
          refine lv_iadd hx hb dX6_amounts_31 ?_
          obtain ⟨g5, hF⟩ := gd_at hF
          refine va_iald hx hb hK.1 hP 1 0 rfl rfl g5 dX6_amounts_32 ?_
          refine lv_iload_n hx hb dX6_amounts_33 rfl (lv_at hl 2 rfl) ?_
          refine lv_icmp_ne (tgt := 51) hx hb dX6_amounts_34 (by decide) (fun c6 => ?_) (fun c6 => ?_)
          · have hF := ite_f c6 hF
            exact W_51 x2 x3 x5 x4 (f6_amounts_l6 mN x2 x3 n) ih ls (lv_sub hl [0, 1, 2, 4] rfl) hF
          · have hF := ite_t c6 hF
            refine lv_aload_n hx hb dX6_amounts_37 rfl (lv_at hl 0 rfl) ?_
            refine va_get (D := D) (ci := 6) (v := .ref aN) (C := RX6) (T := TX6) (N := 11) hx hb hts i_X6 hown hK.1 hP 0 rfl rfl 0 (by decide) (hts _ wd_811) (fun _ h9 => h9) rfl dX6_amounts_38 ?_
            refine lv_sipush hx hb dX6_amounts_41 kc_sipush_261 ?_
            refine lv_iload hx hb dX6_amounts_44 (lv_at hl 4 rfl) ?_
            refine lv_iadd hx hb dX6_amounts_46 ?_
            obtain ⟨g7, hF⟩ := gd_at hF
            refine va_iald hx hb hK.1 hP 1 0 rfl rfl g7 dX6_amounts_47 ?_
            refine lv_goto (tgt := 52) hx hb dX6_amounts_48 (by decide) ?_
            exact W_52 x2 x3 x5 (mN ((261 : Int32) + x5).toNatClampNeg) x4 (f6_amounts_l6 mN x2 x3 n) ih ls (lv_sub hl [0, 1, 2, 4] rfl) hF
  rw [f6_amounts] at hF
  show rW p l e wsX6_amounts rm6_amounts s m args below meth c (.int r) (F0 m 0 ls [])
  refine lv_iconst hx hb dX6_amounts_0 kc_iconst_0 ?_
  refine lv_istore (lv' := [(4, .int (0 : Int32)), (0, .ref aX), (1, .int x1), (2, .int x2), (3, .int x3)]) hx hb dX6_amounts_1 hl (by decide) rfl (fun ls hl => ?_)
  refine lv_iload_n hx hb dX6_amounts_3 rfl (lv_at hl 2 rfl) ?_
  refine lv_istore (lv' := [(5, .int x1), (4, .int (0 : Int32)), (0, .ref aX), (1, .int x1), (2, .int x2), (3, .int x3)]) hx hb dX6_amounts_4 hl (by decide) rfl (fun ls hl => ?_)
  exact W_6 x2 x3  fu (0 : Int32) x1 ls (lv_sub hl [2, 4, 5, 1, 0] rfl) hF
abbrev rm6_firstBlank : Room := { frames := 2, cells := 0, slots := 0, locals := 42 }
theorem hd6_firstBlank : yX6_firstBlank.cls = RX6 ∧ yX6_firstBlank.cls ≠ "java/lang/invoke/MethodHandle" ∧ yX6_firstBlank.cls ≠ "java/lang/invoke/VarHandle" ∧ (parseMethodDescriptor yX6_firstBlank.desc).map (fun d => d.parameters.length) = some 1 := by decide +kernel
set_option maxHeartbeats 4000000 in
set_option maxRecDepth 100000 in
theorem K6_firstBlank (l : Launch) (D : va_G) (cI cZ cS cJ : ClassId) (aX aN aP aJ aI aT aD : Nat) (ms : Int32) (ml : Int32) (mt : Int32) (mq : Int32) (mu : Int32) (mN : Nat → Int32) (mP : Nat → Int32) (mK : Nat → Int32) (mI : Nat → Int32) (mT : Nat → Int32) (mD : Nat → Int32) (x1 : Int32) (r : Int32) (hF : f6_firstBlank mN x1 = some (r)) : Met l yX6_firstBlank wsX6_firstBlank rm6_firstBlank (rP D (gT cI cZ cS cJ) (W6 cI aX aN aP aJ aI aT aD ms ml mt mq mu mN mP mK mI mT mD) [.ref aX, .int x1]) (rQ (.int r)) 0 0 (fun _ => False) := by
  refine Met.ofW (cc := cX6_firstBlank) (maxL := 3) (ret := (some .int)) (by decide) rfl ?_
  intro p e s m args below meth c s₁ B hml hv
  obtain ⟨ha, hK, hP⟩ := hv
  have hx := B.exec
  have hb := B.bytes
  have hr := B.returns
  have hlocks := B.notSynchronized
  have hts : ∀ w ∈ lw_all, w.before args s = true := fun w h => atoms_spec (ws := wsX6_firstBlank) B.pre w (List.mem_cons_of_mem _ h)
  have hown : s.vm.findClass RX6 = some m.cls := findClass_of_methodNamed B.named
  have S : CallFix p m c cX6_firstBlank 3 s args lw_all RX6 := ⟨hx, hb, hml, hown, hts⟩
  have hl := lv_entry ([.ref aX, .int x1] : List Value) (n := 3) (Nat.le_of_ble_eq_true rfl)
  refine W.eq (g2 := F0 m 0 ((lg_sl ([.ref aX, .int x1] : List Value) ++ List.replicate (3 - (lg_sl ([.ref aX, .int x1] : List Value)).length) Slot.unset).toArray) []) (by rw [ha]; exact lg_entry_eq _ _ _) ?_
  generalize (lg_sl ([.ref aX, .int x1] : List Value) ++ List.replicate (3 - (lg_sl ([.ref aX, .int x1] : List Value)).length) Slot.unset).toArray = ls at hl ⊢
  have hl : lv_has ls 3 [(0, .ref aX), (1, .int x1)] := hl
  clear ha
  have W_5 : ∀ (x1 : Int32) (n : Nat) (x2 : Int32), ∀ (ls : Array Slot), lv_has ls 3 [(0, .ref aX), (1, .int x1), (2, .int x2)] → f6_firstBlank_l5 mN x1 n x2 = some (r) → rW p l e wsX6_firstBlank rm6_firstBlank s m args below meth c (.int r) (F0 m 5 ls []) := by
    intro x1  n
    induction n with
    | zero =>
      intro x2 ls hl hF
      rw [f6_firstBlank_l5] at hF
      cases hF
    | succ n ih =>
      intro x2 ls hl hF
      rw [f6_firstBlank_l5] at hF
      refine lv_iload_n hx hb dX6_firstBlank_5 rfl (lv_at hl 2 rfl) ?_
      refine lv_bipush hx hb dX6_firstBlank_6 kc_bipush_40 ?_
      refine lv_iload_n hx hb dX6_firstBlank_8 rfl (lv_at hl 1 rfl) ?_
      refine lv_imul hx hb dX6_firstBlank_9 ?_
      refine lv_aload_n hx hb dX6_firstBlank_10 rfl (lv_at hl 0 rfl) ?_
      refine lv_iload_n hx hb dX6_firstBlank_11 rfl (lv_at hl 1 rfl) ?_
      obtain ⟨q2, h1, hF⟩ := bd1_at hF
      refine rcall (va_runV (As := [.int x1]) (rest := [.int ((40 : Int32) * x1), .int x2]) S (K6_countOf l D cI cZ cS cJ aX aN aP aJ aI aT aD ms ml mt mq mu mN mP mK mI mT mD x1 q2 h1) (cwV 1 hts (gd_V wd_891 wd_893 wd_26 wd_67 wd_894) rfl rfl rfl hd6_countOf ⟨Nat.le_of_ble_eq_true rfl, Nat.le_of_ble_eq_true rfl⟩) (rPreV hK hP (ci := 6) (q := (RX6, TX6, 11)) rfl rfl) rfl rfl hl.1 rfl (lv_room (Nat.le_of_ble_eq_true rfl)) dX6_firstBlank_12 ⟨(Nat.zero_le _), (Nat.zero_le _)⟩) ?_
      refine lv_iadd hx hb dX6_firstBlank_15 ?_
      refine lv_icmp_ge (tgt := 43) hx hb dX6_firstBlank_16 (by decide) (fun c3 => ?_) (fun c3 => ?_)
      · have hF := ite_t c3 hF
        refine lv_iconst hx hb dX6_firstBlank_43 kc_iconst_m1 ?_
        exact rret hF hx hb hr hlocks dX6_firstBlank_44
      · have hF := ite_f c3 hF
        refine lv_aload_n hx hb dX6_firstBlank_19 rfl (lv_at hl 0 rfl) ?_
        refine va_get (D := D) (ci := 6) (v := .ref aN) (C := RX6) (T := TX6) (N := 11) hx hb hts i_X6 hown hK.1 hP 0 rfl rfl 0 (by decide) (hts _ wd_811) (fun _ h9 => h9) rfl dX6_firstBlank_20 ?_
        refine lv_bipush hx hb dX6_firstBlank_23 kc_bipush_21 ?_
        refine lv_iload_n hx hb dX6_firstBlank_25 rfl (lv_at hl 2 rfl) ?_
        refine lv_iadd hx hb dX6_firstBlank_26 ?_
        obtain ⟨g4, hF⟩ := gd_at hF
        refine va_iald hx hb hK.1 hP 1 0 rfl rfl g4 dX6_firstBlank_27 ?_
        refine lv_if_ne (tgt := 37) hx hb dX6_firstBlank_28 (by decide) (fun c5 => ?_) (fun c5 => ?_)
        · have hF := ite_f c5 hF
          refine lv_iinc (v := (x2 + 1)) (lv' := [(2, .int (x2 + 1)), (0, .ref aX), (1, .int x1)]) hx hb dX6_firstBlank_37 hl (k := 2) rfl rfl (by decide) rfl (fun ls hl => ?_)
          refine lv_goto (tgt := 5) hx hb dX6_firstBlank_40 (by decide) ?_
          exact ih (x2 + 1) ls (lv_sub hl [1, 2, 0] rfl) hF
        · have hF := ite_t c5 hF
          refine lv_aload_n hx hb dX6_firstBlank_31 rfl (lv_at hl 0 rfl) ?_
          refine lv_iload_n hx hb dX6_firstBlank_32 rfl (lv_at hl 2 rfl) ?_
          obtain ⟨q7, h6, hF⟩ := bd1_at hF
          refine rcall (va_runV (As := [.int x2]) (rest := []) S (K6_serialAt l D cI cZ cS cJ aX aN aP aJ aI aT aD ms ml mt mq mu mN mP mK mI mT mD x2 q7 h6) (cwV 1 hts (gd_V wd_941 wd_943 wd_34 wd_67 wd_944) rfl rfl rfl hd6_serialAt ⟨Nat.le_of_ble_eq_true rfl, Nat.le_of_ble_eq_true rfl⟩) (rPreV hK hP (ci := 6) (q := (RX6, TX6, 11)) rfl rfl) rfl rfl hl.1 rfl (lv_room (Nat.le_of_ble_eq_true rfl)) dX6_firstBlank_33 ⟨(Nat.zero_le _), (Nat.zero_le _)⟩) ?_
          exact rret hF hx hb hr hlocks dX6_firstBlank_36
  rw [f6_firstBlank] at hF
  show rW p l e wsX6_firstBlank rm6_firstBlank s m args below meth c (.int r) (F0 m 0 ls [])
  refine lv_bipush hx hb dX6_firstBlank_0 kc_bipush_40 ?_
  refine lv_iload_n hx hb dX6_firstBlank_2 rfl (lv_at hl 1 rfl) ?_
  refine lv_imul hx hb dX6_firstBlank_3 ?_
  refine lv_istore_n (lv' := [(2, .int ((40 : Int32) * x1)), (0, .ref aX), (1, .int x1)]) hx hb dX6_firstBlank_4 rfl hl (by decide) rfl (fun ls hl => ?_)
  exact W_5 x1  fu ((40 : Int32) * x1) ls (lv_sub hl [1, 2, 0] rfl) hF
abbrev rm6_aboutBook : Room := { frames := 3, cells := 0, slots := 0, locals := 67 }
theorem hd6_aboutBook : yX6_aboutBook.cls = RX6 ∧ yX6_aboutBook.cls ≠ "java/lang/invoke/MethodHandle" ∧ yX6_aboutBook.cls ≠ "java/lang/invoke/VarHandle" ∧ (parseMethodDescriptor yX6_aboutBook.desc).map (fun d => d.parameters.length) = some 2 := by decide +kernel
set_option maxHeartbeats 4000000 in
set_option maxRecDepth 100000 in
theorem K6_aboutBook (l : Launch) (D : va_G) (cI cZ cS cJ : ClassId) (aX aN aP aJ aI aT aD : Nat) (ms : Int32) (ml : Int32) (mt : Int32) (mq : Int32) (mu : Int32) (mN : Nat → Int32) (mP : Nat → Int32) (mK : Nat → Int32) (mI : Nat → Int32) (mT : Nat → Int32) (mD : Nat → Int32) (x1 : Int32) (x2 : Int32) (r : Int32) (hF : f6_aboutBook mN x1 x2 = some (r)) : Met l yX6_aboutBook wsX6_aboutBook rm6_aboutBook (rP D (gT cI cZ cS cJ) (W6 cI aX aN aP aJ aI aT aD ms ml mt mq mu mN mP mK mI mT mD) [.ref aX, .int x1, .int x2]) (rQ (.int r)) 0 0 (fun _ => False) := by
  refine Met.ofW (cc := cX6_aboutBook) (maxL := 4) (ret := (some .int)) (by decide) rfl ?_
  intro p e s m args below meth c s₁ B hml hv
  obtain ⟨ha, hK, hP⟩ := hv
  have hx := B.exec
  have hb := B.bytes
  have hr := B.returns
  have hlocks := B.notSynchronized
  have hts : ∀ w ∈ lw_all, w.before args s = true := fun w h => atoms_spec (ws := wsX6_aboutBook) B.pre w (List.mem_cons_of_mem _ h)
  have hown : s.vm.findClass RX6 = some m.cls := findClass_of_methodNamed B.named
  have S : CallFix p m c cX6_aboutBook 4 s args lw_all RX6 := ⟨hx, hb, hml, hown, hts⟩
  have hl := lv_entry ([.ref aX, .int x1, .int x2] : List Value) (n := 4) (Nat.le_of_ble_eq_true rfl)
  refine W.eq (g2 := F0 m 0 ((lg_sl ([.ref aX, .int x1, .int x2] : List Value) ++ List.replicate (4 - (lg_sl ([.ref aX, .int x1, .int x2] : List Value)).length) Slot.unset).toArray) []) (by rw [ha]; exact lg_entry_eq _ _ _) ?_
  generalize (lg_sl ([.ref aX, .int x1, .int x2] : List Value) ++ List.replicate (4 - (lg_sl ([.ref aX, .int x1, .int x2] : List Value)).length) Slot.unset).toArray = ls at hl ⊢
  have hl : lv_has ls 4 [(0, .ref aX), (1, .int x1), (2, .int x2)] := hl
  rw [f6_aboutBook] at hF
  show rW p l e wsX6_aboutBook rm6_aboutBook s m args below meth c (.int r) (F0 m 0 ls [])
  refine lv_bipush hx hb dX6_aboutBook_0 kc_bipush_40 ?_
  refine lv_iload_n hx hb dX6_aboutBook_2 rfl (lv_at hl 1 rfl) ?_
  refine lv_imul hx hb dX6_aboutBook_3 ?_
  refine lv_istore_n (lv' := [(3, .int ((40 : Int32) * x1)), (0, .ref aX), (1, .int x1), (2, .int x2)]) hx hb dX6_aboutBook_4 rfl hl (by decide) rfl (fun ls hl => ?_)
  refine lv_iload_n hx hb dX6_aboutBook_5 rfl (lv_at hl 3 rfl) ?_
  by_cases c1 : x2 = (0 : Int32)
  · have hF := ite_t c1 hF
    refine lv_tableIn (tgt := 56) hx hb dX6_aboutBook_6 (by rw [c1]; decide) (by rw [c1]; decide) (by rw [c1]; rfl) (by decide) ?_
    refine lv_aload_n hx hb dX6_aboutBook_56 rfl (lv_at hl 1 rfl) ?_
    refine va_get (D := D) (ci := 6) (v := .ref aN) (C := RX6) (T := TX6) (N := 11) hx hb hts i_X6 hown hK.1 hP 0 rfl rfl 0 (by decide) (hts _ wd_811) (fun _ h9 => h9) rfl dX6_aboutBook_57 ?_
    refine lv_bipush hx hb dX6_aboutBook_60 kc_bipush_9 ?_
    refine lv_iconst hx hb dX6_aboutBook_62 kc_iconst_2 ?_
    refine lv_iload_n hx hb dX6_aboutBook_63 rfl (lv_at hl 2 rfl) ?_
    refine lv_imul hx hb dX6_aboutBook_64 ?_
    refine lv_iadd hx hb dX6_aboutBook_65 ?_
    refine lv_iload_n hx hb dX6_aboutBook_66 rfl (lv_at hl 3 rfl) ?_
    refine lv_iadd hx hb dX6_aboutBook_67 ?_
    obtain ⟨g2, hF⟩ := gd_at hF
    refine va_iald hx hb hK.1 hP 1 0 rfl rfl g2 dX6_aboutBook_68 ?_
    exact rret hF hx hb hr hlocks dX6_aboutBook_69
  have hF := ite_f c1 hF
  by_cases c3 : x2 = (1 : Int32)
  · have hF := ite_t c3 hF
    refine lv_tableIn (tgt := 56) hx hb dX6_aboutBook_6 (by rw [c3]; decide) (by rw [c3]; decide) (by rw [c3]; rfl) (by decide) ?_
    refine lv_aload_n hx hb dX6_aboutBook_56 rfl (lv_at hl 1 rfl) ?_
    refine va_get (D := D) (ci := 6) (v := .ref aN) (C := RX6) (T := TX6) (N := 11) hx hb hts i_X6 hown hK.1 hP 0 rfl rfl 0 (by decide) (hts _ wd_811) (fun _ h9 => h9) rfl dX6_aboutBook_57 ?_
    refine lv_bipush hx hb dX6_aboutBook_60 kc_bipush_9 ?_
    refine lv_iconst hx hb dX6_aboutBook_62 kc_iconst_2 ?_
    refine lv_iload_n hx hb dX6_aboutBook_63 rfl (lv_at hl 2 rfl) ?_
    refine lv_imul hx hb dX6_aboutBook_64 ?_
    refine lv_iadd hx hb dX6_aboutBook_65 ?_
    refine lv_iload_n hx hb dX6_aboutBook_66 rfl (lv_at hl 3 rfl) ?_
    refine lv_iadd hx hb dX6_aboutBook_67 ?_
    obtain ⟨g4, hF⟩ := gd_at hF
    refine va_iald hx hb hK.1 hP 1 0 rfl rfl g4 dX6_aboutBook_68 ?_
    exact rret hF hx hb hr hlocks dX6_aboutBook_69
  have hF := ite_f c3 hF
  by_cases c5 : x2 = (2 : Int32)
  · have hF := ite_t c5 hF
    refine lv_tableIn (tgt := 89) hx hb dX6_aboutBook_6 (by rw [c5]; decide) (by rw [c5]; decide) (by rw [c5]; rfl) (by decide) ?_
    refine lv_aload_n hx hb dX6_aboutBook_89 rfl (lv_at hl 1 rfl) ?_
    refine lv_iload_n hx hb dX6_aboutBook_90 rfl (lv_at hl 0 rfl) ?_
    refine lv_iload_n hx hb dX6_aboutBook_91 rfl (lv_at hl 0 rfl) ?_
    refine lv_bipush hx hb dX6_aboutBook_92 kc_bipush_40 ?_
    refine lv_iadd hx hb dX6_aboutBook_94 ?_
    refine lv_iload_n hx hb dX6_aboutBook_95 rfl (lv_at hl 3 rfl) ?_
    refine lv_iconst hx hb dX6_aboutBook_96 kc_iconst_2 ?_
    refine lv_isub hx hb dX6_aboutBook_97 ?_
    obtain ⟨q19, h18, hF⟩ := bd1_at hF
    refine rcall (va_runV (As := [.int ((40 : Int32) * x1), .int (((40 : Int32) * x1) + (40 : Int32)), .int (x2 - (2 : Int32))]) (rest := []) S (K6_ofKind l D cI cZ cS cJ aX aN aP aJ aI aT aD ms ml mt mq mu mN mP mK mI mT mD ((40 : Int32) * x1) (((40 : Int32) * x1) + (40 : Int32)) (x2 - (2 : Int32)) q19 h18) (cwV 3 hts (gd_V wd_1037 wd_1039 wd_48 wd_67 wd_1040) rfl rfl rfl hd6_ofKind ⟨Nat.le_of_ble_eq_true rfl, Nat.le_of_ble_eq_true rfl⟩) (rPreV hK hP (ci := 6) (q := (RX6, TX6, 11)) rfl rfl) rfl rfl hl.1 rfl (lv_room (Nat.le_of_ble_eq_true rfl)) dX6_aboutBook_98 ⟨(Nat.zero_le _), (Nat.zero_le _)⟩) ?_
    exact rret hF hx hb hr hlocks dX6_aboutBook_101
  have hF := ite_f c5 hF
  by_cases c6 : x2 = (3 : Int32)
  · have hF := ite_t c6 hF
    refine lv_tableIn (tgt := 89) hx hb dX6_aboutBook_6 (by rw [c6]; decide) (by rw [c6]; decide) (by rw [c6]; rfl) (by decide) ?_
    refine lv_aload_n hx hb dX6_aboutBook_89 rfl (lv_at hl 1 rfl) ?_
    refine lv_iload_n hx hb dX6_aboutBook_90 rfl (lv_at hl 0 rfl) ?_
    refine lv_iload_n hx hb dX6_aboutBook_91 rfl (lv_at hl 0 rfl) ?_
    refine lv_bipush hx hb dX6_aboutBook_92 kc_bipush_40 ?_
    refine lv_iadd hx hb dX6_aboutBook_94 ?_
    refine lv_iload_n hx hb dX6_aboutBook_95 rfl (lv_at hl 3 rfl) ?_
    refine lv_iconst hx hb dX6_aboutBook_96 kc_iconst_2 ?_
    refine lv_isub hx hb dX6_aboutBook_97 ?_
    obtain ⟨q19, h18, hF⟩ := bd1_at hF
    refine rcall (va_runV (As := [.int ((40 : Int32) * x1), .int (((40 : Int32) * x1) + (40 : Int32)), .int (x2 - (2 : Int32))]) (rest := []) S (K6_ofKind l D cI cZ cS cJ aX aN aP aJ aI aT aD ms ml mt mq mu mN mP mK mI mT mD ((40 : Int32) * x1) (((40 : Int32) * x1) + (40 : Int32)) (x2 - (2 : Int32)) q19 h18) (cwV 3 hts (gd_V wd_1037 wd_1039 wd_48 wd_67 wd_1040) rfl rfl rfl hd6_ofKind ⟨Nat.le_of_ble_eq_true rfl, Nat.le_of_ble_eq_true rfl⟩) (rPreV hK hP (ci := 6) (q := (RX6, TX6, 11)) rfl rfl) rfl rfl hl.1 rfl (lv_room (Nat.le_of_ble_eq_true rfl)) dX6_aboutBook_98 ⟨(Nat.zero_le _), (Nat.zero_le _)⟩) ?_
    exact rret hF hx hb hr hlocks dX6_aboutBook_101
  have hF := ite_f c6 hF
  by_cases c7 : x2 = (4 : Int32)
  · have hF := ite_t c7 hF
    refine lv_tableIn (tgt := 89) hx hb dX6_aboutBook_6 (by rw [c7]; decide) (by rw [c7]; decide) (by rw [c7]; rfl) (by decide) ?_
    refine lv_aload_n hx hb dX6_aboutBook_89 rfl (lv_at hl 1 rfl) ?_
    refine lv_iload_n hx hb dX6_aboutBook_90 rfl (lv_at hl 0 rfl) ?_
    refine lv_iload_n hx hb dX6_aboutBook_91 rfl (lv_at hl 0 rfl) ?_
    refine lv_bipush hx hb dX6_aboutBook_92 kc_bipush_40 ?_
    refine lv_iadd hx hb dX6_aboutBook_94 ?_
    refine lv_iload_n hx hb dX6_aboutBook_95 rfl (lv_at hl 3 rfl) ?_
    refine lv_iconst hx hb dX6_aboutBook_96 kc_iconst_2 ?_
    refine lv_isub hx hb dX6_aboutBook_97 ?_
    obtain ⟨q19, h18, hF⟩ := bd1_at hF
    refine rcall (va_runV (As := [.int ((40 : Int32) * x1), .int (((40 : Int32) * x1) + (40 : Int32)), .int (x2 - (2 : Int32))]) (rest := []) S (K6_ofKind l D cI cZ cS cJ aX aN aP aJ aI aT aD ms ml mt mq mu mN mP mK mI mT mD ((40 : Int32) * x1) (((40 : Int32) * x1) + (40 : Int32)) (x2 - (2 : Int32)) q19 h18) (cwV 3 hts (gd_V wd_1037 wd_1039 wd_48 wd_67 wd_1040) rfl rfl rfl hd6_ofKind ⟨Nat.le_of_ble_eq_true rfl, Nat.le_of_ble_eq_true rfl⟩) (rPreV hK hP (ci := 6) (q := (RX6, TX6, 11)) rfl rfl) rfl rfl hl.1 rfl (lv_room (Nat.le_of_ble_eq_true rfl)) dX6_aboutBook_98 ⟨(Nat.zero_le _), (Nat.zero_le _)⟩) ?_
    exact rret hF hx hb hr hlocks dX6_aboutBook_101
  have hF := ite_f c7 hF
  by_cases c8 : x2 = (5 : Int32)
  · have hF := ite_t c8 hF
    refine lv_tableIn (tgt := 89) hx hb dX6_aboutBook_6 (by rw [c8]; decide) (by rw [c8]; decide) (by rw [c8]; rfl) (by decide) ?_
    refine lv_aload_n hx hb dX6_aboutBook_89 rfl (lv_at hl 1 rfl) ?_
    refine lv_iload_n hx hb dX6_aboutBook_90 rfl (lv_at hl 0 rfl) ?_
    refine lv_iload_n hx hb dX6_aboutBook_91 rfl (lv_at hl 0 rfl) ?_
    refine lv_bipush hx hb dX6_aboutBook_92 kc_bipush_40 ?_
    refine lv_iadd hx hb dX6_aboutBook_94 ?_
    refine lv_iload_n hx hb dX6_aboutBook_95 rfl (lv_at hl 3 rfl) ?_
    refine lv_iconst hx hb dX6_aboutBook_96 kc_iconst_2 ?_
    refine lv_isub hx hb dX6_aboutBook_97 ?_
    obtain ⟨q19, h18, hF⟩ := bd1_at hF
    refine rcall (va_runV (As := [.int ((40 : Int32) * x1), .int (((40 : Int32) * x1) + (40 : Int32)), .int (x2 - (2 : Int32))]) (rest := []) S (K6_ofKind l D cI cZ cS cJ aX aN aP aJ aI aT aD ms ml mt mq mu mN mP mK mI mT mD ((40 : Int32) * x1) (((40 : Int32) * x1) + (40 : Int32)) (x2 - (2 : Int32)) q19 h18) (cwV 3 hts (gd_V wd_1037 wd_1039 wd_48 wd_67 wd_1040) rfl rfl rfl hd6_ofKind ⟨Nat.le_of_ble_eq_true rfl, Nat.le_of_ble_eq_true rfl⟩) (rPreV hK hP (ci := 6) (q := (RX6, TX6, 11)) rfl rfl) rfl rfl hl.1 rfl (lv_room (Nat.le_of_ble_eq_true rfl)) dX6_aboutBook_98 ⟨(Nat.zero_le _), (Nat.zero_le _)⟩) ?_
    exact rret hF hx hb hr hlocks dX6_aboutBook_101
  have hF := ite_f c8 hF
  by_cases c9 : x2 = (6 : Int32)
  · have hF := ite_t c9 hF
    refine lv_tableIn (tgt := 70) hx hb dX6_aboutBook_6 (by rw [c9]; decide) (by rw [c9]; decide) (by rw [c9]; rfl) (by decide) ?_
    refine lv_aload_n hx hb dX6_aboutBook_70 rfl (lv_at hl 1 rfl) ?_
    refine lv_iload_n hx hb dX6_aboutBook_71 rfl (lv_at hl 0 rfl) ?_
    refine lv_iload_n hx hb dX6_aboutBook_72 rfl (lv_at hl 0 rfl) ?_
    refine lv_bipush hx hb dX6_aboutBook_73 kc_bipush_40 ?_
    refine lv_iadd hx hb dX6_aboutBook_75 ?_
    refine lv_iload_n hx hb dX6_aboutBook_76 rfl (lv_at hl 3 rfl) ?_
    refine lv_iconst hx hb dX6_aboutBook_77 kc_iconst_5 ?_
    refine lv_isub hx hb dX6_aboutBook_78 ?_
    obtain ⟨q11, h10, hF⟩ := bd1_at hF
    refine rcall (va_runV (As := [.int ((40 : Int32) * x1), .int (((40 : Int32) * x1) + (40 : Int32)), .int (x2 - (5 : Int32))]) (rest := []) S (K6_amounts l D cI cZ cS cJ aX aN aP aJ aI aT aD ms ml mt mq mu mN mP mK mI mT mD ((40 : Int32) * x1) (((40 : Int32) * x1) + (40 : Int32)) (x2 - (5 : Int32)) q11 h10) (cwV 3 hts (gd_V wd_1029 wd_1031 wd_46 wd_67 wd_1032) rfl rfl rfl hd6_amounts ⟨Nat.le_of_ble_eq_true rfl, Nat.le_of_ble_eq_true rfl⟩) (rPreV hK hP (ci := 6) (q := (RX6, TX6, 11)) rfl rfl) rfl rfl hl.1 rfl (lv_room (Nat.le_of_ble_eq_true rfl)) dX6_aboutBook_79 ⟨(Nat.zero_le _), (Nat.zero_le _)⟩) ?_
    exact rret hF hx hb hr hlocks dX6_aboutBook_82
  have hF := ite_f c9 hF
  by_cases c12 : x2 = (7 : Int32)
  · have hF := ite_t c12 hF
    refine lv_tableIn (tgt := 70) hx hb dX6_aboutBook_6 (by rw [c12]; decide) (by rw [c12]; decide) (by rw [c12]; rfl) (by decide) ?_
    refine lv_aload_n hx hb dX6_aboutBook_70 rfl (lv_at hl 1 rfl) ?_
    refine lv_iload_n hx hb dX6_aboutBook_71 rfl (lv_at hl 0 rfl) ?_
    refine lv_iload_n hx hb dX6_aboutBook_72 rfl (lv_at hl 0 rfl) ?_
    refine lv_bipush hx hb dX6_aboutBook_73 kc_bipush_40 ?_
    refine lv_iadd hx hb dX6_aboutBook_75 ?_
    refine lv_iload_n hx hb dX6_aboutBook_76 rfl (lv_at hl 3 rfl) ?_
    refine lv_iconst hx hb dX6_aboutBook_77 kc_iconst_5 ?_
    refine lv_isub hx hb dX6_aboutBook_78 ?_
    obtain ⟨q14, h13, hF⟩ := bd1_at hF
    refine rcall (va_runV (As := [.int ((40 : Int32) * x1), .int (((40 : Int32) * x1) + (40 : Int32)), .int (x2 - (5 : Int32))]) (rest := []) S (K6_amounts l D cI cZ cS cJ aX aN aP aJ aI aT aD ms ml mt mq mu mN mP mK mI mT mD ((40 : Int32) * x1) (((40 : Int32) * x1) + (40 : Int32)) (x2 - (5 : Int32)) q14 h13) (cwV 3 hts (gd_V wd_1029 wd_1031 wd_46 wd_67 wd_1032) rfl rfl rfl hd6_amounts ⟨Nat.le_of_ble_eq_true rfl, Nat.le_of_ble_eq_true rfl⟩) (rPreV hK hP (ci := 6) (q := (RX6, TX6, 11)) rfl rfl) rfl rfl hl.1 rfl (lv_room (Nat.le_of_ble_eq_true rfl)) dX6_aboutBook_79 ⟨(Nat.zero_le _), (Nat.zero_le _)⟩) ?_
    exact rret hF hx hb hr hlocks dX6_aboutBook_82
  have hF := ite_f c12 hF
  by_cases c15 : x2 = (8 : Int32)
  · have hF := ite_t c15 hF
    refine lv_tableIn (tgt := 83) hx hb dX6_aboutBook_6 (by rw [c15]; decide) (by rw [c15]; decide) (by rw [c15]; rfl) (by decide) ?_
    refine lv_aload_n hx hb dX6_aboutBook_83 rfl (lv_at hl 1 rfl) ?_
    refine lv_iload_n hx hb dX6_aboutBook_84 rfl (lv_at hl 2 rfl) ?_
    obtain ⟨q17, h16, hF⟩ := bd1_at hF
    refine rcall (va_runV (As := [.int x1]) (rest := []) S (K6_firstBlank l D cI cZ cS cJ aX aN aP aJ aI aT aD ms ml mt mq mu mN mP mK mI mT mD x1 q17 h16) (cwV 1 hts (gd_V wd_1033 wd_1035 wd_47 wd_67 wd_1036) rfl rfl rfl hd6_firstBlank ⟨Nat.le_of_ble_eq_true rfl, Nat.le_of_ble_eq_true rfl⟩) (rPreV hK hP (ci := 6) (q := (RX6, TX6, 11)) rfl rfl) rfl rfl hl.1 rfl (lv_room (Nat.le_of_ble_eq_true rfl)) dX6_aboutBook_85 ⟨(Nat.zero_le _), (Nat.zero_le _)⟩) ?_
    exact rret hF hx hb hr hlocks dX6_aboutBook_88
  have hF := ite_f c15 hF
  refine lv_tableOut (tgt := 89) hx hb dX6_aboutBook_6 (by have q0 := ne_ti c1 (show (0 : Int32).toInt = 0 by decide); have q1 := ne_ti c3 (show (1 : Int32).toInt = 1 by decide); have q2 := ne_ti c5 (show (2 : Int32).toInt = 2 by decide); have q3 := ne_ti c6 (show (3 : Int32).toInt = 3 by decide); have q4 := ne_ti c7 (show (4 : Int32).toInt = 4 by decide); have q5 := ne_ti c8 (show (5 : Int32).toInt = 5 by decide); have q6 := ne_ti c9 (show (6 : Int32).toInt = 6 by decide); have q7 := ne_ti c12 (show (7 : Int32).toInt = 7 by decide); have q8 := ne_ti c15 (show (8 : Int32).toInt = 8 by decide); omega) (by decide) ?_
  refine lv_aload_n hx hb dX6_aboutBook_89 rfl (lv_at hl 1 rfl) ?_
  refine lv_iload_n hx hb dX6_aboutBook_90 rfl (lv_at hl 0 rfl) ?_
  refine lv_iload_n hx hb dX6_aboutBook_91 rfl (lv_at hl 0 rfl) ?_
  refine lv_bipush hx hb dX6_aboutBook_92 kc_bipush_40 ?_
  refine lv_iadd hx hb dX6_aboutBook_94 ?_
  refine lv_iload_n hx hb dX6_aboutBook_95 rfl (lv_at hl 3 rfl) ?_
  refine lv_iconst hx hb dX6_aboutBook_96 kc_iconst_2 ?_
  refine lv_isub hx hb dX6_aboutBook_97 ?_
  obtain ⟨q19, h18, hF⟩ := bd1_at hF
  refine rcall (va_runV (As := [.int ((40 : Int32) * x1), .int (((40 : Int32) * x1) + (40 : Int32)), .int (x2 - (2 : Int32))]) (rest := []) S (K6_ofKind l D cI cZ cS cJ aX aN aP aJ aI aT aD ms ml mt mq mu mN mP mK mI mT mD ((40 : Int32) * x1) (((40 : Int32) * x1) + (40 : Int32)) (x2 - (2 : Int32)) q19 h18) (cwV 3 hts (gd_V wd_1037 wd_1039 wd_48 wd_67 wd_1040) rfl rfl rfl hd6_ofKind ⟨Nat.le_of_ble_eq_true rfl, Nat.le_of_ble_eq_true rfl⟩) (rPreV hK hP (ci := 6) (q := (RX6, TX6, 11)) rfl rfl) rfl rfl hl.1 rfl (lv_room (Nat.le_of_ble_eq_true rfl)) dX6_aboutBook_98 ⟨(Nat.zero_le _), (Nat.zero_le _)⟩) ?_
  exact rret hF hx hb hr hlocks dX6_aboutBook_101
abbrev rm6_bookOf : Room := { frames := 4, cells := 0, slots := 0, locals := 90 }
theorem hd6_bookOf : yX6_bookOf.cls = RX6 ∧ yX6_bookOf.cls ≠ "java/lang/invoke/MethodHandle" ∧ yX6_bookOf.cls ≠ "java/lang/invoke/VarHandle" ∧ (parseMethodDescriptor yX6_bookOf.desc).map (fun d => d.parameters.length) = some 2 := by decide +kernel
set_option maxHeartbeats 4000000 in
set_option maxRecDepth 100000 in
theorem K6_bookOf (l : Launch) (D : va_G) (cI cZ cS cJ : ClassId) (aX aN aP aJ aI aT aD : Nat) (ms : Int32) (ml : Int32) (mt : Int32) (mq : Int32) (mu : Int32) (mN : Nat → Int32) (mP : Nat → Int32) (mK : Nat → Int32) (mI : Nat → Int32) (mT : Nat → Int32) (mD : Nat → Int32) (x1 : Int32) (x2 : Int32) (r : Int32) (z_mt : Int32) (hF : f6_bookOf mt mN x1 x2 = some (r, z_mt)) : Met l yX6_bookOf wsX6_bookOf rm6_bookOf (uP D (gT cI cZ cS cJ) (W6 cI aX aN aP aJ aI aT aD ms ml mt mq mu mN mP mK mI mT mD) [.ref aX, .int x1, .int x2]) (uQ D (some (.int r)) (uA (W6 cI aX aN aP aJ aI aT aD ms ml mt mq mu mN mP mK mI mT mD)) (W6 cI aX aN aP aJ aI aT aD ms ml z_mt mq mu mN mP mK mI mT mD)) 0 0 (uA (W6 cI aX aN aP aJ aI aT aD ms ml mt mq mu mN mP mK mI mT mD)) := by
  refine Met.ofW (cc := cX6_bookOf) (maxL := 3) (ret := (some .int)) (by decide) rfl ?_
  intro p e s m args below meth c s₁ B hml hv
  obtain ⟨ha, hK, hP, hD0⟩ := hv
  have hx := B.exec
  have hb := B.bytes
  have hr := B.returns
  have hlocks := B.notSynchronized
  have hts : ∀ w ∈ lw_all, w.before args s = true := fun w h => atoms_spec (ws := wsX6_bookOf) B.pre w (List.mem_cons_of_mem _ h)
  have hown : s.vm.findClass RX6 = some m.cls := findClass_of_methodNamed B.named
  have S : CallFix p m c cX6_bookOf 3 s args lw_all RX6 := ⟨hx, hb, hml, hown, hts⟩
  have hD := hD0.own
  generalize uA (W6 cI aX aN aP aJ aI aT aD ms ml mt mq mu mN mP mK mI mT mD) = A0 at hD ⊢
  have hS : va_S A0 s.heap s.heap [] := va_S.rf
  have hl := lv_entry ([.ref aX, .int x1, .int x2] : List Value) (n := 3) (Nat.le_of_ble_eq_true rfl)
  refine W.eq (g2 := F0 m 0 ((lg_sl ([.ref aX, .int x1, .int x2] : List Value) ++ List.replicate (3 - (lg_sl ([.ref aX, .int x1, .int x2] : List Value)).length) Slot.unset).toArray) []) (by rw [ha]; exact lg_entry_eq _ _ _) ?_
  generalize (lg_sl ([.ref aX, .int x1, .int x2] : List Value) ++ List.replicate (3 - (lg_sl ([.ref aX, .int x1, .int x2] : List Value)).length) Slot.unset).toArray = ls at hl ⊢
  have hl : lv_has ls 3 [(0, .ref aX), (1, .int x1), (2, .int x2)] := hl
  rw [f6_bookOf] at hF
  show uW p l e wsX6_bookOf rm6_bookOf s m args below meth c D (some (.int r)) A0 (W6 cI aX aN aP aJ aI aT aD ms ml z_mt mq mu mN mP mK mI mT mD) s.heap [] (F0 m 0 ls [])
  refine lv_aload_n hx hb dX6_bookOf_0 rfl (lv_at hl 0 rfl) ?_
  refine lv_iconst hx hb dX6_bookOf_1 kc_iconst_0 ?_
  refine va_put (D := D) (ci := 6) (v := .int (0 : Int32)) (ty := .int) (C := RX6) (T := TX6) (N := 11) hx hb hts i_X6 tyX6 tyX6_ok nmX6 hown hK.1 hP hD hS 0 rfl rfl 7 (by decide) (hts _ wd_818) (fun _ h9 => h9) rfl (by decide +kernel) rfl rfl (Nat.le_of_ble_eq_true rfl) dX6_bookOf_2 (fun H locs hP hD hS => ?_)
  have hP : va_P D vwCl (W6 cI aX aN aP aJ aI aT aD ms ml (0 : Int32) mq mu mN mP mK mI mT mD) H := hP
  have hD : va_D A0 (W6 cI aX aN aP aJ aI aT aD ms ml (0 : Int32) mq mu mN mP mK mI mT mD) := hD
  refine lv_iload_n hx hb dX6_bookOf_5 rfl (lv_at hl 1 rfl) ?_
  refine lv_iconst hx hb dX6_bookOf_6 kc_iconst_0 ?_
  refine lv_aload_n hx hb dX6_bookOf_7 rfl (lv_at hl 0 rfl) ?_
  refine va_get (D := D) (ci := 6) (v := .ref aN) (C := RX6) (T := TX6) (N := 11) hx hb hts i_X6 hown hK.1 hP 0 rfl rfl 0 (by decide) (hts _ wd_811) (fun _ h9 => h9) rfl dX6_bookOf_8 ?_
  refine lv_iconst hx hb dX6_bookOf_11 kc_iconst_0 ?_
  refine va_iald hx hb hK.1 hP 1 0 rfl rfl (inb_lit (by decide)) dX6_bookOf_12 ?_
  refine lv_iconst hx hb dX6_bookOf_13 kc_iconst_1 ?_
  refine lv_isub hx hb dX6_bookOf_14 ?_
  obtain ⟨q2, h1, hF⟩ := bd1_at hF
  refine rcall (va_runS (As := [.int x1, .int (0 : Int32), .int ((mN (0 : Int32).toNatClampNeg) - (1 : Int32))]) (rest := []) S (K6_in l D cI cZ cS cJ x1 (0 : Int32) ((mN (0 : Int32).toNatClampNeg) - (1 : Int32)) q2 h1) (va_cwS 3 hts (gd_S wd_853 wd_854 wd_67 wd_855) rfl rfl rfl hdn6_in ⟨Nat.le_of_ble_eq_true rfl, Nat.le_of_ble_eq_true rfl⟩) (rPreS hK (hP.sub (ws' := ([] : va_W)) [] rfl)) rfl rfl hl.1 rfl (lv_room (Nat.le_of_ble_eq_true rfl)) dX6_bookOf_15 ⟨(Nat.zero_le _), (Nat.zero_le _)⟩) ?_
  refine lv_if_ne (tgt := 27) hx hb dX6_bookOf_18 (by decide) (fun c3 => ?_) (fun c3 => ?_)
  · have hF := ite_f c3 hF
    refine lv_iload_n hx hb dX6_bookOf_27 rfl (lv_at hl 2 rfl) ?_
    refine lv_iconst hx hb dX6_bookOf_28 kc_iconst_0 ?_
    refine lv_bipush hx hb dX6_bookOf_29 kc_bipush_8 ?_
    obtain ⟨q5, h4, hF⟩ := bd1_at hF
    refine rcall (va_runS (As := [.int x2, .int (0 : Int32), .int (8 : Int32)]) (rest := []) S (K6_in l D cI cZ cS cJ x2 (0 : Int32) (8 : Int32) q5 h4) (va_cwS 3 hts (gd_S wd_853 wd_854 wd_67 wd_855) rfl rfl rfl hdn6_in ⟨Nat.le_of_ble_eq_true rfl, Nat.le_of_ble_eq_true rfl⟩) (rPreS hK (hP.sub (ws' := ([] : va_W)) [] rfl)) rfl rfl hl.1 rfl (lv_room (Nat.le_of_ble_eq_true rfl)) dX6_bookOf_31 ⟨(Nat.zero_le _), (Nat.zero_le _)⟩) ?_
    refine lv_if_eq (tgt := 46) hx hb dX6_bookOf_34 (by decide) (fun c6 => ?_) (fun c6 => ?_)
    · have hF := ite_t c6 hF
      refine lv_aload_n hx hb dX6_bookOf_46 rfl (lv_at hl 0 rfl) ?_
      refine lv_iconst hx hb dX6_bookOf_47 kc_iconst_2 ?_
      obtain ⟨q8, u9, h7, hF⟩ := bd2_at hF
      refine ucalli (ws' := (W6 cI aX aN aP aJ aI aT aD ms ml u9 mq mu mN mP mK mI mT mD)) (va_runV (As := [.int (2 : Int32)]) (rest := []) S (K6_refuses l D cI cZ cS cJ aX aN aP aJ aI aT aD ms ml (0 : Int32) mq mu mN mP mK mI mT mD (2 : Int32) q8 u9 h7) (cwV 1 hts (gd_V wd_856 wd_858 wd_21 wd_67 wd_859) rfl rfl rfl hd6_refuses ⟨Nat.le_of_ble_eq_true rfl, Nat.le_of_ble_eq_true rfl⟩) (uPreV hK hP hD (ci := 6) (q := (RX6, TX6, 11)) rfl rfl) rfl rfl hl.1 rfl (lv_room (Nat.le_of_ble_eq_true rfl)) dX6_bookOf_48 ⟨(Nat.zero_le _), (Nat.zero_le _)⟩) hS hP hD [0, 1, 2, 3, 4, 5, 6] rfl rfl rfl rfl (fun H locs hP hD hS => ?_)
      cases hF
      exact ureti hx hb hr hlocks hP hS dX6_bookOf_51
    · have hF := ite_f c6 hF
      refine lv_aload_n hx hb dX6_bookOf_37 rfl (lv_at hl 0 rfl) ?_
      refine lv_iload_n hx hb dX6_bookOf_38 rfl (lv_at hl 1 rfl) ?_
      refine lv_iload_n hx hb dX6_bookOf_39 rfl (lv_at hl 2 rfl) ?_
      obtain ⟨q11, h10, hF⟩ := bd1_at hF
      refine rcall (va_runV (As := [.int x1, .int x2]) (rest := []) S (K6_aboutBook l D cI cZ cS cJ aX aN aP aJ aI aT aD ms ml (0 : Int32) mq mu mN mP mK mI mT mD x1 x2 q11 h10) (cwV 2 hts (gd_V wd_1025 wd_1027 wd_45 wd_67 wd_1028) rfl rfl rfl hd6_aboutBook ⟨Nat.le_of_ble_eq_true rfl, Nat.le_of_ble_eq_true rfl⟩) (rPreV hK hP (ci := 6) (q := (RX6, TX6, 11)) rfl rfl) rfl rfl hl.1 rfl (lv_room (Nat.le_of_ble_eq_true rfl)) dX6_bookOf_40 ⟨(Nat.zero_le _), (Nat.zero_le _)⟩) ?_
      refine lv_goto (tgt := 51) hx hb dX6_bookOf_43 (by decide) ?_
      cases hF
      exact ureti hx hb hr hlocks hP hS dX6_bookOf_51
  · have hF := ite_t c3 hF
    refine lv_aload_n hx hb dX6_bookOf_21 rfl (lv_at hl 0 rfl) ?_
    refine lv_iconst hx hb dX6_bookOf_22 kc_iconst_1 ?_
    obtain ⟨q13, u14, h12, hF⟩ := bd2_at hF
    refine ucalli (ws' := (W6 cI aX aN aP aJ aI aT aD ms ml u14 mq mu mN mP mK mI mT mD)) (va_runV (As := [.int (1 : Int32)]) (rest := []) S (K6_refuses l D cI cZ cS cJ aX aN aP aJ aI aT aD ms ml (0 : Int32) mq mu mN mP mK mI mT mD (1 : Int32) q13 u14 h12) (cwV 1 hts (gd_V wd_856 wd_858 wd_21 wd_67 wd_859) rfl rfl rfl hd6_refuses ⟨Nat.le_of_ble_eq_true rfl, Nat.le_of_ble_eq_true rfl⟩) (uPreV hK hP hD (ci := 6) (q := (RX6, TX6, 11)) rfl rfl) rfl rfl hl.1 rfl (lv_room (Nat.le_of_ble_eq_true rfl)) dX6_bookOf_23 ⟨(Nat.zero_le _), (Nat.zero_le _)⟩) hS hP hD [0, 1, 2, 3, 4, 5, 6] rfl rfl rfl rfl (fun H locs hP hD hS => ?_)
    cases hF
    exact ureti hx hb hr hlocks hP hS dX6_bookOf_26
abbrev rm6_cheques : Room := { frames := 1, cells := 0, slots := 0, locals := 21 }
theorem hd6_cheques : yX6_cheques.cls = RX6 ∧ yX6_cheques.cls ≠ "java/lang/invoke/MethodHandle" ∧ yX6_cheques.cls ≠ "java/lang/invoke/VarHandle" ∧ (parseMethodDescriptor yX6_cheques.desc).map (fun d => d.parameters.length) = some 0 := by decide +kernel
set_option maxHeartbeats 4000000 in
set_option maxRecDepth 100000 in
theorem K6_cheques (l : Launch) (D : va_G) (cI cZ cS cJ : ClassId) (aX aN aP aJ aI aT aD : Nat) (ms : Int32) (ml : Int32) (mt : Int32) (mq : Int32) (mu : Int32) (mN : Nat → Int32) (mP : Nat → Int32) (mK : Nat → Int32) (mI : Nat → Int32) (mT : Nat → Int32) (mD : Nat → Int32) (r : Int32) (hF : f6_cheques mN = some (r)) : Met l yX6_cheques wsX6_cheques rm6_cheques (rP D (gT cI cZ cS cJ) (W6 cI aX aN aP aJ aI aT aD ms ml mt mq mu mN mP mK mI mT mD) [.ref aX]) (rQ (.int r)) 0 0 (fun _ => False) := by
  refine Met.ofW (cc := cX6_cheques) (maxL := 3) (ret := (some .int)) (by decide) rfl ?_
  intro p e s m args below meth c s₁ B hml hv
  obtain ⟨ha, hK, hP⟩ := hv
  have hx := B.exec
  have hb := B.bytes
  have hr := B.returns
  have hlocks := B.notSynchronized
  have hts : ∀ w ∈ lw_all, w.before args s = true := fun w h => atoms_spec (ws := wsX6_cheques) B.pre w (List.mem_cons_of_mem _ h)
  have hown : s.vm.findClass RX6 = some m.cls := findClass_of_methodNamed B.named
  have S : CallFix p m c cX6_cheques 3 s args lw_all RX6 := ⟨hx, hb, hml, hown, hts⟩
  have hl := lv_entry ([.ref aX] : List Value) (n := 3) (Nat.le_of_ble_eq_true rfl)
  refine W.eq (g2 := F0 m 0 ((lg_sl ([.ref aX] : List Value) ++ List.replicate (3 - (lg_sl ([.ref aX] : List Value)).length) Slot.unset).toArray) []) (by rw [ha]; exact lg_entry_eq _ _ _) ?_
  generalize (lg_sl ([.ref aX] : List Value) ++ List.replicate (3 - (lg_sl ([.ref aX] : List Value)).length) Slot.unset).toArray = ls at hl ⊢
  have hl : lv_has ls 3 [(0, .ref aX)] := hl
  clear ha
  have W_4 : ∀  (n : Nat) (x1 : Int32) (x2 : Int32), ∀ (ls : Array Slot), lv_has ls 3 [(0, .ref aX), (1, .int x1), (2, .int x2)] → f6_cheques_l4 mN n x1 x2 = some (r) → rW p l e wsX6_cheques rm6_cheques s m args below meth c (.int r) (F0 m 4 ls []) := by
    intro   n
    induction n with
    | zero =>
      intro x1 x2 ls hl hF
      rw [f6_cheques_l4] at hF
      cases hF
    | succ n ih =>
      intro x1 x2 ls hl hF
      rw [f6_cheques_l4] at hF
      refine lv_iload_n hx hb dX6_cheques_4 rfl (lv_at hl 2 rfl) ?_
      refine lv_aload_n hx hb dX6_cheques_5 rfl (lv_at hl 0 rfl) ?_
      refine va_get (D := D) (ci := 6) (v := .ref aN) (C := RX6) (T := TX6) (N := 11) hx hb hts i_X6 hown hK.1 hP 0 rfl rfl 0 (by decide) (hts _ wd_811) (fun _ h9 => h9) rfl dX6_cheques_6 ?_
      refine lv_iconst hx hb dX6_cheques_9 kc_iconst_0 ?_
      refine va_iald hx hb hK.1 hP 1 0 rfl rfl (inb_lit (by decide)) dX6_cheques_10 ?_
      refine lv_icmp_ge (tgt := 28) hx hb dX6_cheques_11 (by decide) (fun c1 => ?_) (fun c1 => ?_)
      · have hF := ite_t c1 hF
        refine lv_iload_n hx hb dX6_cheques_28 rfl (lv_at hl 1 rfl) ?_
        exact rret hF hx hb hr hlocks dX6_cheques_29
      · have hF := ite_f c1 hF
        refine lv_iload_n hx hb dX6_cheques_14 rfl (lv_at hl 1 rfl) ?_
        refine lv_aload_n hx hb dX6_cheques_15 rfl (lv_at hl 0 rfl) ?_
        refine lv_iload_n hx hb dX6_cheques_16 rfl (lv_at hl 2 rfl) ?_
        obtain ⟨q3, h2, hF⟩ := bd1_at hF
        refine rcall (va_runV (As := [.int x2]) (rest := [.int x1]) S (K6_countOf l D cI cZ cS cJ aX aN aP aJ aI aT aD ms ml mt mq mu mN mP mK mI mT mD x2 q3 h2) (cwV 1 hts (gd_V wd_891 wd_893 wd_26 wd_67 wd_894) rfl rfl rfl hd6_countOf ⟨Nat.le_of_ble_eq_true rfl, Nat.le_of_ble_eq_true rfl⟩) (rPreV hK hP (ci := 6) (q := (RX6, TX6, 11)) rfl rfl) rfl rfl hl.1 rfl (lv_room (Nat.le_of_ble_eq_true rfl)) dX6_cheques_17 ⟨(Nat.zero_le _), (Nat.zero_le _)⟩) ?_
        refine lv_iadd hx hb dX6_cheques_20 ?_
        refine lv_istore_n (lv' := [(1, .int (x1 + q3)), (0, .ref aX), (2, .int x2)]) hx hb dX6_cheques_21 rfl hl (by decide) rfl (fun ls hl => ?_)
        refine lv_iinc (v := (x2 + 1)) (lv' := [(2, .int (x2 + 1)), (1, .int (x1 + q3)), (0, .ref aX)]) hx hb dX6_cheques_22 hl (k := 2) rfl rfl (by decide) rfl (fun ls hl => ?_)
        refine lv_goto (tgt := 4) hx hb dX6_cheques_25 (by decide) ?_
        exact ih (x1 + q3) (x2 + 1) ls (lv_sub hl [2, 1, 0] rfl) hF
  rw [f6_cheques] at hF
  show rW p l e wsX6_cheques rm6_cheques s m args below meth c (.int r) (F0 m 0 ls [])
  refine lv_iconst hx hb dX6_cheques_0 kc_iconst_0 ?_
  refine lv_istore_n (lv' := [(1, .int (0 : Int32)), (0, .ref aX)]) hx hb dX6_cheques_1 rfl hl (by decide) rfl (fun ls hl => ?_)
  refine lv_iconst hx hb dX6_cheques_2 kc_iconst_0 ?_
  refine lv_istore_n (lv' := [(2, .int (0 : Int32)), (1, .int (0 : Int32)), (0, .ref aX)]) hx hb dX6_cheques_3 rfl hl (by decide) rfl (fun ls hl => ?_)
  exact W_4   fu (0 : Int32) (0 : Int32) ls (lv_sub hl [2, 1, 0] rfl) hF
abbrev rm6_counted : Room := { frames := 3, cells := 0, slots := 0, locals := 67 }
theorem hd6_counted : yX6_counted.cls = RX6 ∧ yX6_counted.cls ≠ "java/lang/invoke/MethodHandle" ∧ yX6_counted.cls ≠ "java/lang/invoke/VarHandle" ∧ (parseMethodDescriptor yX6_counted.desc).map (fun d => d.parameters.length) = some 1 := by decide +kernel
set_option maxHeartbeats 4000000 in
set_option maxRecDepth 100000 in
theorem K6_counted (l : Launch) (D : va_G) (cI cZ cS cJ : ClassId) (aX aN aP aJ aI aT aD : Nat) (ms : Int32) (ml : Int32) (mt : Int32) (mq : Int32) (mu : Int32) (mN : Nat → Int32) (mP : Nat → Int32) (mK : Nat → Int32) (mI : Nat → Int32) (mT : Nat → Int32) (mD : Nat → Int32) (x1 : Int32) (r : Int32) (hF : f6_counted ms ml mN x1 = some (r)) : Met l yX6_counted wsX6_counted rm6_counted (rP D (gT cI cZ cS cJ) (W6 cI aX aN aP aJ aI aT aD ms ml mt mq mu mN mP mK mI mT mD) [.ref aX, .int x1]) (rQ (.int r)) 0 0 (fun _ => False) := by
  refine Met.ofW (cc := cX6_counted) (maxL := 3) (ret := (some .int)) (by decide) rfl ?_
  intro p e s m args below meth c s₁ B hml hv
  obtain ⟨ha, hK, hP⟩ := hv
  have hx := B.exec
  have hb := B.bytes
  have hr := B.returns
  have hlocks := B.notSynchronized
  have hts : ∀ w ∈ lw_all, w.before args s = true := fun w h => atoms_spec (ws := wsX6_counted) B.pre w (List.mem_cons_of_mem _ h)
  have hown : s.vm.findClass RX6 = some m.cls := findClass_of_methodNamed B.named
  have S : CallFix p m c cX6_counted 3 s args lw_all RX6 := ⟨hx, hb, hml, hown, hts⟩
  have hl := lv_entry ([.ref aX, .int x1] : List Value) (n := 3) (Nat.le_of_ble_eq_true rfl)
  refine W.eq (g2 := F0 m 0 ((lg_sl ([.ref aX, .int x1] : List Value) ++ List.replicate (3 - (lg_sl ([.ref aX, .int x1] : List Value)).length) Slot.unset).toArray) []) (by rw [ha]; exact lg_entry_eq _ _ _) ?_
  generalize (lg_sl ([.ref aX, .int x1] : List Value) ++ List.replicate (3 - (lg_sl ([.ref aX, .int x1] : List Value)).length) Slot.unset).toArray = ls at hl ⊢
  have hl : lv_has ls 3 [(0, .ref aX), (1, .int x1)] := hl
  rw [f6_counted] at hF
  show rW p l e wsX6_counted rm6_counted s m args below meth c (.int r) (F0 m 0 ls [])
  refine lv_bipush hx hb dX6_counted_0 kc_bipush_40 ?_
  refine lv_aload_n hx hb dX6_counted_2 rfl (lv_at hl 0 rfl) ?_
  refine va_get (D := D) (ci := 6) (v := .ref aN) (C := RX6) (T := TX6) (N := 11) hx hb hts i_X6 hown hK.1 hP 0 rfl rfl 0 (by decide) (hts _ wd_811) (fun _ h9 => h9) rfl dX6_counted_3 ?_
  refine lv_iconst hx hb dX6_counted_6 kc_iconst_0 ?_
  refine va_iald hx hb hK.1 hP 1 0 rfl rfl (inb_lit (by decide)) dX6_counted_7 ?_
  refine lv_imul hx hb dX6_counted_8 ?_
  refine lv_istore_n (lv' := [(2, .int ((40 : Int32) * (mN (0 : Int32).toNatClampNeg))), (0, .ref aX), (1, .int x1)]) hx hb dX6_counted_9 rfl hl (by decide) rfl (fun ls hl => ?_)
  refine lv_iload_n hx hb dX6_counted_10 rfl (lv_at hl 2 rfl) ?_
  by_cases c1 : x1 = (0 : Int32)
  · have hF := ite_t c1 hF
    refine lv_tableIn (tgt := 72) hx hb dX6_counted_11 (by rw [c1]; decide) (by rw [c1]; decide) (by rw [c1]; rfl) (by decide) ?_
    refine lv_aload_n hx hb dX6_counted_72 rfl (lv_at hl 1 rfl) ?_
    refine va_get (D := D) (ci := 6) (v := .ref aN) (C := RX6) (T := TX6) (N := 11) hx hb hts i_X6 hown hK.1 hP 0 rfl rfl 0 (by decide) (hts _ wd_811) (fun _ h9 => h9) rfl dX6_counted_73 ?_
    refine lv_iconst hx hb dX6_counted_76 kc_iconst_0 ?_
    refine va_iald hx hb hK.1 hP 1 0 rfl rfl (inb_lit (by decide)) dX6_counted_77 ?_
    exact rret hF hx hb hr hlocks dX6_counted_78
  have hF := ite_f c1 hF
  by_cases c2 : x1 = (1 : Int32)
  · have hF := ite_t c2 hF
    refine lv_tableIn (tgt := 79) hx hb dX6_counted_11 (by rw [c2]; decide) (by rw [c2]; decide) (by rw [c2]; rfl) (by decide) ?_
    refine lv_aload_n hx hb dX6_counted_79 rfl (lv_at hl 1 rfl) ?_
    obtain ⟨q4, h3, hF⟩ := bd1_at hF
    refine rcall (va_runV (As := []) (rest := []) S (K6_cheques l D cI cZ cS cJ aX aN aP aJ aI aT aD ms ml mt mq mu mN mP mK mI mT mD q4 h3) (cwV 0 hts (gd_V wd_1049 wd_1051 wd_50 wd_67 wd_1052) rfl rfl rfl hd6_cheques ⟨Nat.le_of_ble_eq_true rfl, Nat.le_of_ble_eq_true rfl⟩) (rPreV hK hP (ci := 6) (q := (RX6, TX6, 11)) rfl rfl) rfl rfl hl.1 rfl (lv_room (Nat.le_of_ble_eq_true rfl)) dX6_counted_80 ⟨(Nat.zero_le _), (Nat.zero_le _)⟩) ?_
    exact rret hF hx hb hr hlocks dX6_counted_83
  have hF := ite_f c2 hF
  by_cases c5 : x1 = (2 : Int32)
  · have hF := ite_t c5 hF
    refine lv_tableIn (tgt := 118) hx hb dX6_counted_11 (by rw [c5]; decide) (by rw [c5]; decide) (by rw [c5]; rfl) (by decide) ?_
    refine lv_iload_n hx hb dX6_counted_118 rfl (lv_at hl 2 rfl) ?_
    refine lv_bipush hx hb dX6_counted_119 kc_bipush_11 ?_
    refine lv_icmp_le (tgt := 138) hx hb dX6_counted_121 (by decide) (fun c19 => ?_) (fun c19 => ?_)
    · have hF := ite_t c19 hF
      refine lv_aload_n hx hb dX6_counted_138 rfl (lv_at hl 1 rfl) ?_
      refine lv_iconst hx hb dX6_counted_139 kc_iconst_0 ?_
      refine lv_iload_n hx hb dX6_counted_140 rfl (lv_at hl 0 rfl) ?_
      refine lv_iload_n hx hb dX6_counted_141 rfl (lv_at hl 2 rfl) ?_
      refine lv_iconst hx hb dX6_counted_142 kc_iconst_2 ?_
      refine lv_isub hx hb dX6_counted_143 ?_
      obtain ⟨q21, h20, hF⟩ := bd1_at hF
      refine rcall (va_runV (As := [.int (0 : Int32), .int ((40 : Int32) * (mN (0 : Int32).toNatClampNeg)), .int (x1 - (2 : Int32))]) (rest := []) S (K6_ofKind l D cI cZ cS cJ aX aN aP aJ aI aT aD ms ml mt mq mu mN mP mK mI mT mD (0 : Int32) ((40 : Int32) * (mN (0 : Int32).toNatClampNeg)) (x1 - (2 : Int32)) q21 h20) (cwV 3 hts (gd_V wd_1037 wd_1039 wd_48 wd_67 wd_1040) rfl rfl rfl hd6_ofKind ⟨Nat.le_of_ble_eq_true rfl, Nat.le_of_ble_eq_true rfl⟩) (rPreV hK hP (ci := 6) (q := (RX6, TX6, 11)) rfl rfl) rfl rfl hl.1 rfl (lv_room (Nat.le_of_ble_eq_true rfl)) dX6_counted_144 ⟨(Nat.zero_le _), (Nat.zero_le _)⟩) ?_
      exact rret hF hx hb hr hlocks dX6_counted_147
    · have hF := ite_f c19 hF
      refine lv_aload_n hx hb dX6_counted_124 rfl (lv_at hl 1 rfl) ?_
      refine va_get (D := D) (ci := 6) (v := .ref aN) (C := RX6) (T := TX6) (N := 11) hx hb hts i_X6 hown hK.1 hP 0 rfl rfl 0 (by decide) (hts _ wd_811) (fun _ h9 => h9) rfl dX6_counted_125 ?_
      refine lv_iconst hx hb dX6_counted_128 kc_iconst_3 ?_
      refine lv_iload_n hx hb dX6_counted_129 rfl (lv_at hl 2 rfl) ?_
      refine lv_iadd hx hb dX6_counted_130 ?_
      refine lv_bipush hx hb dX6_counted_131 kc_bipush_12 ?_
      refine lv_isub hx hb dX6_counted_133 ?_
      obtain ⟨g22, hF⟩ := gd_at hF
      refine va_iald hx hb hK.1 hP 1 0 rfl rfl g22 dX6_counted_134 ?_
      refine lv_goto (tgt := 147) hx hb dX6_counted_135 (by decide) ?_
      exact rret hF hx hb hr hlocks dX6_counted_147
  have hF := ite_f c5 hF
  by_cases c6 : x1 = (3 : Int32)
  · have hF := ite_t c6 hF
    refine lv_tableIn (tgt := 118) hx hb dX6_counted_11 (by rw [c6]; decide) (by rw [c6]; decide) (by rw [c6]; rfl) (by decide) ?_
    refine lv_iload_n hx hb dX6_counted_118 rfl (lv_at hl 2 rfl) ?_
    refine lv_bipush hx hb dX6_counted_119 kc_bipush_11 ?_
    refine lv_icmp_le (tgt := 138) hx hb dX6_counted_121 (by decide) (fun c19 => ?_) (fun c19 => ?_)
    · have hF := ite_t c19 hF
      refine lv_aload_n hx hb dX6_counted_138 rfl (lv_at hl 1 rfl) ?_
      refine lv_iconst hx hb dX6_counted_139 kc_iconst_0 ?_
      refine lv_iload_n hx hb dX6_counted_140 rfl (lv_at hl 0 rfl) ?_
      refine lv_iload_n hx hb dX6_counted_141 rfl (lv_at hl 2 rfl) ?_
      refine lv_iconst hx hb dX6_counted_142 kc_iconst_2 ?_
      refine lv_isub hx hb dX6_counted_143 ?_
      obtain ⟨q21, h20, hF⟩ := bd1_at hF
      refine rcall (va_runV (As := [.int (0 : Int32), .int ((40 : Int32) * (mN (0 : Int32).toNatClampNeg)), .int (x1 - (2 : Int32))]) (rest := []) S (K6_ofKind l D cI cZ cS cJ aX aN aP aJ aI aT aD ms ml mt mq mu mN mP mK mI mT mD (0 : Int32) ((40 : Int32) * (mN (0 : Int32).toNatClampNeg)) (x1 - (2 : Int32)) q21 h20) (cwV 3 hts (gd_V wd_1037 wd_1039 wd_48 wd_67 wd_1040) rfl rfl rfl hd6_ofKind ⟨Nat.le_of_ble_eq_true rfl, Nat.le_of_ble_eq_true rfl⟩) (rPreV hK hP (ci := 6) (q := (RX6, TX6, 11)) rfl rfl) rfl rfl hl.1 rfl (lv_room (Nat.le_of_ble_eq_true rfl)) dX6_counted_144 ⟨(Nat.zero_le _), (Nat.zero_le _)⟩) ?_
      exact rret hF hx hb hr hlocks dX6_counted_147
    · have hF := ite_f c19 hF
      refine lv_aload_n hx hb dX6_counted_124 rfl (lv_at hl 1 rfl) ?_
      refine va_get (D := D) (ci := 6) (v := .ref aN) (C := RX6) (T := TX6) (N := 11) hx hb hts i_X6 hown hK.1 hP 0 rfl rfl 0 (by decide) (hts _ wd_811) (fun _ h9 => h9) rfl dX6_counted_125 ?_
      refine lv_iconst hx hb dX6_counted_128 kc_iconst_3 ?_
      refine lv_iload_n hx hb dX6_counted_129 rfl (lv_at hl 2 rfl) ?_
      refine lv_iadd hx hb dX6_counted_130 ?_
      refine lv_bipush hx hb dX6_counted_131 kc_bipush_12 ?_
      refine lv_isub hx hb dX6_counted_133 ?_
      obtain ⟨g22, hF⟩ := gd_at hF
      refine va_iald hx hb hK.1 hP 1 0 rfl rfl g22 dX6_counted_134 ?_
      refine lv_goto (tgt := 147) hx hb dX6_counted_135 (by decide) ?_
      exact rret hF hx hb hr hlocks dX6_counted_147
  have hF := ite_f c6 hF
  by_cases c7 : x1 = (4 : Int32)
  · have hF := ite_t c7 hF
    refine lv_tableIn (tgt := 118) hx hb dX6_counted_11 (by rw [c7]; decide) (by rw [c7]; decide) (by rw [c7]; rfl) (by decide) ?_
    refine lv_iload_n hx hb dX6_counted_118 rfl (lv_at hl 2 rfl) ?_
    refine lv_bipush hx hb dX6_counted_119 kc_bipush_11 ?_
    refine lv_icmp_le (tgt := 138) hx hb dX6_counted_121 (by decide) (fun c19 => ?_) (fun c19 => ?_)
    · have hF := ite_t c19 hF
      refine lv_aload_n hx hb dX6_counted_138 rfl (lv_at hl 1 rfl) ?_
      refine lv_iconst hx hb dX6_counted_139 kc_iconst_0 ?_
      refine lv_iload_n hx hb dX6_counted_140 rfl (lv_at hl 0 rfl) ?_
      refine lv_iload_n hx hb dX6_counted_141 rfl (lv_at hl 2 rfl) ?_
      refine lv_iconst hx hb dX6_counted_142 kc_iconst_2 ?_
      refine lv_isub hx hb dX6_counted_143 ?_
      obtain ⟨q21, h20, hF⟩ := bd1_at hF
      refine rcall (va_runV (As := [.int (0 : Int32), .int ((40 : Int32) * (mN (0 : Int32).toNatClampNeg)), .int (x1 - (2 : Int32))]) (rest := []) S (K6_ofKind l D cI cZ cS cJ aX aN aP aJ aI aT aD ms ml mt mq mu mN mP mK mI mT mD (0 : Int32) ((40 : Int32) * (mN (0 : Int32).toNatClampNeg)) (x1 - (2 : Int32)) q21 h20) (cwV 3 hts (gd_V wd_1037 wd_1039 wd_48 wd_67 wd_1040) rfl rfl rfl hd6_ofKind ⟨Nat.le_of_ble_eq_true rfl, Nat.le_of_ble_eq_true rfl⟩) (rPreV hK hP (ci := 6) (q := (RX6, TX6, 11)) rfl rfl) rfl rfl hl.1 rfl (lv_room (Nat.le_of_ble_eq_true rfl)) dX6_counted_144 ⟨(Nat.zero_le _), (Nat.zero_le _)⟩) ?_
      exact rret hF hx hb hr hlocks dX6_counted_147
    · have hF := ite_f c19 hF
      refine lv_aload_n hx hb dX6_counted_124 rfl (lv_at hl 1 rfl) ?_
      refine va_get (D := D) (ci := 6) (v := .ref aN) (C := RX6) (T := TX6) (N := 11) hx hb hts i_X6 hown hK.1 hP 0 rfl rfl 0 (by decide) (hts _ wd_811) (fun _ h9 => h9) rfl dX6_counted_125 ?_
      refine lv_iconst hx hb dX6_counted_128 kc_iconst_3 ?_
      refine lv_iload_n hx hb dX6_counted_129 rfl (lv_at hl 2 rfl) ?_
      refine lv_iadd hx hb dX6_counted_130 ?_
      refine lv_bipush hx hb dX6_counted_131 kc_bipush_12 ?_
      refine lv_isub hx hb dX6_counted_133 ?_
      obtain ⟨g22, hF⟩ := gd_at hF
      refine va_iald hx hb hK.1 hP 1 0 rfl rfl g22 dX6_counted_134 ?_
      refine lv_goto (tgt := 147) hx hb dX6_counted_135 (by decide) ?_
      exact rret hF hx hb hr hlocks dX6_counted_147
  have hF := ite_f c7 hF
  by_cases c8 : x1 = (5 : Int32)
  · have hF := ite_t c8 hF
    refine lv_tableIn (tgt := 118) hx hb dX6_counted_11 (by rw [c8]; decide) (by rw [c8]; decide) (by rw [c8]; rfl) (by decide) ?_
    refine lv_iload_n hx hb dX6_counted_118 rfl (lv_at hl 2 rfl) ?_
    refine lv_bipush hx hb dX6_counted_119 kc_bipush_11 ?_
    refine lv_icmp_le (tgt := 138) hx hb dX6_counted_121 (by decide) (fun c19 => ?_) (fun c19 => ?_)
    · have hF := ite_t c19 hF
      refine lv_aload_n hx hb dX6_counted_138 rfl (lv_at hl 1 rfl) ?_
      refine lv_iconst hx hb dX6_counted_139 kc_iconst_0 ?_
      refine lv_iload_n hx hb dX6_counted_140 rfl (lv_at hl 0 rfl) ?_
      refine lv_iload_n hx hb dX6_counted_141 rfl (lv_at hl 2 rfl) ?_
      refine lv_iconst hx hb dX6_counted_142 kc_iconst_2 ?_
      refine lv_isub hx hb dX6_counted_143 ?_
      obtain ⟨q21, h20, hF⟩ := bd1_at hF
      refine rcall (va_runV (As := [.int (0 : Int32), .int ((40 : Int32) * (mN (0 : Int32).toNatClampNeg)), .int (x1 - (2 : Int32))]) (rest := []) S (K6_ofKind l D cI cZ cS cJ aX aN aP aJ aI aT aD ms ml mt mq mu mN mP mK mI mT mD (0 : Int32) ((40 : Int32) * (mN (0 : Int32).toNatClampNeg)) (x1 - (2 : Int32)) q21 h20) (cwV 3 hts (gd_V wd_1037 wd_1039 wd_48 wd_67 wd_1040) rfl rfl rfl hd6_ofKind ⟨Nat.le_of_ble_eq_true rfl, Nat.le_of_ble_eq_true rfl⟩) (rPreV hK hP (ci := 6) (q := (RX6, TX6, 11)) rfl rfl) rfl rfl hl.1 rfl (lv_room (Nat.le_of_ble_eq_true rfl)) dX6_counted_144 ⟨(Nat.zero_le _), (Nat.zero_le _)⟩) ?_
      exact rret hF hx hb hr hlocks dX6_counted_147
    · have hF := ite_f c19 hF
      refine lv_aload_n hx hb dX6_counted_124 rfl (lv_at hl 1 rfl) ?_
      refine va_get (D := D) (ci := 6) (v := .ref aN) (C := RX6) (T := TX6) (N := 11) hx hb hts i_X6 hown hK.1 hP 0 rfl rfl 0 (by decide) (hts _ wd_811) (fun _ h9 => h9) rfl dX6_counted_125 ?_
      refine lv_iconst hx hb dX6_counted_128 kc_iconst_3 ?_
      refine lv_iload_n hx hb dX6_counted_129 rfl (lv_at hl 2 rfl) ?_
      refine lv_iadd hx hb dX6_counted_130 ?_
      refine lv_bipush hx hb dX6_counted_131 kc_bipush_12 ?_
      refine lv_isub hx hb dX6_counted_133 ?_
      obtain ⟨g22, hF⟩ := gd_at hF
      refine va_iald hx hb hK.1 hP 1 0 rfl rfl g22 dX6_counted_134 ?_
      refine lv_goto (tgt := 147) hx hb dX6_counted_135 (by decide) ?_
      exact rret hF hx hb hr hlocks dX6_counted_147
  have hF := ite_f c8 hF
  by_cases c9 : x1 = (6 : Int32)
  · have hF := ite_t c9 hF
    refine lv_tableIn (tgt := 84) hx hb dX6_counted_11 (by rw [c9]; decide) (by rw [c9]; decide) (by rw [c9]; rfl) (by decide) ?_
    refine lv_aload_n hx hb dX6_counted_84 rfl (lv_at hl 1 rfl) ?_
    refine lv_iconst hx hb dX6_counted_85 kc_iconst_0 ?_
    refine lv_iload_n hx hb dX6_counted_86 rfl (lv_at hl 0 rfl) ?_
    refine lv_iload_n hx hb dX6_counted_87 rfl (lv_at hl 2 rfl) ?_
    refine lv_iconst hx hb dX6_counted_88 kc_iconst_5 ?_
    refine lv_isub hx hb dX6_counted_89 ?_
    obtain ⟨q11, h10, hF⟩ := bd1_at hF
    refine rcall (va_runV (As := [.int (0 : Int32), .int ((40 : Int32) * (mN (0 : Int32).toNatClampNeg)), .int (x1 - (5 : Int32))]) (rest := []) S (K6_amounts l D cI cZ cS cJ aX aN aP aJ aI aT aD ms ml mt mq mu mN mP mK mI mT mD (0 : Int32) ((40 : Int32) * (mN (0 : Int32).toNatClampNeg)) (x1 - (5 : Int32)) q11 h10) (cwV 3 hts (gd_V wd_1029 wd_1031 wd_46 wd_67 wd_1032) rfl rfl rfl hd6_amounts ⟨Nat.le_of_ble_eq_true rfl, Nat.le_of_ble_eq_true rfl⟩) (rPreV hK hP (ci := 6) (q := (RX6, TX6, 11)) rfl rfl) rfl rfl hl.1 rfl (lv_room (Nat.le_of_ble_eq_true rfl)) dX6_counted_90 ⟨(Nat.zero_le _), (Nat.zero_le _)⟩) ?_
    exact rret hF hx hb hr hlocks dX6_counted_93
  have hF := ite_f c9 hF
  by_cases c12 : x1 = (7 : Int32)
  · have hF := ite_t c12 hF
    refine lv_tableIn (tgt := 84) hx hb dX6_counted_11 (by rw [c12]; decide) (by rw [c12]; decide) (by rw [c12]; rfl) (by decide) ?_
    refine lv_aload_n hx hb dX6_counted_84 rfl (lv_at hl 1 rfl) ?_
    refine lv_iconst hx hb dX6_counted_85 kc_iconst_0 ?_
    refine lv_iload_n hx hb dX6_counted_86 rfl (lv_at hl 0 rfl) ?_
    refine lv_iload_n hx hb dX6_counted_87 rfl (lv_at hl 2 rfl) ?_
    refine lv_iconst hx hb dX6_counted_88 kc_iconst_5 ?_
    refine lv_isub hx hb dX6_counted_89 ?_
    obtain ⟨q14, h13, hF⟩ := bd1_at hF
    refine rcall (va_runV (As := [.int (0 : Int32), .int ((40 : Int32) * (mN (0 : Int32).toNatClampNeg)), .int (x1 - (5 : Int32))]) (rest := []) S (K6_amounts l D cI cZ cS cJ aX aN aP aJ aI aT aD ms ml mt mq mu mN mP mK mI mT mD (0 : Int32) ((40 : Int32) * (mN (0 : Int32).toNatClampNeg)) (x1 - (5 : Int32)) q14 h13) (cwV 3 hts (gd_V wd_1029 wd_1031 wd_46 wd_67 wd_1032) rfl rfl rfl hd6_amounts ⟨Nat.le_of_ble_eq_true rfl, Nat.le_of_ble_eq_true rfl⟩) (rPreV hK hP (ci := 6) (q := (RX6, TX6, 11)) rfl rfl) rfl rfl hl.1 rfl (lv_room (Nat.le_of_ble_eq_true rfl)) dX6_counted_90 ⟨(Nat.zero_le _), (Nat.zero_le _)⟩) ?_
    exact rret hF hx hb hr hlocks dX6_counted_93
  have hF := ite_f c12 hF
  by_cases c15 : x1 = (8 : Int32)
  · have hF := ite_t c15 hF
    refine lv_tableIn (tgt := 94) hx hb dX6_counted_11 (by rw [c15]; decide) (by rw [c15]; decide) (by rw [c15]; rfl) (by decide) ?_
    refine lv_aload_n hx hb dX6_counted_94 rfl (lv_at hl 1 rfl) ?_
    refine va_get (D := D) (ci := 6) (v := .ref aN) (C := RX6) (T := TX6) (N := 11) hx hb hts i_X6 hown hK.1 hP 0 rfl rfl 0 (by decide) (hts _ wd_811) (fun _ h9 => h9) rfl dX6_counted_95 ?_
    refine lv_iconst hx hb dX6_counted_98 kc_iconst_2 ?_
    refine va_iald hx hb hK.1 hP 1 0 rfl rfl (inb_lit (by decide)) dX6_counted_99 ?_
    exact rret hF hx hb hr hlocks dX6_counted_100
  have hF := ite_f c15 hF
  by_cases c16 : x1 = (9 : Int32)
  · have hF := ite_t c16 hF
    refine lv_tableIn (tgt := 101) hx hb dX6_counted_11 (by rw [c16]; decide) (by rw [c16]; decide) (by rw [c16]; rfl) (by decide) ?_
    refine lv_aload_n hx hb dX6_counted_101 rfl (lv_at hl 1 rfl) ?_
    refine va_get (D := D) (ci := 6) (v := .ref aN) (C := RX6) (T := TX6) (N := 11) hx hb hts i_X6 hown hK.1 hP 0 rfl rfl 0 (by decide) (hts _ wd_811) (fun _ h9 => h9) rfl dX6_counted_102 ?_
    refine lv_iconst hx hb dX6_counted_105 kc_iconst_1 ?_
    refine va_iald hx hb hK.1 hP 1 0 rfl rfl (inb_lit (by decide)) dX6_counted_106 ?_
    exact rret hF hx hb hr hlocks dX6_counted_107
  have hF := ite_f c16 hF
  by_cases c17 : x1 = (10 : Int32)
  · have hF := ite_t c17 hF
    refine lv_tableIn (tgt := 108) hx hb dX6_counted_11 (by rw [c17]; decide) (by rw [c17]; decide) (by rw [c17]; rfl) (by decide) ?_
    refine lv_aload_n hx hb dX6_counted_108 rfl (lv_at hl 1 rfl) ?_
    refine va_get (D := D) (ci := 6) (v := .int ms) (C := RX6) (T := TX6) (N := 11) hx hb hts i_X6 hown hK.1 hP 0 rfl rfl 2 (by decide) (hts _ wd_813) (fun _ h9 => h9) rfl dX6_counted_109 ?_
    exact rret hF hx hb hr hlocks dX6_counted_112
  have hF := ite_f c17 hF
  by_cases c18 : x1 = (11 : Int32)
  · have hF := ite_t c18 hF
    refine lv_tableIn (tgt := 113) hx hb dX6_counted_11 (by rw [c18]; decide) (by rw [c18]; decide) (by rw [c18]; rfl) (by decide) ?_
    refine lv_aload_n hx hb dX6_counted_113 rfl (lv_at hl 1 rfl) ?_
    refine va_get (D := D) (ci := 6) (v := .int ml) (C := RX6) (T := TX6) (N := 11) hx hb hts i_X6 hown hK.1 hP 0 rfl rfl 6 (by decide) (hts _ wd_817) (fun _ h9 => h9) rfl dX6_counted_114 ?_
    exact rret hF hx hb hr hlocks dX6_counted_117
  have hF := ite_f c18 hF
  refine lv_tableOut (tgt := 118) hx hb dX6_counted_11 (by have q0 := ne_ti c1 (show (0 : Int32).toInt = 0 by decide); have q1 := ne_ti c2 (show (1 : Int32).toInt = 1 by decide); have q2 := ne_ti c5 (show (2 : Int32).toInt = 2 by decide); have q3 := ne_ti c6 (show (3 : Int32).toInt = 3 by decide); have q4 := ne_ti c7 (show (4 : Int32).toInt = 4 by decide); have q5 := ne_ti c8 (show (5 : Int32).toInt = 5 by decide); have q6 := ne_ti c9 (show (6 : Int32).toInt = 6 by decide); have q7 := ne_ti c12 (show (7 : Int32).toInt = 7 by decide); have q8 := ne_ti c15 (show (8 : Int32).toInt = 8 by decide); have q9 := ne_ti c16 (show (9 : Int32).toInt = 9 by decide); have q10 := ne_ti c17 (show (10 : Int32).toInt = 10 by decide); have q11 := ne_ti c18 (show (11 : Int32).toInt = 11 by decide); omega) (by decide) ?_
  refine lv_iload_n hx hb dX6_counted_118 rfl (lv_at hl 2 rfl) ?_
  refine lv_bipush hx hb dX6_counted_119 kc_bipush_11 ?_
  refine lv_icmp_le (tgt := 138) hx hb dX6_counted_121 (by decide) (fun c19 => ?_) (fun c19 => ?_)
  · have hF := ite_t c19 hF
    refine lv_aload_n hx hb dX6_counted_138 rfl (lv_at hl 1 rfl) ?_
    refine lv_iconst hx hb dX6_counted_139 kc_iconst_0 ?_
    refine lv_iload_n hx hb dX6_counted_140 rfl (lv_at hl 0 rfl) ?_
    refine lv_iload_n hx hb dX6_counted_141 rfl (lv_at hl 2 rfl) ?_
    refine lv_iconst hx hb dX6_counted_142 kc_iconst_2 ?_
    refine lv_isub hx hb dX6_counted_143 ?_
    obtain ⟨q21, h20, hF⟩ := bd1_at hF
    refine rcall (va_runV (As := [.int (0 : Int32), .int ((40 : Int32) * (mN (0 : Int32).toNatClampNeg)), .int (x1 - (2 : Int32))]) (rest := []) S (K6_ofKind l D cI cZ cS cJ aX aN aP aJ aI aT aD ms ml mt mq mu mN mP mK mI mT mD (0 : Int32) ((40 : Int32) * (mN (0 : Int32).toNatClampNeg)) (x1 - (2 : Int32)) q21 h20) (cwV 3 hts (gd_V wd_1037 wd_1039 wd_48 wd_67 wd_1040) rfl rfl rfl hd6_ofKind ⟨Nat.le_of_ble_eq_true rfl, Nat.le_of_ble_eq_true rfl⟩) (rPreV hK hP (ci := 6) (q := (RX6, TX6, 11)) rfl rfl) rfl rfl hl.1 rfl (lv_room (Nat.le_of_ble_eq_true rfl)) dX6_counted_144 ⟨(Nat.zero_le _), (Nat.zero_le _)⟩) ?_
    exact rret hF hx hb hr hlocks dX6_counted_147
  · have hF := ite_f c19 hF
    refine lv_aload_n hx hb dX6_counted_124 rfl (lv_at hl 1 rfl) ?_
    refine va_get (D := D) (ci := 6) (v := .ref aN) (C := RX6) (T := TX6) (N := 11) hx hb hts i_X6 hown hK.1 hP 0 rfl rfl 0 (by decide) (hts _ wd_811) (fun _ h9 => h9) rfl dX6_counted_125 ?_
    refine lv_iconst hx hb dX6_counted_128 kc_iconst_3 ?_
    refine lv_iload_n hx hb dX6_counted_129 rfl (lv_at hl 2 rfl) ?_
    refine lv_iadd hx hb dX6_counted_130 ?_
    refine lv_bipush hx hb dX6_counted_131 kc_bipush_12 ?_
    refine lv_isub hx hb dX6_counted_133 ?_
    obtain ⟨g22, hF⟩ := gd_at hF
    refine va_iald hx hb hK.1 hP 1 0 rfl rfl g22 dX6_counted_134 ?_
    refine lv_goto (tgt := 147) hx hb dX6_counted_135 (by decide) ?_
    exact rret hF hx hb hr hlocks dX6_counted_147
abbrev rm6_count : Room := { frames := 4, cells := 0, slots := 0, locals := 89 }
theorem hd6_count : yX6_count.cls = RX6 ∧ yX6_count.cls ≠ "java/lang/invoke/MethodHandle" ∧ yX6_count.cls ≠ "java/lang/invoke/VarHandle" ∧ (parseMethodDescriptor yX6_count.desc).map (fun d => d.parameters.length) = some 1 := by decide +kernel
set_option maxHeartbeats 4000000 in
set_option maxRecDepth 100000 in
theorem K6_count (l : Launch) (D : va_G) (cI cZ cS cJ : ClassId) (aX aN aP aJ aI aT aD : Nat) (ms : Int32) (ml : Int32) (mt : Int32) (mq : Int32) (mu : Int32) (mN : Nat → Int32) (mP : Nat → Int32) (mK : Nat → Int32) (mI : Nat → Int32) (mT : Nat → Int32) (mD : Nat → Int32) (x1 : Int32) (r : Int32) (z_mt : Int32) (hF : f6_count ms ml mt mN x1 = some (r, z_mt)) : Met l yX6_count wsX6_count rm6_count (uP D (gT cI cZ cS cJ) (W6 cI aX aN aP aJ aI aT aD ms ml mt mq mu mN mP mK mI mT mD) [.ref aX, .int x1]) (uQ D (some (.int r)) (uA (W6 cI aX aN aP aJ aI aT aD ms ml mt mq mu mN mP mK mI mT mD)) (W6 cI aX aN aP aJ aI aT aD ms ml z_mt mq mu mN mP mK mI mT mD)) 0 0 (uA (W6 cI aX aN aP aJ aI aT aD ms ml mt mq mu mN mP mK mI mT mD)) := by
  refine Met.ofW (cc := cX6_count) (maxL := 2) (ret := (some .int)) (by decide) rfl ?_
  intro p e s m args below meth c s₁ B hml hv
  obtain ⟨ha, hK, hP, hD0⟩ := hv
  have hx := B.exec
  have hb := B.bytes
  have hr := B.returns
  have hlocks := B.notSynchronized
  have hts : ∀ w ∈ lw_all, w.before args s = true := fun w h => atoms_spec (ws := wsX6_count) B.pre w (List.mem_cons_of_mem _ h)
  have hown : s.vm.findClass RX6 = some m.cls := findClass_of_methodNamed B.named
  have S : CallFix p m c cX6_count 2 s args lw_all RX6 := ⟨hx, hb, hml, hown, hts⟩
  have hD := hD0.own
  generalize uA (W6 cI aX aN aP aJ aI aT aD ms ml mt mq mu mN mP mK mI mT mD) = A0 at hD ⊢
  have hS : va_S A0 s.heap s.heap [] := va_S.rf
  have hl := lv_entry ([.ref aX, .int x1] : List Value) (n := 2) (Nat.le_of_ble_eq_true rfl)
  refine W.eq (g2 := F0 m 0 ((lg_sl ([.ref aX, .int x1] : List Value) ++ List.replicate (2 - (lg_sl ([.ref aX, .int x1] : List Value)).length) Slot.unset).toArray) []) (by rw [ha]; exact lg_entry_eq _ _ _) ?_
  generalize (lg_sl ([.ref aX, .int x1] : List Value) ++ List.replicate (2 - (lg_sl ([.ref aX, .int x1] : List Value)).length) Slot.unset).toArray = ls at hl ⊢
  have hl : lv_has ls 2 [(0, .ref aX), (1, .int x1)] := hl
  rw [f6_count] at hF
  show uW p l e wsX6_count rm6_count s m args below meth c D (some (.int r)) A0 (W6 cI aX aN aP aJ aI aT aD ms ml z_mt mq mu mN mP mK mI mT mD) s.heap [] (F0 m 0 ls [])
  refine lv_aload_n hx hb dX6_count_0 rfl (lv_at hl 0 rfl) ?_
  refine lv_iconst hx hb dX6_count_1 kc_iconst_0 ?_
  refine va_put (D := D) (ci := 6) (v := .int (0 : Int32)) (ty := .int) (C := RX6) (T := TX6) (N := 11) hx hb hts i_X6 tyX6 tyX6_ok nmX6 hown hK.1 hP hD hS 0 rfl rfl 7 (by decide) (hts _ wd_818) (fun _ h9 => h9) rfl (by decide +kernel) rfl rfl (Nat.le_of_ble_eq_true rfl) dX6_count_2 (fun H locs hP hD hS => ?_)
  have hP : va_P D vwCl (W6 cI aX aN aP aJ aI aT aD ms ml (0 : Int32) mq mu mN mP mK mI mT mD) H := hP
  have hD : va_D A0 (W6 cI aX aN aP aJ aI aT aD ms ml (0 : Int32) mq mu mN mP mK mI mT mD) := hD
  refine lv_iload_n hx hb dX6_count_5 rfl (lv_at hl 1 rfl) ?_
  refine lv_iconst hx hb dX6_count_6 kc_iconst_0 ?_
  refine lv_bipush hx hb dX6_count_7 kc_bipush_17 ?_
  obtain ⟨q2, h1, hF⟩ := bd1_at hF
  refine rcall (va_runS (As := [.int x1, .int (0 : Int32), .int (17 : Int32)]) (rest := []) S (K6_in l D cI cZ cS cJ x1 (0 : Int32) (17 : Int32) q2 h1) (va_cwS 3 hts (gd_S wd_853 wd_854 wd_67 wd_855) rfl rfl rfl hdn6_in ⟨Nat.le_of_ble_eq_true rfl, Nat.le_of_ble_eq_true rfl⟩) (rPreS hK (hP.sub (ws' := ([] : va_W)) [] rfl)) rfl rfl hl.1 rfl (lv_room (Nat.le_of_ble_eq_true rfl)) dX6_count_9 ⟨(Nat.zero_le _), (Nat.zero_le _)⟩) ?_
  refine lv_if_eq (tgt := 23) hx hb dX6_count_12 (by decide) (fun c3 => ?_) (fun c3 => ?_)
  · have hF := ite_t c3 hF
    refine lv_aload_n hx hb dX6_count_23 rfl (lv_at hl 0 rfl) ?_
    refine lv_iconst hx hb dX6_count_24 kc_iconst_1 ?_
    obtain ⟨q5, u6, h4, hF⟩ := bd2_at hF
    refine ucalli (ws' := (W6 cI aX aN aP aJ aI aT aD ms ml u6 mq mu mN mP mK mI mT mD)) (va_runV (As := [.int (1 : Int32)]) (rest := []) S (K6_refuses l D cI cZ cS cJ aX aN aP aJ aI aT aD ms ml (0 : Int32) mq mu mN mP mK mI mT mD (1 : Int32) q5 u6 h4) (cwV 1 hts (gd_V wd_856 wd_858 wd_21 wd_67 wd_859) rfl rfl rfl hd6_refuses ⟨Nat.le_of_ble_eq_true rfl, Nat.le_of_ble_eq_true rfl⟩) (uPreV hK hP hD (ci := 6) (q := (RX6, TX6, 11)) rfl rfl) rfl rfl hl.1 rfl (lv_room (Nat.le_of_ble_eq_true rfl)) dX6_count_25 ⟨(Nat.zero_le _), (Nat.zero_le _)⟩) hS hP hD [0, 1, 2, 3, 4, 5, 6] rfl rfl rfl rfl (fun H locs hP hD hS => ?_)
    cases hF
    exact ureti hx hb hr hlocks hP hS dX6_count_28
  · have hF := ite_f c3 hF
    refine lv_aload_n hx hb dX6_count_15 rfl (lv_at hl 0 rfl) ?_
    refine lv_iload_n hx hb dX6_count_16 rfl (lv_at hl 1 rfl) ?_
    obtain ⟨q8, h7, hF⟩ := bd1_at hF
    refine rcall (va_runV (As := [.int x1]) (rest := []) S (K6_counted l D cI cZ cS cJ aX aN aP aJ aI aT aD ms ml (0 : Int32) mq mu mN mP mK mI mT mD x1 q8 h7) (cwV 1 hts (gd_V wd_1045 wd_1047 wd_49 wd_67 wd_1048) rfl rfl rfl hd6_counted ⟨Nat.le_of_ble_eq_true rfl, Nat.le_of_ble_eq_true rfl⟩) (rPreV hK hP (ci := 6) (q := (RX6, TX6, 11)) rfl rfl) rfl rfl hl.1 rfl (lv_room (Nat.le_of_ble_eq_true rfl)) dX6_count_17 ⟨(Nat.zero_le _), (Nat.zero_le _)⟩) ?_
    refine lv_goto (tgt := 28) hx hb dX6_count_20 (by decide) ?_
    cases hF
    exact ureti hx hb hr hlocks hP hS dX6_count_28
abbrev rm6_next : Room := { frames := 2, cells := 0, slots := 0, locals := 42 }
theorem hd6_next : yX6_next.cls = RX6 ∧ yX6_next.cls ≠ "java/lang/invoke/MethodHandle" ∧ yX6_next.cls ≠ "java/lang/invoke/VarHandle" ∧ (parseMethodDescriptor yX6_next.desc).map (fun d => d.parameters.length) = some 1 := by decide +kernel
set_option maxHeartbeats 4000000 in
set_option maxRecDepth 100000 in
theorem K6_next (l : Launch) (D : va_G) (cI cZ cS cJ : ClassId) (aX aN aP aJ aI aT aD : Nat) (ms : Int32) (ml : Int32) (mt : Int32) (mq : Int32) (mu : Int32) (mN : Nat → Int32) (mP : Nat → Int32) (mK : Nat → Int32) (mI : Nat → Int32) (mT : Nat → Int32) (mD : Nat → Int32) (x1 : Int32) (r : Int32) (hF : f6_next mN x1 = some (r)) : Met l yX6_next wsX6_next rm6_next (rP D (gT cI cZ cS cJ) (W6 cI aX aN aP aJ aI aT aD ms ml mt mq mu mN mP mK mI mT mD) [.ref aX, .int x1]) (rQ (.int r)) 0 0 (fun _ => False) := by
  refine Met.ofW (cc := cX6_next) (maxL := 5) (ret := (some .int)) (by decide) rfl ?_
  intro p e s m args below meth c s₁ B hml hv
  obtain ⟨ha, hK, hP⟩ := hv
  have hx := B.exec
  have hb := B.bytes
  have hr := B.returns
  have hlocks := B.notSynchronized
  have hts : ∀ w ∈ lw_all, w.before args s = true := fun w h => atoms_spec (ws := wsX6_next) B.pre w (List.mem_cons_of_mem _ h)
  have hown : s.vm.findClass RX6 = some m.cls := findClass_of_methodNamed B.named
  have S : CallFix p m c cX6_next 5 s args lw_all RX6 := ⟨hx, hb, hml, hown, hts⟩
  have hl := lv_entry ([.ref aX, .int x1] : List Value) (n := 5) (Nat.le_of_ble_eq_true rfl)
  refine W.eq (g2 := F0 m 0 ((lg_sl ([.ref aX, .int x1] : List Value) ++ List.replicate (5 - (lg_sl ([.ref aX, .int x1] : List Value)).length) Slot.unset).toArray) []) (by rw [ha]; exact lg_entry_eq _ _ _) ?_
  generalize (lg_sl ([.ref aX, .int x1] : List Value) ++ List.replicate (5 - (lg_sl ([.ref aX, .int x1] : List Value)).length) Slot.unset).toArray = ls at hl ⊢
  have hl : lv_has ls 5 [(0, .ref aX), (1, .int x1)] := hl
  clear ha
  have W_60 : ∀ (x1 : Int32) (x3 : Int32) (k4 : Int32 → Int32 → Option (Int32)) (hk4 : ∀ (x2 : Int32) (x3 : Int32), ∀ (ls : Array Slot), lv_has ls 5 [(0, .ref aX), (1, .int x1), (2, .int x2), (3, .int x3)] → k4 x2 x3 = some (r) → rW p l e wsX6_next rm6_next s m args below meth c (.int r) (F0 m 4 ls [])), ∀ (ls : Array Slot), lv_has ls 5 [(0, .ref aX), (1, .int x1), (3, .int x3)] → f6_next_j60 k4 mN x1 x3 = some (r) → rW p l e wsX6_next rm6_next s m args below meth c (.int r) (F0 m 60 ls []) := by
    intro x1 x3 k4 hk4 ls hl hF
    rw [f6_next_j60] at hF
    refine lv_aload_n hx hb dX6_next_60 rfl (lv_at hl 0 rfl) ?_
    refine lv_iload_n hx hb dX6_next_61 rfl (lv_at hl 2 rfl) ?_
    obtain ⟨q14, h13, hF⟩ := bd1_at hF
    refine rcall (va_runV (As := [.int x3]) (rest := []) S (K6_serialAt l D cI cZ cS cJ aX aN aP aJ aI aT aD ms ml mt mq mu mN mP mK mI mT mD x3 q14 h13) (cwV 1 hts (gd_V wd_941 wd_943 wd_34 wd_67 wd_944) rfl rfl rfl hd6_serialAt ⟨Nat.le_of_ble_eq_true rfl, Nat.le_of_ble_eq_true rfl⟩) (rPreV hK hP (ci := 6) (q := (RX6, TX6, 11)) rfl rfl) rfl rfl hl.1 rfl (lv_room (Nat.le_of_ble_eq_true rfl)) dX6_next_62 ⟨(Nat.zero_le _), (Nat.zero_le _)⟩) ?_
    refine lv_goto (tgt := 69) hx hb dX6_next_65 (by decide) ?_
    refine lv_istore_n (lv' := [(2, .int q14), (0, .ref aX), (1, .int x1), (3, .int x3)]) hx hb dX6_next_69 rfl hl (by decide) rfl (fun ls hl => ?_)
    refine lv_iinc (v := (x3 + 1)) (lv' := [(3, .int (x3 + 1)), (2, .int q14), (0, .ref aX), (1, .int x1)]) hx hb dX6_next_70 hl (k := 3) rfl rfl (by decide) rfl (fun ls hl => ?_)
    refine lv_goto (tgt := 4) hx hb dX6_next_73 (by decide) ?_
    exact hk4 q14 (x3 + 1) ls (lv_sub hl [2, 3, 1, 0] rfl) hF
  have W_68 : ∀ (x1 : Int32) (x2 : Int32) (x3 : Int32) (k4 : Int32 → Int32 → Option (Int32)) (hk4 : ∀ (x2 : Int32) (x3 : Int32), ∀ (ls : Array Slot), lv_has ls 5 [(0, .ref aX), (1, .int x1), (2, .int x2), (3, .int x3)] → k4 x2 x3 = some (r) → rW p l e wsX6_next rm6_next s m args below meth c (.int r) (F0 m 4 ls [])), ∀ (ls : Array Slot), lv_has ls 5 [(0, .ref aX), (1, .int x1), (2, .int x2), (3, .int x3)] → f6_next_j68 k4 mN x1 x2 x3 = some (r) → rW p l e wsX6_next rm6_next s m args below meth c (.int r) (F0 m 68 ls []) := by
    intro x1 x2 x3 k4 hk4 ls hl hF
    rw [f6_next_j68] at hF
    refine lv_iload_n hx hb dX6_next_68 rfl (lv_at hl 2 rfl) ?_
    refine lv_istore_n (lv' := [(2, .int x2), (0, .ref aX), (1, .int x1), (3, .int x3)]) hx hb dX6_next_69 rfl hl (by decide) rfl (fun ls hl => ?_)
    refine lv_iinc (v := (x3 + 1)) (lv' := [(3, .int (x3 + 1)), (2, .int x2), (0, .ref aX), (1, .int x1)]) hx hb dX6_next_70 hl (k := 3) rfl rfl (by decide) rfl (fun ls hl => ?_)
    refine lv_goto (tgt := 4) hx hb dX6_next_73 (by decide) ?_
    exact hk4 x2 (x3 + 1) ls (lv_sub hl [2, 3, 1, 0] rfl) hF
  have W_39 : ∀ (x1 : Int32) (x2 : Int32) (x3 : Int32) (s0 : Int32) (k4 : Int32 → Int32 → Option (Int32)) (hk4 : ∀ (x2 : Int32) (x3 : Int32), ∀ (ls : Array Slot), lv_has ls 5 [(0, .ref aX), (1, .int x1), (2, .int x2), (3, .int x3)] → k4 x2 x3 = some (r) → rW p l e wsX6_next rm6_next s m args below meth c (.int r) (F0 m 4 ls [])), ∀ (ls : Array Slot), lv_has ls 5 [(0, .ref aX), (1, .int x1), (2, .int x2), (3, .int x3)] → f6_next_j39 k4 mN x1 x2 x3 s0 = some (r) → rW p l e wsX6_next rm6_next s m args below meth c (.int r) (F0 m 39 ls [.int s0]) := by
    intro x1 x2 x3 s0 k4 hk4 ls hl hF
    rw [f6_next_j39] at hF
    refine lv_istore (lv' := [(4, .int s0), (0, .ref aX), (1, .int x1), (2, .int x2), (3, .int x3)]) hx hb dX6_next_39 hl (by decide) rfl (fun ls hl => ?_)
    refine lv_iload hx hb dX6_next_41 (lv_at hl 0 rfl) ?_
    refine lv_if_eq (tgt := 68) hx hb dX6_next_43 (by decide) (fun c8 => ?_) (fun c8 => ?_)
    · have hF := ite_t c8 hF
      exact W_68 x1 x2 x3 k4 hk4 ls (lv_sub hl [1, 2, 3, 4] rfl) hF
    · have hF := ite_f c8 hF
      refine lv_iload_n hx hb dX6_next_46 rfl (lv_at hl 3 rfl) ?_
      refine lv_iconst hx hb dX6_next_47 kc_iconst_m1 ?_
      refine lv_icmp_eq (tgt := 60) hx hb dX6_next_48 (by decide) (fun c9 => ?_) (fun c9 => ?_)
      · have hF := ite_t c9 hF
        exact W_60 x1 x3 k4 hk4 ls (lv_sub hl [1, 2, 4] rfl) hF
      · have hF := ite_f c9 hF
        refine lv_aload_n hx hb dX6_next_51 rfl (lv_at hl 1 rfl) ?_
        refine lv_iload_n hx hb dX6_next_52 rfl (lv_at hl 4 rfl) ?_
        obtain ⟨q11, h10, hF⟩ := bd1_at hF
        refine rcall (va_runV (As := [.int x3]) (rest := []) S (K6_serialAt l D cI cZ cS cJ aX aN aP aJ aI aT aD ms ml mt mq mu mN mP mK mI mT mD x3 q11 h10) (cwV 1 hts (gd_V wd_941 wd_943 wd_34 wd_67 wd_944) rfl rfl rfl hd6_serialAt ⟨Nat.le_of_ble_eq_true rfl, Nat.le_of_ble_eq_true rfl⟩) (rPreV hK hP (ci := 6) (q := (RX6, TX6, 11)) rfl rfl) rfl rfl hl.1 rfl (lv_room (Nat.le_of_ble_eq_true rfl)) dX6_next_53 ⟨(Nat.zero_le _), (Nat.zero_le _)⟩) ?_
        refine lv_iload_n hx hb dX6_next_56 rfl (lv_at hl 3 rfl) ?_
        refine lv_icmp_ge (tgt := 68) hx hb dX6_next_57 (by decide) (fun c12 => ?_) (fun c12 => ?_)
        · have hF := ite_t c12 hF
          exact W_68 x1 x2 x3 k4 hk4 ls (lv_sub hl [1, 2, 3, 4] rfl) hF
        · have hF := ite_f c12 hF
          exact W_60 x1 x3 k4 hk4 ls (lv_sub hl [1, 2, 4] rfl) hF
  have W_38 : ∀ (x1 : Int32) (x2 : Int32) (x3 : Int32) (k4 : Int32 → Int32 → Option (Int32)) (hk4 : ∀ (x2 : Int32) (x3 : Int32), ∀ (ls : Array Slot), lv_has ls 5 [(0, .ref aX), (1, .int x1), (2, .int x2), (3, .int x3)] → k4 x2 x3 = some (r) → rW p l e wsX6_next rm6_next s m args below meth c (.int r) (F0 m 4 ls [])), ∀ (ls : Array Slot), lv_has ls 5 [(0, .ref aX), (1, .int x1), (2, .int x2), (3, .int x3)] → f6_next_j38 k4 mN x1 x2 x3 = some (r) → rW p l e wsX6_next rm6_next s m args below meth c (.int r) (F0 m 38 ls []) := by
    intro x1 x2 x3 k4 hk4 ls hl hF
    rw [f6_next_j38] at hF
    refine lv_iconst hx hb dX6_next_38 kc_iconst_0 ?_
    exact W_39 x1 x2 x3 (0 : Int32) k4 hk4 ls (lv_sub hl [0, 1, 2, 3] rfl) hF
  have W_4 : ∀ (x1 : Int32) (n : Nat) (x2 : Int32) (x3 : Int32), ∀ (ls : Array Slot), lv_has ls 5 [(0, .ref aX), (1, .int x1), (2, .int x2), (3, .int x3)] → f6_next_l4 mN x1 n x2 x3 = some (r) → rW p l e wsX6_next rm6_next s m args below meth c (.int r) (F0 m 4 ls []) := by
    intro x1  n
    induction n with
    | zero =>
      intro x2 x3 ls hl hF
      rw [f6_next_l4] at hF
      cases hF
    | succ n ih =>
      intro x2 x3 ls hl hF
      rw [f6_next_l4] at hF
      refine lv_iload_n hx hb dX6_next_4 rfl (lv_at hl 3 rfl) ?_
      refine lv_bipush hx hb dX6_next_5 kc_bipush_40 ?_
      refine lv_aload_n hx hb dX6_next_7 rfl (lv_at hl 0 rfl) ?_
      refine va_get (D := D) (ci := 6) (v := .ref aN) (C := RX6) (T := TX6) (N := 11) hx hb hts i_X6 hown hK.1 hP 0 rfl rfl 0 (by decide) (hts _ wd_811) (fun _ h9 => h9) rfl dX6_next_8 ?_
      refine lv_iconst hx hb dX6_next_11 kc_iconst_0 ?_
      refine va_iald hx hb hK.1 hP 1 0 rfl rfl (inb_lit (by decide)) dX6_next_12 ?_
      refine lv_imul hx hb dX6_next_13 ?_
      refine lv_icmp_ge (tgt := 76) hx hb dX6_next_14 (by decide) (fun c1 => ?_) (fun c1 => ?_)
      · have hF := ite_t c1 hF
        refine lv_iload_n hx hb dX6_next_76 rfl (lv_at hl 2 rfl) ?_
        exact rret hF hx hb hr hlocks dX6_next_77
      · have hF := ite_f c1 hF
        refine lv_aload_n hx hb dX6_next_17 rfl (lv_at hl 0 rfl) ?_
        refine lv_iload_n hx hb dX6_next_18 rfl (lv_at hl 3 rfl) ?_
        obtain ⟨q3, h2, hF⟩ := bd1_at hF
        refine rcall (va_runV (As := [.int x3]) (rest := []) S (K6_isCheque l D cI cZ cS cJ aX aN aP aJ aI aT aD ms ml mt mq mu mN mP mK mI mT mD x3 q3 h2) (cwV 1 hts (gd_V wd_937 wd_939 wd_33 wd_67 wd_940) rfl rfl rfl hd6_isCheque ⟨Nat.le_of_ble_eq_true rfl, Nat.le_of_ble_eq_true rfl⟩) (rPreV hK hP (ci := 6) (q := (RX6, TX6, 11)) rfl rfl) rfl rfl hl.1 rfl (lv_room (Nat.le_of_ble_eq_true rfl)) dX6_next_19 ⟨(Nat.zero_le _), (Nat.zero_le _)⟩) ?_
        refine lv_if_eq (tgt := 38) hx hb dX6_next_22 (by decide) (fun c4 => ?_) (fun c4 => ?_)
        · have hF := ite_t c4 hF
          exact W_38 x1 x2 x3 (f6_next_l4 mN x1 n) ih ls (lv_sub hl [0, 1, 2, 3] rfl) hF
        · have hF := ite_f c4 hF
          refine lv_aload_n hx hb dX6_next_25 rfl (lv_at hl 0 rfl) ?_
          refine lv_iload_n hx hb dX6_next_26 rfl (lv_at hl 3 rfl) ?_
          obtain ⟨q6, h5, hF⟩ := bd1_at hF
          refine rcall (va_runV (As := [.int x3]) (rest := []) S (K6_serialAt l D cI cZ cS cJ aX aN aP aJ aI aT aD ms ml mt mq mu mN mP mK mI mT mD x3 q6 h5) (cwV 1 hts (gd_V wd_941 wd_943 wd_34 wd_67 wd_944) rfl rfl rfl hd6_serialAt ⟨Nat.le_of_ble_eq_true rfl, Nat.le_of_ble_eq_true rfl⟩) (rPreV hK hP (ci := 6) (q := (RX6, TX6, 11)) rfl rfl) rfl rfl hl.1 rfl (lv_room (Nat.le_of_ble_eq_true rfl)) dX6_next_27 ⟨(Nat.zero_le _), (Nat.zero_le _)⟩) ?_
          refine lv_iload_n hx hb dX6_next_30 rfl (lv_at hl 1 rfl) ?_
          refine lv_icmp_le (tgt := 38) hx hb dX6_next_31 (by decide) (fun c7 => ?_) (fun c7 => ?_)
          · have hF := ite_t c7 hF
            exact W_38 x1 x2 x3 (f6_next_l4 mN x1 n) ih ls (lv_sub hl [0, 1, 2, 3] rfl) hF
          · have hF := ite_f c7 hF
            refine lv_iconst hx hb dX6_next_34 kc_iconst_1 ?_
            refine lv_goto (tgt := 39) hx hb dX6_next_35 (by decide) ?_
            exact W_39 x1 x2 x3 (1 : Int32) (f6_next_l4 mN x1 n) ih ls (lv_sub hl [0, 1, 2, 3] rfl) hF
  rw [f6_next] at hF
  show rW p l e wsX6_next rm6_next s m args below meth c (.int r) (F0 m 0 ls [])
  refine lv_iconst hx hb dX6_next_0 kc_iconst_m1 ?_
  refine lv_istore_n (lv' := [(2, .int (-1 : Int32)), (0, .ref aX), (1, .int x1)]) hx hb dX6_next_1 rfl hl (by decide) rfl (fun ls hl => ?_)
  refine lv_iconst hx hb dX6_next_2 kc_iconst_0 ?_
  refine lv_istore_n (lv' := [(3, .int (0 : Int32)), (2, .int (-1 : Int32)), (0, .ref aX), (1, .int x1)]) hx hb dX6_next_3 rfl hl (by decide) rfl (fun ls hl => ?_)
  exact W_4 x1  fu (-1 : Int32) (0 : Int32) ls (lv_sub hl [2, 3, 1, 0] rfl) hF
abbrev rm6_ranked : Room := { frames := 3, cells := 0, slots := 0, locals := 66 }
theorem hd6_ranked : yX6_ranked.cls = RX6 ∧ yX6_ranked.cls ≠ "java/lang/invoke/MethodHandle" ∧ yX6_ranked.cls ≠ "java/lang/invoke/VarHandle" ∧ (parseMethodDescriptor yX6_ranked.desc).map (fun d => d.parameters.length) = some 1 := by decide +kernel
set_option maxHeartbeats 4000000 in
set_option maxRecDepth 100000 in
theorem K6_ranked (l : Launch) (D : va_G) (cI cZ cS cJ : ClassId) (aX aN aP aJ aI aT aD : Nat) (ms : Int32) (ml : Int32) (mt : Int32) (mq : Int32) (mu : Int32) (mN : Nat → Int32) (mP : Nat → Int32) (mK : Nat → Int32) (mI : Nat → Int32) (mT : Nat → Int32) (mD : Nat → Int32) (x1 : Int32) (r : Int32) (z_mt : Int32) (hF : f6_ranked mt mN x1 = some (r, z_mt)) : Met l yX6_ranked wsX6_ranked rm6_ranked (uP D (gT cI cZ cS cJ) (W6 cI aX aN aP aJ aI aT aD ms ml mt mq mu mN mP mK mI mT mD) [.ref aX, .int x1]) (uQ D (some (.int r)) (uA (W6 cI aX aN aP aJ aI aT aD ms ml mt mq mu mN mP mK mI mT mD)) (W6 cI aX aN aP aJ aI aT aD ms ml z_mt mq mu mN mP mK mI mT mD)) 0 0 (uA (W6 cI aX aN aP aJ aI aT aD ms ml mt mq mu mN mP mK mI mT mD)) := by
  refine Met.ofW (cc := cX6_ranked) (maxL := 4) (ret := (some .int)) (by decide) rfl ?_
  intro p e s m args below meth c s₁ B hml hv
  obtain ⟨ha, hK, hP, hD0⟩ := hv
  have hx := B.exec
  have hb := B.bytes
  have hr := B.returns
  have hlocks := B.notSynchronized
  have hts : ∀ w ∈ lw_all, w.before args s = true := fun w h => atoms_spec (ws := wsX6_ranked) B.pre w (List.mem_cons_of_mem _ h)
  have hown : s.vm.findClass RX6 = some m.cls := findClass_of_methodNamed B.named
  have S : CallFix p m c cX6_ranked 4 s args lw_all RX6 := ⟨hx, hb, hml, hown, hts⟩
  have hD := hD0.own
  generalize uA (W6 cI aX aN aP aJ aI aT aD ms ml mt mq mu mN mP mK mI mT mD) = A0 at hD ⊢
  have hS : va_S A0 s.heap s.heap [] := va_S.rf
  have hl := lv_entry ([.ref aX, .int x1] : List Value) (n := 4) (Nat.le_of_ble_eq_true rfl)
  refine W.eq (g2 := F0 m 0 ((lg_sl ([.ref aX, .int x1] : List Value) ++ List.replicate (4 - (lg_sl ([.ref aX, .int x1] : List Value)).length) Slot.unset).toArray) []) (by rw [ha]; exact lg_entry_eq _ _ _) ?_
  generalize (lg_sl ([.ref aX, .int x1] : List Value) ++ List.replicate (4 - (lg_sl ([.ref aX, .int x1] : List Value)).length) Slot.unset).toArray = ls at hl ⊢
  have hl : lv_has ls 4 [(0, .ref aX), (1, .int x1)] := hl
  clear ha
  have W_23 : ∀ (x1 : Int32) (n : Nat) (x2 : Int32) (x3 : Int32) (mt : Int32), ∀ (H : Heap) (locs : List Loc), va_P D vwCl (W6 cI aX aN aP aJ aI aT aD ms ml mt mq mu mN mP mK mI mT mD) H → va_D A0 (W6 cI aX aN aP aJ aI aT aD ms ml mt mq mu mN mP mK mI mT mD) → va_S A0 s.heap H locs → ∀ (ls : Array Slot), lv_has ls 4 [(0, .ref aX), (1, .int x1), (2, .int x2), (3, .int x3)] → f6_ranked_l23 mN x1 n x2 x3 mt = some (r, z_mt) → uW p l e wsX6_ranked rm6_ranked s m args below meth c D (some (.int r)) A0 (W6 cI aX aN aP aJ aI aT aD ms ml z_mt mq mu mN mP mK mI mT mD) H locs (F0 m 23 ls []) := by
    intro x1  n
    induction n with
    | zero =>
      intro x2 x3 mt H locs hP hD hS ls hl hF
      rw [f6_ranked_l23] at hF
      cases hF
    | succ n ih =>
      intro x2 x3 mt H locs hP hD hS ls hl hF
      rw [f6_ranked_l23] at hF
      refine lv_iload_n hx hb dX6_ranked_23 rfl (lv_at hl 3 rfl) ?_
      refine lv_iload_n hx hb dX6_ranked_24 rfl (lv_at hl 1 rfl) ?_
      refine lv_icmp_ge (tgt := 45) hx hb dX6_ranked_25 (by decide) (fun c7 => ?_) (fun c7 => ?_)
      · have hF := ite_t c7 hF
        refine lv_iload_n hx hb dX6_ranked_45 rfl (lv_at hl 2 rfl) ?_
        cases hF
        exact ureti hx hb hr hlocks hP hS dX6_ranked_46
      · have hF := ite_f c7 hF
        refine lv_iload_n hx hb dX6_ranked_28 rfl (lv_at hl 2 rfl) ?_
        refine lv_iconst hx hb dX6_ranked_29 kc_iconst_m1 ?_
        refine lv_icmp_eq (tgt := 45) hx hb dX6_ranked_30 (by decide) (fun c8 => ?_) (fun c8 => ?_)
        · have hF := ite_t c8 hF
          refine lv_iload_n hx hb dX6_ranked_45 rfl (lv_at hl 2 rfl) ?_
          cases hF
          exact ureti hx hb hr hlocks hP hS dX6_ranked_46
        · have hF := ite_f c8 hF
          refine lv_aload_n hx hb dX6_ranked_33 rfl (lv_at hl 0 rfl) ?_
          refine lv_iload_n hx hb dX6_ranked_34 rfl (lv_at hl 2 rfl) ?_
          obtain ⟨q10, h9, hF⟩ := bd1_at hF
          refine rcall (va_runV (As := [.int x2]) (rest := []) S (K6_next l D cI cZ cS cJ aX aN aP aJ aI aT aD ms ml mt mq mu mN mP mK mI mT mD x2 q10 h9) (cwV 1 hts (gd_V wd_1057 wd_1059 wd_51 wd_67 wd_1060) rfl rfl rfl hd6_next ⟨Nat.le_of_ble_eq_true rfl, Nat.le_of_ble_eq_true rfl⟩) (rPreV hK hP (ci := 6) (q := (RX6, TX6, 11)) rfl rfl) rfl rfl hl.1 rfl (lv_room (Nat.le_of_ble_eq_true rfl)) dX6_ranked_35 ⟨(Nat.zero_le _), (Nat.zero_le _)⟩) ?_
          refine lv_istore_n (lv' := [(2, .int q10), (0, .ref aX), (1, .int x1), (3, .int x3)]) hx hb dX6_ranked_38 rfl hl (by decide) rfl (fun ls hl => ?_)
          refine lv_iinc (v := (x3 + 1)) (lv' := [(3, .int (x3 + 1)), (2, .int q10), (0, .ref aX), (1, .int x1)]) hx hb dX6_ranked_39 hl (k := 3) rfl rfl (by decide) rfl (fun ls hl => ?_)
          refine lv_goto (tgt := 23) hx hb dX6_ranked_42 (by decide) ?_
          exact ih q10 (x3 + 1) mt _ _ hP hD hS ls (lv_sub hl [2, 3, 1, 0] rfl) hF
  rw [f6_ranked] at hF
  show uW p l e wsX6_ranked rm6_ranked s m args below meth c D (some (.int r)) A0 (W6 cI aX aN aP aJ aI aT aD ms ml z_mt mq mu mN mP mK mI mT mD) s.heap [] (F0 m 0 ls [])
  refine lv_aload_n hx hb dX6_ranked_0 rfl (lv_at hl 0 rfl) ?_
  refine lv_iconst hx hb dX6_ranked_1 kc_iconst_0 ?_
  refine va_put (D := D) (ci := 6) (v := .int (0 : Int32)) (ty := .int) (C := RX6) (T := TX6) (N := 11) hx hb hts i_X6 tyX6 tyX6_ok nmX6 hown hK.1 hP hD hS 0 rfl rfl 7 (by decide) (hts _ wd_818) (fun _ h9 => h9) rfl (by decide +kernel) rfl rfl (Nat.le_of_ble_eq_true rfl) dX6_ranked_2 (fun H locs hP hD hS => ?_)
  have hP : va_P D vwCl (W6 cI aX aN aP aJ aI aT aD ms ml (0 : Int32) mq mu mN mP mK mI mT mD) H := hP
  have hD : va_D A0 (W6 cI aX aN aP aJ aI aT aD ms ml (0 : Int32) mq mu mN mP mK mI mT mD) := hD
  refine lv_iload_n hx hb dX6_ranked_5 rfl (lv_at hl 1 rfl) ?_
  refine lv_if_ge (tgt := 15) hx hb dX6_ranked_6 (by decide) (fun c1 => ?_) (fun c1 => ?_)
  · have hF := ite_t c1 hF
    refine lv_aload_n hx hb dX6_ranked_15 rfl (lv_at hl 0 rfl) ?_
    refine lv_iconst hx hb dX6_ranked_16 kc_iconst_m1 ?_
    obtain ⟨q3, h2, hF⟩ := bd1_at hF
    refine rcall (va_runV (As := [.int (-1 : Int32)]) (rest := []) S (K6_next l D cI cZ cS cJ aX aN aP aJ aI aT aD ms ml (0 : Int32) mq mu mN mP mK mI mT mD (-1 : Int32) q3 h2) (cwV 1 hts (gd_V wd_1057 wd_1059 wd_51 wd_67 wd_1060) rfl rfl rfl hd6_next ⟨Nat.le_of_ble_eq_true rfl, Nat.le_of_ble_eq_true rfl⟩) (rPreV hK hP (ci := 6) (q := (RX6, TX6, 11)) rfl rfl) rfl rfl hl.1 rfl (lv_room (Nat.le_of_ble_eq_true rfl)) dX6_ranked_17 ⟨(Nat.zero_le _), (Nat.zero_le _)⟩) ?_
    refine lv_istore_n (lv' := [(2, .int q3), (0, .ref aX), (1, .int x1)]) hx hb dX6_ranked_20 rfl hl (by decide) rfl (fun ls hl => ?_)
    refine lv_iconst hx hb dX6_ranked_21 kc_iconst_0 ?_
    refine lv_istore_n (lv' := [(3, .int (0 : Int32)), (2, .int q3), (0, .ref aX), (1, .int x1)]) hx hb dX6_ranked_22 rfl hl (by decide) rfl (fun ls hl => ?_)
    exact W_23 x1  fu q3 (0 : Int32) (0 : Int32) _ _ hP hD hS ls (lv_sub hl [2, 3, 1, 0] rfl) hF
  · have hF := ite_f c1 hF
    refine lv_aload_n hx hb dX6_ranked_9 rfl (lv_at hl 0 rfl) ?_
    refine lv_iconst hx hb dX6_ranked_10 kc_iconst_1 ?_
    obtain ⟨q5, u6, h4, hF⟩ := bd2_at hF
    refine ucalli (ws' := (W6 cI aX aN aP aJ aI aT aD ms ml u6 mq mu mN mP mK mI mT mD)) (va_runV (As := [.int (1 : Int32)]) (rest := []) S (K6_refuses l D cI cZ cS cJ aX aN aP aJ aI aT aD ms ml (0 : Int32) mq mu mN mP mK mI mT mD (1 : Int32) q5 u6 h4) (cwV 1 hts (gd_V wd_856 wd_858 wd_21 wd_67 wd_859) rfl rfl rfl hd6_refuses ⟨Nat.le_of_ble_eq_true rfl, Nat.le_of_ble_eq_true rfl⟩) (uPreV hK hP hD (ci := 6) (q := (RX6, TX6, 11)) rfl rfl) rfl rfl hl.1 rfl (lv_room (Nat.le_of_ble_eq_true rfl)) dX6_ranked_11 ⟨(Nat.zero_le _), (Nat.zero_le _)⟩) hS hP hD [0, 1, 2, 3, 4, 5, 6] rfl rfl rfl rfl (fun H locs hP hD hS => ?_)
    cases hF
    exact ureti hx hb hr hlocks hP hS dX6_ranked_14
abbrev rm6_isLeft : Room := { frames := 0, cells := 0, slots := 0, locals := 0 }
theorem hd6_isLeft : yX6_isLeft.cls = RX6 ∧ yX6_isLeft.cls ≠ "java/lang/invoke/MethodHandle" ∧ yX6_isLeft.cls ≠ "java/lang/invoke/VarHandle" ∧ (parseMethodDescriptor yX6_isLeft.desc).map (fun d => d.parameters.length) = some 2 := by decide +kernel
set_option maxHeartbeats 4000000 in
set_option maxRecDepth 100000 in
theorem K6_isLeft (l : Launch) (D : va_G) (cI cZ cS cJ : ClassId) (aX aN aP aJ aI aT aD : Nat) (ms : Int32) (ml : Int32) (mt : Int32) (mq : Int32) (mu : Int32) (mN : Nat → Int32) (mP : Nat → Int32) (mK : Nat → Int32) (mI : Nat → Int32) (mT : Nat → Int32) (mD : Nat → Int32) (x1 : Int32) (x2 : Int32) (r : Int32) (hF : f6_isLeft mN x1 x2 = some (r)) : Met l yX6_isLeft wsX6_isLeft rm6_isLeft (rP D (gT cI cZ cS cJ) (W6 cI aX aN aP aJ aI aT aD ms ml mt mq mu mN mP mK mI mT mD) [.ref aX, .int x1, .int x2]) (rQ (.int r)) 0 0 (fun _ => False) := by
  refine Met.ofW (cc := cX6_isLeft) (maxL := 3) (ret := (some .boolean)) (by decide) rfl ?_
  intro p e s m args below meth c s₁ B hml hv
  obtain ⟨ha, hK, hP⟩ := hv
  have hx := B.exec
  have hb := B.bytes
  have hr := B.returns
  have hlocks := B.notSynchronized
  have hts : ∀ w ∈ lw_all, w.before args s = true := fun w h => atoms_spec (ws := wsX6_isLeft) B.pre w (List.mem_cons_of_mem _ h)
  have hown : s.vm.findClass RX6 = some m.cls := findClass_of_methodNamed B.named
  have S : CallFix p m c cX6_isLeft 3 s args lw_all RX6 := ⟨hx, hb, hml, hown, hts⟩
  have hl := lv_entry ([.ref aX, .int x1, .int x2] : List Value) (n := 3) (Nat.le_of_ble_eq_true rfl)
  refine W.eq (g2 := F0 m 0 ((lg_sl ([.ref aX, .int x1, .int x2] : List Value) ++ List.replicate (3 - (lg_sl ([.ref aX, .int x1, .int x2] : List Value)).length) Slot.unset).toArray) []) (by rw [ha]; exact lg_entry_eq _ _ _) ?_
  generalize (lg_sl ([.ref aX, .int x1, .int x2] : List Value) ++ List.replicate (3 - (lg_sl ([.ref aX, .int x1, .int x2] : List Value)).length) Slot.unset).toArray = ls at hl ⊢
  have hl : lv_has ls 3 [(0, .ref aX), (1, .int x1), (2, .int x2)] := hl
  rw [f6_isLeft] at hF
  show rW p l e wsX6_isLeft rm6_isLeft s m args below meth c (.int r) (F0 m 0 ls [])
  refine lv_iload_n hx hb dX6_isLeft_0 rfl (lv_at hl 1 rfl) ?_
  refine lv_iload_n hx hb dX6_isLeft_1 rfl (lv_at hl 2 rfl) ?_
  refine lv_imul hx hb dX6_isLeft_2 ?_
  refine lv_aload_n hx hb dX6_isLeft_3 rfl (lv_at hl 0 rfl) ?_
  refine va_get (D := D) (ci := 6) (v := .ref aN) (C := RX6) (T := TX6) (N := 11) hx hb hts i_X6 hown hK.1 hP 0 rfl rfl 0 (by decide) (hts _ wd_811) (fun _ h9 => h9) rfl dX6_isLeft_4 ?_
  refine lv_iconst hx hb dX6_isLeft_7 kc_iconst_1 ?_
  refine va_iald hx hb hK.1 hP 1 0 rfl rfl (inb_lit (by decide)) dX6_isLeft_8 ?_
  obtain ⟨g1, hF⟩ := gd_at hF
  refine lv_irem hx hb dX6_isLeft_9 g1 ?_
  refine lv_if_ne (tgt := 17) hx hb dX6_isLeft_10 (by decide) (fun c2 => ?_) (fun c2 => ?_)
  · rw [if_neg c2] at hF
    refine lv_iconst hx hb dX6_isLeft_17 kc_iconst_0 ?_
    exact rretz (by decide) hF hx hb hr hlocks dX6_isLeft_18
  · rw [if_pos c2] at hF
    refine lv_iconst hx hb dX6_isLeft_13 kc_iconst_1 ?_
    refine lv_goto (tgt := 18) hx hb dX6_isLeft_14 (by decide) ?_
    exact rretz (by decide) hF hx hb hr hlocks dX6_isLeft_18
abbrev rm6_missedDigits : Room := { frames := 1, cells := 0, slots := 0, locals := 23 }
theorem hd6_missedDigits : yX6_missedDigits.cls = RX6 ∧ yX6_missedDigits.cls ≠ "java/lang/invoke/MethodHandle" ∧ yX6_missedDigits.cls ≠ "java/lang/invoke/VarHandle" ∧ (parseMethodDescriptor yX6_missedDigits.desc).map (fun d => d.parameters.length) = some 1 := by decide +kernel
set_option maxHeartbeats 4000000 in
set_option maxRecDepth 100000 in
theorem K6_missedDigits (l : Launch) (D : va_G) (cI cZ cS cJ : ClassId) (aX aN aP aJ aI aT aD : Nat) (ms : Int32) (ml : Int32) (mt : Int32) (mq : Int32) (mu : Int32) (mN : Nat → Int32) (mP : Nat → Int32) (mK : Nat → Int32) (mI : Nat → Int32) (mT : Nat → Int32) (mD : Nat → Int32) (x1 : Int32) (r : Int32) (hF : f6_missedDigits mN x1 = some (r)) : Met l yX6_missedDigits wsX6_missedDigits rm6_missedDigits (rP D (gT cI cZ cS cJ) (W6 cI aX aN aP aJ aI aT aD ms ml mt mq mu mN mP mK mI mT mD) [.ref aX, .int x1]) (rQ (.int r)) 0 0 (fun _ => False) := by
  refine Met.ofW (cc := cX6_missedDigits) (maxL := 5) (ret := (some .int)) (by decide) rfl ?_
  intro p e s m args below meth c s₁ B hml hv
  obtain ⟨ha, hK, hP⟩ := hv
  have hx := B.exec
  have hb := B.bytes
  have hr := B.returns
  have hlocks := B.notSynchronized
  have hts : ∀ w ∈ lw_all, w.before args s = true := fun w h => atoms_spec (ws := wsX6_missedDigits) B.pre w (List.mem_cons_of_mem _ h)
  have hown : s.vm.findClass RX6 = some m.cls := findClass_of_methodNamed B.named
  have S : CallFix p m c cX6_missedDigits 5 s args lw_all RX6 := ⟨hx, hb, hml, hown, hts⟩
  have hl := lv_entry ([.ref aX, .int x1] : List Value) (n := 5) (Nat.le_of_ble_eq_true rfl)
  refine W.eq (g2 := F0 m 0 ((lg_sl ([.ref aX, .int x1] : List Value) ++ List.replicate (5 - (lg_sl ([.ref aX, .int x1] : List Value)).length) Slot.unset).toArray) []) (by rw [ha]; exact lg_entry_eq _ _ _) ?_
  generalize (lg_sl ([.ref aX, .int x1] : List Value) ++ List.replicate (5 - (lg_sl ([.ref aX, .int x1] : List Value)).length) Slot.unset).toArray = ls at hl ⊢
  have hl : lv_has ls 5 [(0, .ref aX), (1, .int x1)] := hl
  clear ha
  have W_56 : ∀ (x1 : Int32) (x3 : Int32) (s0 : Int32) (s1 : Int32) (k4 : Int32 → Int32 → Option (Int32)) (hk4 : ∀ (x2 : Int32) (x3 : Int32), ∀ (ls : Array Slot), lv_has ls 5 [(0, .ref aX), (1, .int x1), (2, .int x2), (3, .int x3)] → k4 x2 x3 = some (r) → rW p l e wsX6_missedDigits rm6_missedDigits s m args below meth c (.int r) (F0 m 4 ls [])), ∀ (ls : Array Slot), lv_has ls 5 [(0, .ref aX), (1, .int x1), (3, .int x3)] → f6_missedDigits_j56 k4 mN x1 x3 s0 s1 = some (r) → rW p l e wsX6_missedDigits rm6_missedDigits s m args below meth c (.int r) (F0 m 56 ls [.int s0, .int s1]) := by
    intro x1 x3 s0 s1 k4 hk4 ls hl hF
    rw [f6_missedDigits_j56] at hF
    refine lv_iadd hx hb dX6_missedDigits_56 ?_
    refine lv_istore_n (lv' := [(2, .int (s1 + s0)), (0, .ref aX), (1, .int x1), (3, .int x3)]) hx hb dX6_missedDigits_57 rfl hl (by decide) rfl (fun ls hl => ?_)
    refine lv_iinc (v := (x3 + 1)) (lv' := [(3, .int (x3 + 1)), (2, .int (s1 + s0)), (0, .ref aX), (1, .int x1)]) hx hb dX6_missedDigits_58 hl (k := 3) rfl rfl (by decide) rfl (fun ls hl => ?_)
    refine lv_goto (tgt := 4) hx hb dX6_missedDigits_61 (by decide) ?_
    exact hk4 (s1 + s0) (x3 + 1) ls (lv_sub hl [2, 3, 1, 0] rfl) hF
  have W_55 : ∀ (x1 : Int32) (x3 : Int32) (s0 : Int32) (k4 : Int32 → Int32 → Option (Int32)) (hk4 : ∀ (x2 : Int32) (x3 : Int32), ∀ (ls : Array Slot), lv_has ls 5 [(0, .ref aX), (1, .int x1), (2, .int x2), (3, .int x3)] → k4 x2 x3 = some (r) → rW p l e wsX6_missedDigits rm6_missedDigits s m args below meth c (.int r) (F0 m 4 ls [])), ∀ (ls : Array Slot), lv_has ls 5 [(0, .ref aX), (1, .int x1), (3, .int x3)] → f6_missedDigits_j55 k4 mN x1 x3 s0 = some (r) → rW p l e wsX6_missedDigits rm6_missedDigits s m args below meth c (.int r) (F0 m 55 ls [.int s0]) := by
    intro x1 x3 s0 k4 hk4 ls hl hF
    rw [f6_missedDigits_j55] at hF
    refine lv_iconst hx hb dX6_missedDigits_55 kc_iconst_0 ?_
    exact W_56 x1 x3 (0 : Int32) s0 k4 hk4 ls (lv_sub hl [0, 1, 2] rfl) hF
  have W_4 : ∀ (x1 : Int32) (n : Nat) (x2 : Int32) (x3 : Int32), ∀ (ls : Array Slot), lv_has ls 5 [(0, .ref aX), (1, .int x1), (2, .int x2), (3, .int x3)] → f6_missedDigits_l4 mN x1 n x2 x3 = some (r) → rW p l e wsX6_missedDigits rm6_missedDigits s m args below meth c (.int r) (F0 m 4 ls []) := by
    intro x1  n
    induction n with
    | zero =>
      intro x2 x3 ls hl hF
      rw [f6_missedDigits_l4] at hF
      cases hF
    | succ n ih =>
      intro x2 x3 ls hl hF
      rw [f6_missedDigits_l4] at hF
      refine lv_iload_n hx hb dX6_missedDigits_4 rfl (lv_at hl 3 rfl) ?_
      refine lv_bipush hx hb dX6_missedDigits_5 kc_bipush_60 ?_
      refine lv_icmp_ge (tgt := 64) hx hb dX6_missedDigits_7 (by decide) (fun c1 => ?_) (fun c1 => ?_)
      · have hF := ite_t c1 hF
        refine lv_iload_n hx hb dX6_missedDigits_64 rfl (lv_at hl 2 rfl) ?_
        exact rret hF hx hb hr hlocks dX6_missedDigits_65
      · have hF := ite_f c1 hF
        refine lv_iload_n hx hb dX6_missedDigits_10 rfl (lv_at hl 3 rfl) ?_
        refine lv_bipush hx hb dX6_missedDigits_11 kc_bipush_10 ?_
        refine lv_irem hx hb dX6_missedDigits_13 (by decide) ?_
        refine lv_iload_n hx hb dX6_missedDigits_14 rfl (lv_at hl 1 rfl) ?_
        refine lv_iload_n hx hb dX6_missedDigits_15 rfl (lv_at hl 3 rfl) ?_
        refine lv_bipush hx hb dX6_missedDigits_16 kc_bipush_10 ?_
        refine lv_idiv hx hb dX6_missedDigits_18 (by decide) ?_
        obtain ⟨q3, h2, hF⟩ := bd1_at hF
        refine rcall (va_runS (As := [.int x1, .int (x3 / (10 : Int32))]) (rest := [.int (x3 - x3 / (10 : Int32) * (10 : Int32))]) S (K6_digit l D cI cZ cS cJ x1 (x3 / (10 : Int32)) q3 h2) (va_cwS 2 hts (gd_S wd_915 wd_916 wd_67 wd_917) rfl rfl rfl hdn6_digit ⟨Nat.le_of_ble_eq_true rfl, Nat.le_of_ble_eq_true rfl⟩) (rPreS hK (hP.sub (ws' := ([] : va_W)) [] rfl)) rfl rfl hl.1 rfl (lv_room (Nat.le_of_ble_eq_true rfl)) dX6_missedDigits_19 ⟨(Nat.zero_le _), (Nat.zero_le _)⟩) ?_
        refine lv_isub hx hb dX6_missedDigits_22 ?_
        refine lv_istore (lv' := [(4, .int ((x3 - x3 / (10 : Int32) * (10 : Int32)) - q3)), (0, .ref aX), (1, .int x1), (2, .int x2), (3, .int x3)]) hx hb dX6_missedDigits_23 hl (by decide) rfl (fun ls hl => ?_)
        refine lv_iload_n hx hb dX6_missedDigits_25 rfl (lv_at hl 3 rfl) ?_
        refine lv_iload hx hb dX6_missedDigits_26 (lv_at hl 0 rfl) ?_
        refine lv_if_eq (tgt := 55) hx hb dX6_missedDigits_28 (by decide) (fun c4 => ?_) (fun c4 => ?_)
        · have hF := ite_t c4 hF
          exact W_55 x1 x3 x2 (f6_missedDigits_l4 mN x1 n) ih ls (lv_sub hl [1, 2, 4] rfl) hF
        · have hF := ite_f c4 hF
          refine lv_aload_n hx hb dX6_missedDigits_31 rfl (lv_at hl 1 rfl) ?_
          refine lv_aload_n hx hb dX6_missedDigits_32 rfl (lv_at hl 1 rfl) ?_
          refine va_get (D := D) (ci := 6) (v := .ref aN) (C := RX6) (T := TX6) (N := 11) hx hb hts i_X6 hown hK.1 hP 0 rfl rfl 0 (by decide) (hts _ wd_811) (fun _ h9 => h9) rfl dX6_missedDigits_33 ?_
          refine lv_iconst hx hb dX6_missedDigits_36 kc_iconst_3 ?_
          refine lv_iload_n hx hb dX6_missedDigits_37 rfl (lv_at hl 4 rfl) ?_
          refine lv_bipush hx hb dX6_missedDigits_38 kc_bipush_10 ?_
          refine lv_idiv hx hb dX6_missedDigits_40 (by decide) ?_
          refine lv_iadd hx hb dX6_missedDigits_41 ?_
          obtain ⟨g5, hF⟩ := gd_at hF
          refine va_iald hx hb hK.1 hP 1 0 rfl rfl g5 dX6_missedDigits_42 ?_
          refine lv_iload hx hb dX6_missedDigits_43 (lv_at hl 0 rfl) ?_
          obtain ⟨q7, h6, hF⟩ := bd1_at hF
          refine rcall (va_runV (As := [.int (mN ((3 : Int32) + (x3 / (10 : Int32))).toNatClampNeg), .int ((x3 - x3 / (10 : Int32) * (10 : Int32)) - q3)]) (rest := [.int x2]) S (K6_isLeft l D cI cZ cS cJ aX aN aP aJ aI aT aD ms ml mt mq mu mN mP mK mI mT mD (mN ((3 : Int32) + (x3 / (10 : Int32))).toNatClampNeg) ((x3 - x3 / (10 : Int32) * (10 : Int32)) - q3) q7 h6) (cwV 2 hts (gd_V wd_1069 wd_1071 wd_53 wd_67 wd_1072) rfl rfl rfl hd6_isLeft ⟨Nat.le_of_ble_eq_true rfl, Nat.le_of_ble_eq_true rfl⟩) (rPreV hK hP (ci := 6) (q := (RX6, TX6, 11)) rfl rfl) rfl rfl hl.1 rfl (lv_room (Nat.le_of_ble_eq_true rfl)) dX6_missedDigits_45 ⟨(Nat.zero_le _), (Nat.zero_le _)⟩) ?_
          refine lv_if_eq (tgt := 55) hx hb dX6_missedDigits_48 (by decide) (fun c8 => ?_) (fun c8 => ?_)
          · have hF := ite_t c8 hF
            exact W_55 x1 x3 x2 (f6_missedDigits_l4 mN x1 n) ih ls (lv_sub hl [1, 2, 4] rfl) hF
          · have hF := ite_f c8 hF
            refine lv_iconst hx hb dX6_missedDigits_51 kc_iconst_1 ?_
            refine lv_goto (tgt := 56) hx hb dX6_missedDigits_52 (by decide) ?_
            exact W_56 x1 x3 (1 : Int32) x2 (f6_missedDigits_l4 mN x1 n) ih ls (lv_sub hl [1, 2, 4] rfl) hF
  rw [f6_missedDigits] at hF
  show rW p l e wsX6_missedDigits rm6_missedDigits s m args below meth c (.int r) (F0 m 0 ls [])
  refine lv_iconst hx hb dX6_missedDigits_0 kc_iconst_0 ?_
  refine lv_istore_n (lv' := [(2, .int (0 : Int32)), (0, .ref aX), (1, .int x1)]) hx hb dX6_missedDigits_1 rfl hl (by decide) rfl (fun ls hl => ?_)
  refine lv_iconst hx hb dX6_missedDigits_2 kc_iconst_0 ?_
  refine lv_istore_n (lv' := [(3, .int (0 : Int32)), (2, .int (0 : Int32)), (0, .ref aX), (1, .int x1)]) hx hb dX6_missedDigits_3 rfl hl (by decide) rfl (fun ls hl => ?_)
  exact W_4 x1  fu (0 : Int32) (0 : Int32) ls (lv_sub hl [2, 3, 1, 0] rfl) hF
abbrev rm6_missedSwaps : Room := { frames := 1, cells := 0, slots := 0, locals := 23 }
theorem hd6_missedSwaps : yX6_missedSwaps.cls = RX6 ∧ yX6_missedSwaps.cls ≠ "java/lang/invoke/MethodHandle" ∧ yX6_missedSwaps.cls ≠ "java/lang/invoke/VarHandle" ∧ (parseMethodDescriptor yX6_missedSwaps.desc).map (fun d => d.parameters.length) = some 1 := by decide +kernel
set_option maxHeartbeats 4000000 in
set_option maxRecDepth 100000 in
theorem K6_missedSwaps (l : Launch) (D : va_G) (cI cZ cS cJ : ClassId) (aX aN aP aJ aI aT aD : Nat) (ms : Int32) (ml : Int32) (mt : Int32) (mq : Int32) (mu : Int32) (mN : Nat → Int32) (mP : Nat → Int32) (mK : Nat → Int32) (mI : Nat → Int32) (mT : Nat → Int32) (mD : Nat → Int32) (x1 : Int32) (r : Int32) (hF : f6_missedSwaps mN x1 = some (r)) : Met l yX6_missedSwaps wsX6_missedSwaps rm6_missedSwaps (rP D (gT cI cZ cS cJ) (W6 cI aX aN aP aJ aI aT aD ms ml mt mq mu mN mP mK mI mT mD) [.ref aX, .int x1]) (rQ (.int r)) 0 0 (fun _ => False) := by
  refine Met.ofW (cc := cX6_missedSwaps) (maxL := 5) (ret := (some .int)) (by decide) rfl ?_
  intro p e s m args below meth c s₁ B hml hv
  obtain ⟨ha, hK, hP⟩ := hv
  have hx := B.exec
  have hb := B.bytes
  have hr := B.returns
  have hlocks := B.notSynchronized
  have hts : ∀ w ∈ lw_all, w.before args s = true := fun w h => atoms_spec (ws := wsX6_missedSwaps) B.pre w (List.mem_cons_of_mem _ h)
  have hown : s.vm.findClass RX6 = some m.cls := findClass_of_methodNamed B.named
  have S : CallFix p m c cX6_missedSwaps 5 s args lw_all RX6 := ⟨hx, hb, hml, hown, hts⟩
  have hl := lv_entry ([.ref aX, .int x1] : List Value) (n := 5) (Nat.le_of_ble_eq_true rfl)
  refine W.eq (g2 := F0 m 0 ((lg_sl ([.ref aX, .int x1] : List Value) ++ List.replicate (5 - (lg_sl ([.ref aX, .int x1] : List Value)).length) Slot.unset).toArray) []) (by rw [ha]; exact lg_entry_eq _ _ _) ?_
  generalize (lg_sl ([.ref aX, .int x1] : List Value) ++ List.replicate (5 - (lg_sl ([.ref aX, .int x1] : List Value)).length) Slot.unset).toArray = ls at hl ⊢
  have hl : lv_has ls 5 [(0, .ref aX), (1, .int x1)] := hl
  clear ha
  have W_63 : ∀ (x1 : Int32) (x3 : Int32) (s0 : Int32) (s1 : Int32) (k4 : Int32 → Int32 → Option (Int32)) (hk4 : ∀ (x2 : Int32) (x3 : Int32), ∀ (ls : Array Slot), lv_has ls 5 [(0, .ref aX), (1, .int x1), (2, .int x2), (3, .int x3)] → k4 x2 x3 = some (r) → rW p l e wsX6_missedSwaps rm6_missedSwaps s m args below meth c (.int r) (F0 m 4 ls [])), ∀ (ls : Array Slot), lv_has ls 5 [(0, .ref aX), (1, .int x1), (3, .int x3)] → f6_missedSwaps_j63 k4 mN x1 x3 s0 s1 = some (r) → rW p l e wsX6_missedSwaps rm6_missedSwaps s m args below meth c (.int r) (F0 m 63 ls [.int s0, .int s1]) := by
    intro x1 x3 s0 s1 k4 hk4 ls hl hF
    rw [f6_missedSwaps_j63] at hF
    refine lv_iadd hx hb dX6_missedSwaps_63 ?_
    refine lv_istore_n (lv' := [(2, .int (s1 + s0)), (0, .ref aX), (1, .int x1), (3, .int x3)]) hx hb dX6_missedSwaps_64 rfl hl (by decide) rfl (fun ls hl => ?_)
    refine lv_iinc (v := (x3 + 1)) (lv' := [(3, .int (x3 + 1)), (2, .int (s1 + s0)), (0, .ref aX), (1, .int x1)]) hx hb dX6_missedSwaps_65 hl (k := 3) rfl rfl (by decide) rfl (fun ls hl => ?_)
    refine lv_goto (tgt := 4) hx hb dX6_missedSwaps_68 (by decide) ?_
    exact hk4 (s1 + s0) (x3 + 1) ls (lv_sub hl [2, 3, 1, 0] rfl) hF
  have W_62 : ∀ (x1 : Int32) (x3 : Int32) (s0 : Int32) (k4 : Int32 → Int32 → Option (Int32)) (hk4 : ∀ (x2 : Int32) (x3 : Int32), ∀ (ls : Array Slot), lv_has ls 5 [(0, .ref aX), (1, .int x1), (2, .int x2), (3, .int x3)] → k4 x2 x3 = some (r) → rW p l e wsX6_missedSwaps rm6_missedSwaps s m args below meth c (.int r) (F0 m 4 ls [])), ∀ (ls : Array Slot), lv_has ls 5 [(0, .ref aX), (1, .int x1), (3, .int x3)] → f6_missedSwaps_j62 k4 mN x1 x3 s0 = some (r) → rW p l e wsX6_missedSwaps rm6_missedSwaps s m args below meth c (.int r) (F0 m 62 ls [.int s0]) := by
    intro x1 x3 s0 k4 hk4 ls hl hF
    rw [f6_missedSwaps_j62] at hF
    refine lv_iconst hx hb dX6_missedSwaps_62 kc_iconst_0 ?_
    exact W_63 x1 x3 (0 : Int32) s0 k4 hk4 ls (lv_sub hl [0, 1, 2] rfl) hF
  have W_4 : ∀ (x1 : Int32) (n : Nat) (x2 : Int32) (x3 : Int32), ∀ (ls : Array Slot), lv_has ls 5 [(0, .ref aX), (1, .int x1), (2, .int x2), (3, .int x3)] → f6_missedSwaps_l4 mN x1 n x2 x3 = some (r) → rW p l e wsX6_missedSwaps rm6_missedSwaps s m args below meth c (.int r) (F0 m 4 ls []) := by
    intro x1  n
    induction n with
    | zero =>
      intro x2 x3 ls hl hF
      rw [f6_missedSwaps_l4] at hF
      cases hF
    | succ n ih =>
      intro x2 x3 ls hl hF
      rw [f6_missedSwaps_l4] at hF
      refine lv_iload_n hx hb dX6_missedSwaps_4 rfl (lv_at hl 3 rfl) ?_
      refine lv_iconst hx hb dX6_missedSwaps_5 kc_iconst_5 ?_
      refine lv_icmp_ge (tgt := 71) hx hb dX6_missedSwaps_6 (by decide) (fun c1 => ?_) (fun c1 => ?_)
      · have hF := ite_t c1 hF
        refine lv_iload_n hx hb dX6_missedSwaps_71 rfl (lv_at hl 2 rfl) ?_
        exact rret hF hx hb hr hlocks dX6_missedSwaps_72
      · have hF := ite_f c1 hF
        refine lv_iload_n hx hb dX6_missedSwaps_9 rfl (lv_at hl 1 rfl) ?_
        refine lv_iload_n hx hb dX6_missedSwaps_10 rfl (lv_at hl 3 rfl) ?_
        obtain ⟨q3, h2, hF⟩ := bd1_at hF
        refine rcall (va_runS (As := [.int x1, .int x3]) (rest := []) S (K6_digit l D cI cZ cS cJ x1 x3 q3 h2) (va_cwS 2 hts (gd_S wd_915 wd_916 wd_67 wd_917) rfl rfl rfl hdn6_digit ⟨Nat.le_of_ble_eq_true rfl, Nat.le_of_ble_eq_true rfl⟩) (rPreS hK (hP.sub (ws' := ([] : va_W)) [] rfl)) rfl rfl hl.1 rfl (lv_room (Nat.le_of_ble_eq_true rfl)) dX6_missedSwaps_11 ⟨(Nat.zero_le _), (Nat.zero_le _)⟩) ?_
        refine lv_iload_n hx hb dX6_missedSwaps_14 rfl (lv_at hl 1 rfl) ?_
        refine lv_iload_n hx hb dX6_missedSwaps_15 rfl (lv_at hl 3 rfl) ?_
        refine lv_iconst hx hb dX6_missedSwaps_16 kc_iconst_1 ?_
        refine lv_iadd hx hb dX6_missedSwaps_17 ?_
        obtain ⟨q5, h4, hF⟩ := bd1_at hF
        refine rcall (va_runS (As := [.int x1, .int (x3 + (1 : Int32))]) (rest := [.int q3]) S (K6_digit l D cI cZ cS cJ x1 (x3 + (1 : Int32)) q5 h4) (va_cwS 2 hts (gd_S wd_915 wd_916 wd_67 wd_917) rfl rfl rfl hdn6_digit ⟨Nat.le_of_ble_eq_true rfl, Nat.le_of_ble_eq_true rfl⟩) (rPreS hK (hP.sub (ws' := ([] : va_W)) [] rfl)) rfl rfl hl.1 rfl (lv_room (Nat.le_of_ble_eq_true rfl)) dX6_missedSwaps_18 ⟨(Nat.zero_le _), (Nat.zero_le _)⟩) ?_
        refine lv_isub hx hb dX6_missedSwaps_21 ?_
        refine lv_istore (lv' := [(4, .int (q3 - q5)), (0, .ref aX), (1, .int x1), (2, .int x2), (3, .int x3)]) hx hb dX6_missedSwaps_22 hl (by decide) rfl (fun ls hl => ?_)
        refine lv_iload_n hx hb dX6_missedSwaps_24 rfl (lv_at hl 3 rfl) ?_
        refine lv_iload hx hb dX6_missedSwaps_25 (lv_at hl 0 rfl) ?_
        refine lv_if_eq (tgt := 62) hx hb dX6_missedSwaps_27 (by decide) (fun c6 => ?_) (fun c6 => ?_)
        · have hF := ite_t c6 hF
          exact W_62 x1 x3 x2 (f6_missedSwaps_l4 mN x1 n) ih ls (lv_sub hl [1, 2, 4] rfl) hF
        · have hF := ite_f c6 hF
          refine lv_aload_n hx hb dX6_missedSwaps_30 rfl (lv_at hl 1 rfl) ?_
          refine lv_aload_n hx hb dX6_missedSwaps_31 rfl (lv_at hl 1 rfl) ?_
          refine va_get (D := D) (ci := 6) (v := .ref aN) (C := RX6) (T := TX6) (N := 11) hx hb hts i_X6 hown hK.1 hP 0 rfl rfl 0 (by decide) (hts _ wd_811) (fun _ h9 => h9) rfl dX6_missedSwaps_32 ?_
          refine lv_iconst hx hb dX6_missedSwaps_35 kc_iconst_3 ?_
          refine lv_iload_n hx hb dX6_missedSwaps_36 rfl (lv_at hl 4 rfl) ?_
          refine lv_iadd hx hb dX6_missedSwaps_37 ?_
          obtain ⟨g7, hF⟩ := gd_at hF
          refine va_iald hx hb hK.1 hP 1 0 rfl rfl g7 dX6_missedSwaps_38 ?_
          refine lv_aload_n hx hb dX6_missedSwaps_39 rfl (lv_at hl 1 rfl) ?_
          refine va_get (D := D) (ci := 6) (v := .ref aN) (C := RX6) (T := TX6) (N := 11) hx hb hts i_X6 hown hK.1 hP 0 rfl rfl 0 (by decide) (hts _ wd_811) (fun _ h9 => h9) rfl dX6_missedSwaps_40 ?_
          refine lv_iconst hx hb dX6_missedSwaps_43 kc_iconst_3 ?_
          refine lv_iload_n hx hb dX6_missedSwaps_44 rfl (lv_at hl 4 rfl) ?_
          refine lv_iadd hx hb dX6_missedSwaps_45 ?_
          refine lv_iconst hx hb dX6_missedSwaps_46 kc_iconst_1 ?_
          refine lv_iadd hx hb dX6_missedSwaps_47 ?_
          obtain ⟨g8, hF⟩ := gd_at hF
          refine va_iald hx hb hK.1 hP 1 0 rfl rfl g8 dX6_missedSwaps_48 ?_
          refine lv_isub hx hb dX6_missedSwaps_49 ?_
          refine lv_iload hx hb dX6_missedSwaps_50 (lv_at hl 0 rfl) ?_
          obtain ⟨q10, h9, hF⟩ := bd1_at hF
          refine rcall (va_runV (As := [.int ((mN ((3 : Int32) + x3).toNatClampNeg) - (mN (((3 : Int32) + x3) + (1 : Int32)).toNatClampNeg)), .int (q3 - q5)]) (rest := [.int x2]) S (K6_isLeft l D cI cZ cS cJ aX aN aP aJ aI aT aD ms ml mt mq mu mN mP mK mI mT mD ((mN ((3 : Int32) + x3).toNatClampNeg) - (mN (((3 : Int32) + x3) + (1 : Int32)).toNatClampNeg)) (q3 - q5) q10 h9) (cwV 2 hts (gd_V wd_1069 wd_1071 wd_53 wd_67 wd_1072) rfl rfl rfl hd6_isLeft ⟨Nat.le_of_ble_eq_true rfl, Nat.le_of_ble_eq_true rfl⟩) (rPreV hK hP (ci := 6) (q := (RX6, TX6, 11)) rfl rfl) rfl rfl hl.1 rfl (lv_room (Nat.le_of_ble_eq_true rfl)) dX6_missedSwaps_52 ⟨(Nat.zero_le _), (Nat.zero_le _)⟩) ?_
          refine lv_if_eq (tgt := 62) hx hb dX6_missedSwaps_55 (by decide) (fun c11 => ?_) (fun c11 => ?_)
          · have hF := ite_t c11 hF
            exact W_62 x1 x3 x2 (f6_missedSwaps_l4 mN x1 n) ih ls (lv_sub hl [1, 2, 4] rfl) hF
          · have hF := ite_f c11 hF
            refine lv_iconst hx hb dX6_missedSwaps_58 kc_iconst_1 ?_
            refine lv_goto (tgt := 63) hx hb dX6_missedSwaps_59 (by decide) ?_
            exact W_63 x1 x3 (1 : Int32) x2 (f6_missedSwaps_l4 mN x1 n) ih ls (lv_sub hl [1, 2, 4] rfl) hF
  rw [f6_missedSwaps] at hF
  show rW p l e wsX6_missedSwaps rm6_missedSwaps s m args below meth c (.int r) (F0 m 0 ls [])
  refine lv_iconst hx hb dX6_missedSwaps_0 kc_iconst_0 ?_
  refine lv_istore_n (lv' := [(2, .int (0 : Int32)), (0, .ref aX), (1, .int x1)]) hx hb dX6_missedSwaps_1 rfl hl (by decide) rfl (fun ls hl => ?_)
  refine lv_iconst hx hb dX6_missedSwaps_2 kc_iconst_0 ?_
  refine lv_istore_n (lv' := [(3, .int (0 : Int32)), (2, .int (0 : Int32)), (0, .ref aX), (1, .int x1)]) hx hb dX6_missedSwaps_3 rfl hl (by decide) rfl (fun ls hl => ?_)
  exact W_4 x1  fu (0 : Int32) (0 : Int32) ls (lv_sub hl [2, 3, 1, 0] rfl) hF
abbrev rm6_missed : Room := { frames := 2, cells := 0, slots := 0, locals := 47 }
theorem hd6_missed : yX6_missed.cls = RX6 ∧ yX6_missed.cls ≠ "java/lang/invoke/MethodHandle" ∧ yX6_missed.cls ≠ "java/lang/invoke/VarHandle" ∧ (parseMethodDescriptor yX6_missed.desc).map (fun d => d.parameters.length) = some 2 := by decide +kernel
set_option maxHeartbeats 4000000 in
set_option maxRecDepth 100000 in
theorem K6_missed (l : Launch) (D : va_G) (cI cZ cS cJ : ClassId) (aX aN aP aJ aI aT aD : Nat) (ms : Int32) (ml : Int32) (mt : Int32) (mq : Int32) (mu : Int32) (mN : Nat → Int32) (mP : Nat → Int32) (mK : Nat → Int32) (mI : Nat → Int32) (mT : Nat → Int32) (mD : Nat → Int32) (x1 : Int32) (x2 : Int32) (r : Int32) (z_mt : Int32) (hF : f6_missed mt mN x1 x2 = some (r, z_mt)) : Met l yX6_missed wsX6_missed rm6_missed (uP D (gT cI cZ cS cJ) (W6 cI aX aN aP aJ aI aT aD ms ml mt mq mu mN mP mK mI mT mD) [.ref aX, .int x1, .int x2]) (uQ D (some (.int r)) (uA (W6 cI aX aN aP aJ aI aT aD ms ml mt mq mu mN mP mK mI mT mD)) (W6 cI aX aN aP aJ aI aT aD ms ml z_mt mq mu mN mP mK mI mT mD)) 0 0 (uA (W6 cI aX aN aP aJ aI aT aD ms ml mt mq mu mN mP mK mI mT mD)) := by
  refine Met.ofW (cc := cX6_missed) (maxL := 3) (ret := (some .int)) (by decide) rfl ?_
  intro p e s m args below meth c s₁ B hml hv
  obtain ⟨ha, hK, hP, hD0⟩ := hv
  have hx := B.exec
  have hb := B.bytes
  have hr := B.returns
  have hlocks := B.notSynchronized
  have hts : ∀ w ∈ lw_all, w.before args s = true := fun w h => atoms_spec (ws := wsX6_missed) B.pre w (List.mem_cons_of_mem _ h)
  have hown : s.vm.findClass RX6 = some m.cls := findClass_of_methodNamed B.named
  have S : CallFix p m c cX6_missed 3 s args lw_all RX6 := ⟨hx, hb, hml, hown, hts⟩
  have hD := hD0.own
  generalize uA (W6 cI aX aN aP aJ aI aT aD ms ml mt mq mu mN mP mK mI mT mD) = A0 at hD ⊢
  have hS : va_S A0 s.heap s.heap [] := va_S.rf
  have hl := lv_entry ([.ref aX, .int x1, .int x2] : List Value) (n := 3) (Nat.le_of_ble_eq_true rfl)
  refine W.eq (g2 := F0 m 0 ((lg_sl ([.ref aX, .int x1, .int x2] : List Value) ++ List.replicate (3 - (lg_sl ([.ref aX, .int x1, .int x2] : List Value)).length) Slot.unset).toArray) []) (by rw [ha]; exact lg_entry_eq _ _ _) ?_
  generalize (lg_sl ([.ref aX, .int x1, .int x2] : List Value) ++ List.replicate (3 - (lg_sl ([.ref aX, .int x1, .int x2] : List Value)).length) Slot.unset).toArray = ls at hl ⊢
  have hl : lv_has ls 3 [(0, .ref aX), (1, .int x1), (2, .int x2)] := hl
  rw [f6_missed] at hF
  show uW p l e wsX6_missed rm6_missed s m args below meth c D (some (.int r)) A0 (W6 cI aX aN aP aJ aI aT aD ms ml z_mt mq mu mN mP mK mI mT mD) s.heap [] (F0 m 0 ls [])
  refine lv_aload_n hx hb dX6_missed_0 rfl (lv_at hl 0 rfl) ?_
  refine lv_iconst hx hb dX6_missed_1 kc_iconst_0 ?_
  refine va_put (D := D) (ci := 6) (v := .int (0 : Int32)) (ty := .int) (C := RX6) (T := TX6) (N := 11) hx hb hts i_X6 tyX6 tyX6_ok nmX6 hown hK.1 hP hD hS 0 rfl rfl 7 (by decide) (hts _ wd_818) (fun _ h9 => h9) rfl (by decide +kernel) rfl rfl (Nat.le_of_ble_eq_true rfl) dX6_missed_2 (fun H locs hP hD hS => ?_)
  have hP : va_P D vwCl (W6 cI aX aN aP aJ aI aT aD ms ml (0 : Int32) mq mu mN mP mK mI mT mD) H := hP
  have hD : va_D A0 (W6 cI aX aN aP aJ aI aT aD ms ml (0 : Int32) mq mu mN mP mK mI mT mD) := hD
  refine lv_iload_n hx hb dX6_missed_5 rfl (lv_at hl 1 rfl) ?_
  obtain ⟨q2, h1, hF⟩ := bd1_at hF
  refine rcall (va_runS (As := [.int x1]) (rest := []) S (K6_isSerial l D cI cZ cS cJ x1 q2 h1) (va_cwS 1 hts (gd_S wd_875 wd_876 wd_67 wd_877) rfl rfl rfl hdn6_isSerial ⟨Nat.le_of_ble_eq_true rfl, Nat.le_of_ble_eq_true rfl⟩) (rPreS hK (hP.sub (ws' := ([] : va_W)) [] rfl)) rfl rfl hl.1 rfl (lv_room (Nat.le_of_ble_eq_true rfl)) dX6_missed_6 ⟨(Nat.zero_le _), (Nat.zero_le _)⟩) ?_
  refine lv_if_ne (tgt := 18) hx hb dX6_missed_9 (by decide) (fun c3 => ?_) (fun c3 => ?_)
  · have hF := ite_f c3 hF
    refine lv_iload_n hx hb dX6_missed_18 rfl (lv_at hl 2 rfl) ?_
    refine lv_iconst hx hb dX6_missed_19 kc_iconst_0 ?_
    refine lv_iconst hx hb dX6_missed_20 kc_iconst_2 ?_
    obtain ⟨q5, h4, hF⟩ := bd1_at hF
    refine rcall (va_runS (As := [.int x2, .int (0 : Int32), .int (2 : Int32)]) (rest := []) S (K6_in l D cI cZ cS cJ x2 (0 : Int32) (2 : Int32) q5 h4) (va_cwS 3 hts (gd_S wd_853 wd_854 wd_67 wd_855) rfl rfl rfl hdn6_in ⟨Nat.le_of_ble_eq_true rfl, Nat.le_of_ble_eq_true rfl⟩) (rPreS hK (hP.sub (ws' := ([] : va_W)) [] rfl)) rfl rfl hl.1 rfl (lv_room (Nat.le_of_ble_eq_true rfl)) dX6_missed_21 ⟨(Nat.zero_le _), (Nat.zero_le _)⟩) ?_
    refine lv_if_ne (tgt := 33) hx hb dX6_missed_24 (by decide) (fun c6 => ?_) (fun c6 => ?_)
    · have hF := ite_f c6 hF
      refine lv_iload_n hx hb dX6_missed_33 rfl (lv_at hl 2 rfl) ?_
      refine lv_if_ne (tgt := 45) hx hb dX6_missed_34 (by decide) (fun c7 => ?_) (fun c7 => ?_)
      · have hF := ite_f c7 hF
        refine lv_iload_n hx hb dX6_missed_45 rfl (lv_at hl 2 rfl) ?_
        refine lv_iconst hx hb dX6_missed_46 kc_iconst_1 ?_
        refine lv_icmp_ne (tgt := 58) hx hb dX6_missed_47 (by decide) (fun c8 => ?_) (fun c8 => ?_)
        · have hF := ite_f c8 hF
          refine lv_iconst hx hb dX6_missed_58 kc_iconst_0 ?_
          cases hF
          exact ureti hx hb hr hlocks hP hS dX6_missed_59
        · have hF := ite_t c8 hF
          refine lv_aload_n hx hb dX6_missed_50 rfl (lv_at hl 0 rfl) ?_
          refine lv_iload_n hx hb dX6_missed_51 rfl (lv_at hl 1 rfl) ?_
          obtain ⟨q10, h9, hF⟩ := bd1_at hF
          refine rcall (va_runV (As := [.int x1]) (rest := []) S (K6_missedSwaps l D cI cZ cS cJ aX aN aP aJ aI aT aD ms ml (0 : Int32) mq mu mN mP mK mI mT mD x1 q10 h9) (cwV 1 hts (gd_V wd_1073 wd_1075 wd_54 wd_67 wd_1076) rfl rfl rfl hd6_missedSwaps ⟨Nat.le_of_ble_eq_true rfl, Nat.le_of_ble_eq_true rfl⟩) (rPreV hK hP (ci := 6) (q := (RX6, TX6, 11)) rfl rfl) rfl rfl hl.1 rfl (lv_room (Nat.le_of_ble_eq_true rfl)) dX6_missed_52 ⟨(Nat.zero_le _), (Nat.zero_le _)⟩) ?_
          refine lv_goto (tgt := 59) hx hb dX6_missed_55 (by decide) ?_
          cases hF
          exact ureti hx hb hr hlocks hP hS dX6_missed_59
      · have hF := ite_t c7 hF
        refine lv_aload_n hx hb dX6_missed_37 rfl (lv_at hl 0 rfl) ?_
        refine lv_iload_n hx hb dX6_missed_38 rfl (lv_at hl 1 rfl) ?_
        obtain ⟨q12, h11, hF⟩ := bd1_at hF
        refine rcall (va_runV (As := [.int x1]) (rest := []) S (K6_missedDigits l D cI cZ cS cJ aX aN aP aJ aI aT aD ms ml (0 : Int32) mq mu mN mP mK mI mT mD x1 q12 h11) (cwV 1 hts (gd_V wd_1065 wd_1067 wd_52 wd_67 wd_1068) rfl rfl rfl hd6_missedDigits ⟨Nat.le_of_ble_eq_true rfl, Nat.le_of_ble_eq_true rfl⟩) (rPreV hK hP (ci := 6) (q := (RX6, TX6, 11)) rfl rfl) rfl rfl hl.1 rfl (lv_room (Nat.le_of_ble_eq_true rfl)) dX6_missed_39 ⟨(Nat.zero_le _), (Nat.zero_le _)⟩) ?_
        refine lv_goto (tgt := 59) hx hb dX6_missed_42 (by decide) ?_
        cases hF
        exact ureti hx hb hr hlocks hP hS dX6_missed_59
    · have hF := ite_t c6 hF
      refine lv_aload_n hx hb dX6_missed_27 rfl (lv_at hl 0 rfl) ?_
      refine lv_iconst hx hb dX6_missed_28 kc_iconst_2 ?_
      obtain ⟨q14, u15, h13, hF⟩ := bd2_at hF
      refine ucalli (ws' := (W6 cI aX aN aP aJ aI aT aD ms ml u15 mq mu mN mP mK mI mT mD)) (va_runV (As := [.int (2 : Int32)]) (rest := []) S (K6_refuses l D cI cZ cS cJ aX aN aP aJ aI aT aD ms ml (0 : Int32) mq mu mN mP mK mI mT mD (2 : Int32) q14 u15 h13) (cwV 1 hts (gd_V wd_856 wd_858 wd_21 wd_67 wd_859) rfl rfl rfl hd6_refuses ⟨Nat.le_of_ble_eq_true rfl, Nat.le_of_ble_eq_true rfl⟩) (uPreV hK hP hD (ci := 6) (q := (RX6, TX6, 11)) rfl rfl) rfl rfl hl.1 rfl (lv_room (Nat.le_of_ble_eq_true rfl)) dX6_missed_29 ⟨(Nat.zero_le _), (Nat.zero_le _)⟩) hS hP hD [0, 1, 2, 3, 4, 5, 6] rfl rfl rfl rfl (fun H locs hP hD hS => ?_)
      cases hF
      exact ureti hx hb hr hlocks hP hS dX6_missed_32
  · have hF := ite_t c3 hF
    refine lv_aload_n hx hb dX6_missed_12 rfl (lv_at hl 0 rfl) ?_
    refine lv_iconst hx hb dX6_missed_13 kc_iconst_1 ?_
    obtain ⟨q17, u18, h16, hF⟩ := bd2_at hF
    refine ucalli (ws' := (W6 cI aX aN aP aJ aI aT aD ms ml u18 mq mu mN mP mK mI mT mD)) (va_runV (As := [.int (1 : Int32)]) (rest := []) S (K6_refuses l D cI cZ cS cJ aX aN aP aJ aI aT aD ms ml (0 : Int32) mq mu mN mP mK mI mT mD (1 : Int32) q17 u18 h16) (cwV 1 hts (gd_V wd_856 wd_858 wd_21 wd_67 wd_859) rfl rfl rfl hd6_refuses ⟨Nat.le_of_ble_eq_true rfl, Nat.le_of_ble_eq_true rfl⟩) (uPreV hK hP hD (ci := 6) (q := (RX6, TX6, 11)) rfl rfl) rfl rfl hl.1 rfl (lv_room (Nat.le_of_ble_eq_true rfl)) dX6_missed_14 ⟨(Nat.zero_le _), (Nat.zero_le _)⟩) hS hP hD [0, 1, 2, 3, 4, 5, 6] rfl rfl rfl rfl (fun H locs hP hD hS => ?_)
    cases hF
    exact ureti hx hb hr hlocks hP hS dX6_missed_17
abbrev rm6_pairs : Room := { frames := 1, cells := 0, slots := 0, locals := 22 }
theorem hd6_pairs : yX6_pairs.cls = RX6 ∧ yX6_pairs.cls ≠ "java/lang/invoke/MethodHandle" ∧ yX6_pairs.cls ≠ "java/lang/invoke/VarHandle" ∧ (parseMethodDescriptor yX6_pairs.desc).map (fun d => d.parameters.length) = some 1 := by decide +kernel
set_option maxHeartbeats 4000000 in
set_option maxRecDepth 100000 in
theorem K6_pairs (l : Launch) (D : va_G) (cI cZ cS cJ : ClassId) (aX aN aP aJ aI aT aD : Nat) (ms : Int32) (ml : Int32) (mt : Int32) (mq : Int32) (mu : Int32) (mN : Nat → Int32) (mP : Nat → Int32) (mK : Nat → Int32) (mI : Nat → Int32) (mT : Nat → Int32) (mD : Nat → Int32) (x1 : Int32) (r : Int32) (hF : f6_pairs mN x1 = some (r)) : Met l yX6_pairs wsX6_pairs rm6_pairs (rP D (gT cI cZ cS cJ) (W6 cI aX aN aP aJ aI aT aD ms ml mt mq mu mN mP mK mI mT mD) [.ref aX, .int x1]) (rQ (.int r)) 0 0 (fun _ => False) := by
  refine Met.ofW (cc := cX6_pairs) (maxL := 4) (ret := (some .int)) (by decide) rfl ?_
  intro p e s m args below meth c s₁ B hml hv
  obtain ⟨ha, hK, hP⟩ := hv
  have hx := B.exec
  have hb := B.bytes
  have hr := B.returns
  have hlocks := B.notSynchronized
  have hts : ∀ w ∈ lw_all, w.before args s = true := fun w h => atoms_spec (ws := wsX6_pairs) B.pre w (List.mem_cons_of_mem _ h)
  have hown : s.vm.findClass RX6 = some m.cls := findClass_of_methodNamed B.named
  have S : CallFix p m c cX6_pairs 4 s args lw_all RX6 := ⟨hx, hb, hml, hown, hts⟩
  have hl := lv_entry ([.ref aX, .int x1] : List Value) (n := 4) (Nat.le_of_ble_eq_true rfl)
  refine W.eq (g2 := F0 m 0 ((lg_sl ([.ref aX, .int x1] : List Value) ++ List.replicate (4 - (lg_sl ([.ref aX, .int x1] : List Value)).length) Slot.unset).toArray) []) (by rw [ha]; exact lg_entry_eq _ _ _) ?_
  generalize (lg_sl ([.ref aX, .int x1] : List Value) ++ List.replicate (4 - (lg_sl ([.ref aX, .int x1] : List Value)).length) Slot.unset).toArray = ls at hl ⊢
  have hl : lv_has ls 4 [(0, .ref aX), (1, .int x1)] := hl
  clear ha
  have W_28 : ∀ (x1 : Int32) (x3 : Int32) (s0 : Int32) (s1 : Int32) (k4 : Int32 → Int32 → Option (Int32)) (hk4 : ∀ (x2 : Int32) (x3 : Int32), ∀ (ls : Array Slot), lv_has ls 4 [(0, .ref aX), (1, .int x1), (2, .int x2), (3, .int x3)] → k4 x2 x3 = some (r) → rW p l e wsX6_pairs rm6_pairs s m args below meth c (.int r) (F0 m 4 ls [])), ∀ (ls : Array Slot), lv_has ls 4 [(0, .ref aX), (1, .int x1), (3, .int x3)] → f6_pairs_j28 k4 mN x1 x3 s0 s1 = some (r) → rW p l e wsX6_pairs rm6_pairs s m args below meth c (.int r) (F0 m 28 ls [.int s0, .int s1]) := by
    intro x1 x3 s0 s1 k4 hk4 ls hl hF
    rw [f6_pairs_j28] at hF
    refine lv_iadd hx hb dX6_pairs_28 ?_
    refine lv_istore_n (lv' := [(2, .int (s1 + s0)), (0, .ref aX), (1, .int x1), (3, .int x3)]) hx hb dX6_pairs_29 rfl hl (by decide) rfl (fun ls hl => ?_)
    refine lv_iinc (v := (x3 + 1)) (lv' := [(3, .int (x3 + 1)), (2, .int (s1 + s0)), (0, .ref aX), (1, .int x1)]) hx hb dX6_pairs_30 hl (k := 3) rfl rfl (by decide) rfl (fun ls hl => ?_)
    refine lv_goto (tgt := 4) hx hb dX6_pairs_33 (by decide) ?_
    exact hk4 (s1 + s0) (x3 + 1) ls (lv_sub hl [2, 3, 1, 0] rfl) hF
  have W_4 : ∀ (x1 : Int32) (n : Nat) (x2 : Int32) (x3 : Int32), ∀ (ls : Array Slot), lv_has ls 4 [(0, .ref aX), (1, .int x1), (2, .int x2), (3, .int x3)] → f6_pairs_l4 mN x1 n x2 x3 = some (r) → rW p l e wsX6_pairs rm6_pairs s m args below meth c (.int r) (F0 m 4 ls []) := by
    intro x1  n
    induction n with
    | zero =>
      intro x2 x3 ls hl hF
      rw [f6_pairs_l4] at hF
      cases hF
    | succ n ih =>
      intro x2 x3 ls hl hF
      rw [f6_pairs_l4] at hF
      refine lv_iload_n hx hb dX6_pairs_4 rfl (lv_at hl 3 rfl) ?_
      refine lv_bipush hx hb dX6_pairs_5 kc_bipush_10 ?_
      refine lv_icmp_ge (tgt := 36) hx hb dX6_pairs_7 (by decide) (fun c1 => ?_) (fun c1 => ?_)
      · have hF := ite_t c1 hF
        refine lv_iload_n hx hb dX6_pairs_36 rfl (lv_at hl 2 rfl) ?_
        exact rret hF hx hb hr hlocks dX6_pairs_37
      · have hF := ite_f c1 hF
        refine lv_iload_n hx hb dX6_pairs_10 rfl (lv_at hl 2 rfl) ?_
        refine lv_aload_n hx hb dX6_pairs_11 rfl (lv_at hl 0 rfl) ?_
        refine lv_iload_n hx hb dX6_pairs_12 rfl (lv_at hl 1 rfl) ?_
        refine lv_iload_n hx hb dX6_pairs_13 rfl (lv_at hl 3 rfl) ?_
        obtain ⟨q3, h2, hF⟩ := bd1_at hF
        refine rcall (va_runV (As := [.int x1, .int x3]) (rest := [.int x2]) S (K6_isLeft l D cI cZ cS cJ aX aN aP aJ aI aT aD ms ml mt mq mu mN mP mK mI mT mD x1 x3 q3 h2) (cwV 2 hts (gd_V wd_1069 wd_1071 wd_53 wd_67 wd_1072) rfl rfl rfl hd6_isLeft ⟨Nat.le_of_ble_eq_true rfl, Nat.le_of_ble_eq_true rfl⟩) (rPreV hK hP (ci := 6) (q := (RX6, TX6, 11)) rfl rfl) rfl rfl hl.1 rfl (lv_room (Nat.le_of_ble_eq_true rfl)) dX6_pairs_14 ⟨(Nat.zero_le _), (Nat.zero_le _)⟩) ?_
        refine lv_if_eq (tgt := 27) hx hb dX6_pairs_17 (by decide) (fun c4 => ?_) (fun c4 => ?_)
        · rw [if_pos c4] at hF
          refine lv_iconst hx hb dX6_pairs_27 kc_iconst_0 ?_
          exact W_28 x1 x3 (0 : Int32) x2 (f6_pairs_l4 mN x1 n) ih ls (lv_sub hl [0, 1, 3] rfl) hF
        · rw [if_neg c4] at hF
          refine lv_bipush hx hb dX6_pairs_20 kc_bipush_10 ?_
          refine lv_iload_n hx hb dX6_pairs_22 rfl (lv_at hl 3 rfl) ?_
          refine lv_isub hx hb dX6_pairs_23 ?_
          refine lv_goto (tgt := 28) hx hb dX6_pairs_24 (by decide) ?_
          exact W_28 x1 x3 ((10 : Int32) - x3) x2 (f6_pairs_l4 mN x1 n) ih ls (lv_sub hl [0, 1, 3] rfl) hF
  rw [f6_pairs] at hF
  show rW p l e wsX6_pairs rm6_pairs s m args below meth c (.int r) (F0 m 0 ls [])
  refine lv_iconst hx hb dX6_pairs_0 kc_iconst_0 ?_
  refine lv_istore_n (lv' := [(2, .int (0 : Int32)), (0, .ref aX), (1, .int x1)]) hx hb dX6_pairs_1 rfl hl (by decide) rfl (fun ls hl => ?_)
  refine lv_iconst hx hb dX6_pairs_2 kc_iconst_1 ?_
  refine lv_istore_n (lv' := [(3, .int (1 : Int32)), (2, .int (0 : Int32)), (0, .ref aX), (1, .int x1)]) hx hb dX6_pairs_3 rfl hl (by decide) rfl (fun ls hl => ?_)
  exact W_4 x1  fu (0 : Int32) (1 : Int32) ls (lv_sub hl [2, 3, 1, 0] rfl) hF
abbrev rm6_weakAt : Room := { frames := 2, cells := 0, slots := 0, locals := 45 }
theorem hd6_weakAt : yX6_weakAt.cls = RX6 ∧ yX6_weakAt.cls ≠ "java/lang/invoke/MethodHandle" ∧ yX6_weakAt.cls ≠ "java/lang/invoke/VarHandle" ∧ (parseMethodDescriptor yX6_weakAt.desc).map (fun d => d.parameters.length) = some 2 := by decide +kernel
set_option maxHeartbeats 4000000 in
set_option maxRecDepth 100000 in
theorem K6_weakAt (l : Launch) (D : va_G) (cI cZ cS cJ : ClassId) (aX aN aP aJ aI aT aD : Nat) (ms : Int32) (ml : Int32) (mt : Int32) (mq : Int32) (mu : Int32) (mN : Nat → Int32) (mP : Nat → Int32) (mK : Nat → Int32) (mI : Nat → Int32) (mT : Nat → Int32) (mD : Nat → Int32) (x1 : Int32) (x2 : Int32) (r : Int32) (hF : f6_weakAt mN x1 x2 = some (r)) : Met l yX6_weakAt wsX6_weakAt rm6_weakAt (rP D (gT cI cZ cS cJ) (W6 cI aX aN aP aJ aI aT aD ms ml mt mq mu mN mP mK mI mT mD) [.ref aX, .int x1, .int x2]) (rQ (.int r)) 0 0 (fun _ => False) := by
  refine Met.ofW (cc := cX6_weakAt) (maxL := 3) (ret := (some .int)) (by decide) rfl ?_
  intro p e s m args below meth c s₁ B hml hv
  obtain ⟨ha, hK, hP⟩ := hv
  have hx := B.exec
  have hb := B.bytes
  have hr := B.returns
  have hlocks := B.notSynchronized
  have hts : ∀ w ∈ lw_all, w.before args s = true := fun w h => atoms_spec (ws := wsX6_weakAt) B.pre w (List.mem_cons_of_mem _ h)
  have hown : s.vm.findClass RX6 = some m.cls := findClass_of_methodNamed B.named
  have S : CallFix p m c cX6_weakAt 3 s args lw_all RX6 := ⟨hx, hb, hml, hown, hts⟩
  have hl := lv_entry ([.ref aX, .int x1, .int x2] : List Value) (n := 3) (Nat.le_of_ble_eq_true rfl)
  refine W.eq (g2 := F0 m 0 ((lg_sl ([.ref aX, .int x1, .int x2] : List Value) ++ List.replicate (3 - (lg_sl ([.ref aX, .int x1, .int x2] : List Value)).length) Slot.unset).toArray) []) (by rw [ha]; exact lg_entry_eq _ _ _) ?_
  generalize (lg_sl ([.ref aX, .int x1, .int x2] : List Value) ++ List.replicate (3 - (lg_sl ([.ref aX, .int x1, .int x2] : List Value)).length) Slot.unset).toArray = ls at hl ⊢
  have hl : lv_has ls 3 [(0, .ref aX), (1, .int x1), (2, .int x2)] := hl
  clear ha
  have W_35 : ∀ (s0 : Int32), ∀ (ls : Array Slot), lv_has ls 3 [] → f6_weakAt_j35 mN s0 = some (r) → rW p l e wsX6_weakAt rm6_weakAt s m args below meth c (.int r) (F0 m 35 ls [.int s0, .ref aX]) := by
    intro s0  ls hl hF
    rw [f6_weakAt_j35] at hF
    obtain ⟨q6, h5, hF⟩ := bd1_at hF
    refine rcall (va_runV (As := [.int s0]) (rest := []) S (K6_pairs l D cI cZ cS cJ aX aN aP aJ aI aT aD ms ml mt mq mu mN mP mK mI mT mD s0 q6 h5) (cwV 1 hts (gd_V wd_1085 wd_1087 wd_56 wd_67 wd_1088) rfl rfl rfl hd6_pairs ⟨Nat.le_of_ble_eq_true rfl, Nat.le_of_ble_eq_true rfl⟩) (rPreV hK hP (ci := 6) (q := (RX6, TX6, 11)) rfl rfl) rfl rfl hl.1 rfl (lv_room (Nat.le_of_ble_eq_true rfl)) dX6_weakAt_35 ⟨(Nat.zero_le _), (Nat.zero_le _)⟩) ?_
    exact rret hF hx hb hr hlocks dX6_weakAt_38
  rw [f6_weakAt] at hF
  show rW p l e wsX6_weakAt rm6_weakAt s m args below meth c (.int r) (F0 m 0 ls [])
  refine lv_aload_n hx hb dX6_weakAt_0 rfl (lv_at hl 0 rfl) ?_
  refine lv_iload_n hx hb dX6_weakAt_1 rfl (lv_at hl 2 rfl) ?_
  refine lv_if_ne (tgt := 16) hx hb dX6_weakAt_2 (by decide) (fun c1 => ?_) (fun c1 => ?_)
  · have hF := ite_f c1 hF
    refine lv_aload_n hx hb dX6_weakAt_16 rfl (lv_at hl 0 rfl) ?_
    refine va_get (D := D) (ci := 6) (v := .ref aN) (C := RX6) (T := TX6) (N := 11) hx hb hts i_X6 hown hK.1 hP 0 rfl rfl 0 (by decide) (hts _ wd_811) (fun _ h9 => h9) rfl dX6_weakAt_17 ?_
    refine lv_iconst hx hb dX6_weakAt_20 kc_iconst_3 ?_
    refine lv_iload_n hx hb dX6_weakAt_21 rfl (lv_at hl 1 rfl) ?_
    refine lv_iadd hx hb dX6_weakAt_22 ?_
    obtain ⟨g2, hF⟩ := gd_at hF
    refine va_iald hx hb hK.1 hP 1 0 rfl rfl g2 dX6_weakAt_23 ?_
    refine lv_aload_n hx hb dX6_weakAt_24 rfl (lv_at hl 0 rfl) ?_
    refine va_get (D := D) (ci := 6) (v := .ref aN) (C := RX6) (T := TX6) (N := 11) hx hb hts i_X6 hown hK.1 hP 0 rfl rfl 0 (by decide) (hts _ wd_811) (fun _ h9 => h9) rfl dX6_weakAt_25 ?_
    refine lv_iconst hx hb dX6_weakAt_28 kc_iconst_3 ?_
    refine lv_iload_n hx hb dX6_weakAt_29 rfl (lv_at hl 1 rfl) ?_
    refine lv_iadd hx hb dX6_weakAt_30 ?_
    refine lv_iconst hx hb dX6_weakAt_31 kc_iconst_1 ?_
    refine lv_iadd hx hb dX6_weakAt_32 ?_
    obtain ⟨g3, hF⟩ := gd_at hF
    refine va_iald hx hb hK.1 hP 1 0 rfl rfl g3 dX6_weakAt_33 ?_
    refine lv_isub hx hb dX6_weakAt_34 ?_
    exact W_35 ((mN ((3 : Int32) + x1).toNatClampNeg) - (mN (((3 : Int32) + x1) + (1 : Int32)).toNatClampNeg))  ls (lv_sub hl [] rfl) hF
  · have hF := ite_t c1 hF
    refine lv_aload_n hx hb dX6_weakAt_5 rfl (lv_at hl 0 rfl) ?_
    refine va_get (D := D) (ci := 6) (v := .ref aN) (C := RX6) (T := TX6) (N := 11) hx hb hts i_X6 hown hK.1 hP 0 rfl rfl 0 (by decide) (hts _ wd_811) (fun _ h9 => h9) rfl dX6_weakAt_6 ?_
    refine lv_iconst hx hb dX6_weakAt_9 kc_iconst_3 ?_
    refine lv_iload_n hx hb dX6_weakAt_10 rfl (lv_at hl 1 rfl) ?_
    refine lv_iadd hx hb dX6_weakAt_11 ?_
    obtain ⟨g4, hF⟩ := gd_at hF
    refine va_iald hx hb hK.1 hP 1 0 rfl rfl g4 dX6_weakAt_12 ?_
    refine lv_goto (tgt := 35) hx hb dX6_weakAt_13 (by decide) ?_
    exact W_35 (mN ((3 : Int32) + x1).toNatClampNeg)  ls (lv_sub hl [] rfl) hF
abbrev rm6_weak : Room := { frames := 3, cells := 0, slots := 0, locals := 67 }
theorem hd6_weak : yX6_weak.cls = RX6 ∧ yX6_weak.cls ≠ "java/lang/invoke/MethodHandle" ∧ yX6_weak.cls ≠ "java/lang/invoke/VarHandle" ∧ (parseMethodDescriptor yX6_weak.desc).map (fun d => d.parameters.length) = some 3 := by decide +kernel
set_option maxHeartbeats 4000000 in
set_option maxRecDepth 100000 in
theorem K6_weak (l : Launch) (D : va_G) (cI cZ cS cJ : ClassId) (aX aN aP aJ aI aT aD : Nat) (ms : Int32) (ml : Int32) (mt : Int32) (mq : Int32) (mu : Int32) (mN : Nat → Int32) (mP : Nat → Int32) (mK : Nat → Int32) (mI : Nat → Int32) (mT : Nat → Int32) (mD : Nat → Int32) (x1 : Int32) (x2 : Int32) (x3 : Int32) (r : Int32) (z_mt : Int32) (hF : f6_weak mt mN x1 x2 x3 = some (r, z_mt)) : Met l yX6_weak wsX6_weak rm6_weak (uP D (gT cI cZ cS cJ) (W6 cI aX aN aP aJ aI aT aD ms ml mt mq mu mN mP mK mI mT mD) [.ref aX, .int x1, .int x2, .int x3]) (uQ D (some (.int r)) (uA (W6 cI aX aN aP aJ aI aT aD ms ml mt mq mu mN mP mK mI mT mD)) (W6 cI aX aN aP aJ aI aT aD ms ml z_mt mq mu mN mP mK mI mT mD)) 0 0 (uA (W6 cI aX aN aP aJ aI aT aD ms ml mt mq mu mN mP mK mI mT mD)) := by
  refine Met.ofW (cc := cX6_weak) (maxL := 4) (ret := (some .int)) (by decide) rfl ?_
  intro p e s m args below meth c s₁ B hml hv
  obtain ⟨ha, hK, hP, hD0⟩ := hv
  have hx := B.exec
  have hb := B.bytes
  have hr := B.returns
  have hlocks := B.notSynchronized
  have hts : ∀ w ∈ lw_all, w.before args s = true := fun w h => atoms_spec (ws := wsX6_weak) B.pre w (List.mem_cons_of_mem _ h)
  have hown : s.vm.findClass RX6 = some m.cls := findClass_of_methodNamed B.named
  have S : CallFix p m c cX6_weak 4 s args lw_all RX6 := ⟨hx, hb, hml, hown, hts⟩
  have hD := hD0.own
  generalize uA (W6 cI aX aN aP aJ aI aT aD ms ml mt mq mu mN mP mK mI mT mD) = A0 at hD ⊢
  have hS : va_S A0 s.heap s.heap [] := va_S.rf
  have hl := lv_entry ([.ref aX, .int x1, .int x2, .int x3] : List Value) (n := 4) (Nat.le_of_ble_eq_true rfl)
  refine W.eq (g2 := F0 m 0 ((lg_sl ([.ref aX, .int x1, .int x2, .int x3] : List Value) ++ List.replicate (4 - (lg_sl ([.ref aX, .int x1, .int x2, .int x3] : List Value)).length) Slot.unset).toArray) []) (by rw [ha]; exact lg_entry_eq _ _ _) ?_
  generalize (lg_sl ([.ref aX, .int x1, .int x2, .int x3] : List Value) ++ List.replicate (4 - (lg_sl ([.ref aX, .int x1, .int x2, .int x3] : List Value)).length) Slot.unset).toArray = ls at hl ⊢
  have hl : lv_has ls 4 [(0, .ref aX), (1, .int x1), (2, .int x2), (3, .int x3)] := hl
  clear ha
  have W_56 : ∀ (mt : Int32), ∀ (H : Heap) (locs : List Loc), va_P D vwCl (W6 cI aX aN aP aJ aI aT aD ms ml mt mq mu mN mP mK mI mT mD) H → va_D A0 (W6 cI aX aN aP aJ aI aT aD ms ml mt mq mu mN mP mK mI mT mD) → va_S A0 s.heap H locs → ∀ (ls : Array Slot), lv_has ls 4 [(0, .ref aX)] → f6_weak_j56 mt mN = some (r, z_mt) → uW p l e wsX6_weak rm6_weak s m args below meth c D (some (.int r)) A0 (W6 cI aX aN aP aJ aI aT aD ms ml z_mt mq mu mN mP mK mI mT mD) H locs (F0 m 56 ls []) := by
    intro mt  H locs hP hD hS ls hl hF
    rw [f6_weak_j56] at hF
    refine lv_aload_n hx hb dX6_weak_56 rfl (lv_at hl 0 rfl) ?_
    refine lv_iconst hx hb dX6_weak_57 kc_iconst_2 ?_
    obtain ⟨q17, u18, h16, hF⟩ := bd2_at hF
    refine ucalli (ws' := (W6 cI aX aN aP aJ aI aT aD ms ml u18 mq mu mN mP mK mI mT mD)) (va_runV (As := [.int (2 : Int32)]) (rest := []) S (K6_refuses l D cI cZ cS cJ aX aN aP aJ aI aT aD ms ml mt mq mu mN mP mK mI mT mD (2 : Int32) q17 u18 h16) (cwV 1 hts (gd_V wd_856 wd_858 wd_21 wd_67 wd_859) rfl rfl rfl hd6_refuses ⟨Nat.le_of_ble_eq_true rfl, Nat.le_of_ble_eq_true rfl⟩) (uPreV hK hP hD (ci := 6) (q := (RX6, TX6, 11)) rfl rfl) rfl rfl hl.1 rfl (lv_room (Nat.le_of_ble_eq_true rfl)) dX6_weak_58 ⟨(Nat.zero_le _), (Nat.zero_le _)⟩) hS hP hD [0, 1, 2, 3, 4, 5, 6] rfl rfl rfl rfl (fun H locs hP hD hS => ?_)
    cases hF
    exact ureti hx hb hr hlocks hP hS dX6_weak_61
  have W_17 : ∀ (mt : Int32) (x1 : Int32) (x2 : Int32) (x3 : Int32) (s0 : Int32) (s1 : Int32) (s2 : Int32), ∀ (H : Heap) (locs : List Loc), va_P D vwCl (W6 cI aX aN aP aJ aI aT aD ms ml mt mq mu mN mP mK mI mT mD) H → va_D A0 (W6 cI aX aN aP aJ aI aT aD ms ml mt mq mu mN mP mK mI mT mD) → va_S A0 s.heap H locs → ∀ (ls : Array Slot), lv_has ls 4 [(0, .ref aX), (1, .int x1), (2, .int x2), (3, .int x3)] → f6_weak_j17 mt mN x1 x2 x3 s0 s1 s2 = some (r, z_mt) → uW p l e wsX6_weak rm6_weak s m args below meth c D (some (.int r)) A0 (W6 cI aX aN aP aJ aI aT aD ms ml z_mt mq mu mN mP mK mI mT mD) H locs (F0 m 17 ls [.int s0, .int s1, .int s2]) := by
    intro mt x1 x2 x3 s0 s1 s2  H locs hP hD hS ls hl hF
    rw [f6_weak_j17] at hF
    obtain ⟨q3, h2, hF⟩ := bd1_at hF
    refine rcall (va_runS (As := [.int s2, .int s1, .int s0]) (rest := []) S (K6_in l D cI cZ cS cJ s2 s1 s0 q3 h2) (va_cwS 3 hts (gd_S wd_853 wd_854 wd_67 wd_855) rfl rfl rfl hdn6_in ⟨Nat.le_of_ble_eq_true rfl, Nat.le_of_ble_eq_true rfl⟩) (rPreS hK (hP.sub (ws' := ([] : va_W)) [] rfl)) rfl rfl hl.1 rfl (lv_room (Nat.le_of_ble_eq_true rfl)) dX6_weak_17 ⟨(Nat.zero_le _), (Nat.zero_le _)⟩) ?_
    refine lv_if_ne (tgt := 29) hx hb dX6_weak_20 (by decide) (fun c4 => ?_) (fun c4 => ?_)
    · have hF := ite_f c4 hF
      refine lv_iload_n hx hb dX6_weak_29 rfl (lv_at hl 2 rfl) ?_
      refine lv_iconst hx hb dX6_weak_30 kc_iconst_0 ?_
      refine lv_iconst hx hb dX6_weak_31 kc_iconst_1 ?_
      obtain ⟨q6, h5, hF⟩ := bd1_at hF
      refine rcall (va_runS (As := [.int x2, .int (0 : Int32), .int (1 : Int32)]) (rest := []) S (K6_in l D cI cZ cS cJ x2 (0 : Int32) (1 : Int32) q6 h5) (va_cwS 3 hts (gd_S wd_853 wd_854 wd_67 wd_855) rfl rfl rfl hdn6_in ⟨Nat.le_of_ble_eq_true rfl, Nat.le_of_ble_eq_true rfl⟩) (rPreS hK (hP.sub (ws' := ([] : va_W)) [] rfl)) rfl rfl hl.1 rfl (lv_room (Nat.le_of_ble_eq_true rfl)) dX6_weak_32 ⟨(Nat.zero_le _), (Nat.zero_le _)⟩) ?_
      refine lv_if_eq (tgt := 56) hx hb dX6_weak_35 (by decide) (fun c7 => ?_) (fun c7 => ?_)
      · have hF := ite_t c7 hF
        exact W_56 mt  _ _ hP hD hS ls (lv_sub hl [0] rfl) hF
      · have hF := ite_f c7 hF
        refine lv_iload_n hx hb dX6_weak_38 rfl (lv_at hl 3 rfl) ?_
        refine lv_iconst hx hb dX6_weak_39 kc_iconst_0 ?_
        refine lv_iconst hx hb dX6_weak_40 kc_iconst_1 ?_
        obtain ⟨q9, h8, hF⟩ := bd1_at hF
        refine rcall (va_runS (As := [.int x3, .int (0 : Int32), .int (1 : Int32)]) (rest := []) S (K6_in l D cI cZ cS cJ x3 (0 : Int32) (1 : Int32) q9 h8) (va_cwS 3 hts (gd_S wd_853 wd_854 wd_67 wd_855) rfl rfl rfl hdn6_in ⟨Nat.le_of_ble_eq_true rfl, Nat.le_of_ble_eq_true rfl⟩) (rPreS hK (hP.sub (ws' := ([] : va_W)) [] rfl)) rfl rfl hl.1 rfl (lv_room (Nat.le_of_ble_eq_true rfl)) dX6_weak_41 ⟨(Nat.zero_le _), (Nat.zero_le _)⟩) ?_
        refine lv_if_eq (tgt := 56) hx hb dX6_weak_44 (by decide) (fun c10 => ?_) (fun c10 => ?_)
        · have hF := ite_t c10 hF
          exact W_56 mt  _ _ hP hD hS ls (lv_sub hl [0] rfl) hF
        · have hF := ite_f c10 hF
          refine lv_aload_n hx hb dX6_weak_47 rfl (lv_at hl 0 rfl) ?_
          refine lv_iload_n hx hb dX6_weak_48 rfl (lv_at hl 1 rfl) ?_
          refine lv_iload_n hx hb dX6_weak_49 rfl (lv_at hl 2 rfl) ?_
          obtain ⟨q12, h11, hF⟩ := bd1_at hF
          refine rcall (va_runV (As := [.int x1, .int x2]) (rest := []) S (K6_weakAt l D cI cZ cS cJ aX aN aP aJ aI aT aD ms ml mt mq mu mN mP mK mI mT mD x1 x2 q12 h11) (cwV 2 hts (gd_V wd_1081 wd_1083 wd_55 wd_67 wd_1084) rfl rfl rfl hd6_weakAt ⟨Nat.le_of_ble_eq_true rfl, Nat.le_of_ble_eq_true rfl⟩) (rPreV hK hP (ci := 6) (q := (RX6, TX6, 11)) rfl rfl) rfl rfl hl.1 rfl (lv_room (Nat.le_of_ble_eq_true rfl)) dX6_weak_50 ⟨(Nat.zero_le _), (Nat.zero_le _)⟩) ?_
          refine lv_goto (tgt := 61) hx hb dX6_weak_53 (by decide) ?_
          cases hF
          exact ureti hx hb hr hlocks hP hS dX6_weak_61
    · have hF := ite_t c4 hF
      refine lv_aload_n hx hb dX6_weak_23 rfl (lv_at hl 0 rfl) ?_
      refine lv_iconst hx hb dX6_weak_24 kc_iconst_1 ?_
      obtain ⟨q14, u15, h13, hF⟩ := bd2_at hF
      refine ucalli (ws' := (W6 cI aX aN aP aJ aI aT aD ms ml u15 mq mu mN mP mK mI mT mD)) (va_runV (As := [.int (1 : Int32)]) (rest := []) S (K6_refuses l D cI cZ cS cJ aX aN aP aJ aI aT aD ms ml mt mq mu mN mP mK mI mT mD (1 : Int32) q14 u15 h13) (cwV 1 hts (gd_V wd_856 wd_858 wd_21 wd_67 wd_859) rfl rfl rfl hd6_refuses ⟨Nat.le_of_ble_eq_true rfl, Nat.le_of_ble_eq_true rfl⟩) (uPreV hK hP hD (ci := 6) (q := (RX6, TX6, 11)) rfl rfl) rfl rfl hl.1 rfl (lv_room (Nat.le_of_ble_eq_true rfl)) dX6_weak_25 ⟨(Nat.zero_le _), (Nat.zero_le _)⟩) hS hP hD [0, 1, 2, 3, 4, 5, 6] rfl rfl rfl rfl (fun H locs hP hD hS => ?_)
      cases hF
      exact ureti hx hb hr hlocks hP hS dX6_weak_28
  rw [f6_weak] at hF
  show uW p l e wsX6_weak rm6_weak s m args below meth c D (some (.int r)) A0 (W6 cI aX aN aP aJ aI aT aD ms ml z_mt mq mu mN mP mK mI mT mD) s.heap [] (F0 m 0 ls [])
  refine lv_aload_n hx hb dX6_weak_0 rfl (lv_at hl 0 rfl) ?_
  refine lv_iconst hx hb dX6_weak_1 kc_iconst_0 ?_
  refine va_put (D := D) (ci := 6) (v := .int (0 : Int32)) (ty := .int) (C := RX6) (T := TX6) (N := 11) hx hb hts i_X6 tyX6 tyX6_ok nmX6 hown hK.1 hP hD hS 0 rfl rfl 7 (by decide) (hts _ wd_818) (fun _ h9 => h9) rfl (by decide +kernel) rfl rfl (Nat.le_of_ble_eq_true rfl) dX6_weak_2 (fun H locs hP hD hS => ?_)
  have hP : va_P D vwCl (W6 cI aX aN aP aJ aI aT aD ms ml (0 : Int32) mq mu mN mP mK mI mT mD) H := hP
  have hD : va_D A0 (W6 cI aX aN aP aJ aI aT aD ms ml (0 : Int32) mq mu mN mP mK mI mT mD) := hD
  refine lv_iload_n hx hb dX6_weak_5 rfl (lv_at hl 1 rfl) ?_
  refine lv_iconst hx hb dX6_weak_6 kc_iconst_0 ?_
  refine lv_iload_n hx hb dX6_weak_7 rfl (lv_at hl 2 rfl) ?_
  refine lv_iconst hx hb dX6_weak_8 kc_iconst_1 ?_
  refine lv_icmp_ne (tgt := 16) hx hb dX6_weak_9 (by decide) (fun c1 => ?_) (fun c1 => ?_)
  · rw [if_neg c1] at hF
    refine lv_iconst hx hb dX6_weak_16 kc_iconst_5 ?_
    exact W_17 (0 : Int32) x1 x2 x3 (5 : Int32) (0 : Int32) x1  _ _ hP hD hS ls (lv_sub hl [0, 1, 2, 3] rfl) hF
  · rw [if_pos c1] at hF
    refine lv_iconst hx hb dX6_weak_12 kc_iconst_4 ?_
    refine lv_goto (tgt := 17) hx hb dX6_weak_13 (by decide) ?_
    exact W_17 (0 : Int32) x1 x2 x3 (4 : Int32) (0 : Int32) x1  _ _ hP hD hS ls (lv_sub hl [0, 1, 2, 3] rfl) hF
abbrev rm6_weakOf : Room := { frames := 3, cells := 0, slots := 0, locals := 67 }
theorem hd6_weakOf : yX6_weakOf.cls = RX6 ∧ yX6_weakOf.cls ≠ "java/lang/invoke/MethodHandle" ∧ yX6_weakOf.cls ≠ "java/lang/invoke/VarHandle" ∧ (parseMethodDescriptor yX6_weakOf.desc).map (fun d => d.parameters.length) = some 1 := by decide +kernel
set_option maxHeartbeats 4000000 in
set_option maxRecDepth 100000 in
theorem K6_weakOf (l : Launch) (D : va_G) (cI cZ cS cJ : ClassId) (aX aN aP aJ aI aT aD : Nat) (ms : Int32) (ml : Int32) (mt : Int32) (mq : Int32) (mu : Int32) (mN : Nat → Int32) (mP : Nat → Int32) (mK : Nat → Int32) (mI : Nat → Int32) (mT : Nat → Int32) (mD : Nat → Int32) (x1 : Int32) (r : Int32) (hF : f6_weakOf mN x1 = some (r)) : Met l yX6_weakOf wsX6_weakOf rm6_weakOf (rP D (gT cI cZ cS cJ) (W6 cI aX aN aP aJ aI aT aD ms ml mt mq mu mN mP mK mI mT mD) [.ref aX, .int x1]) (rQ (.int r)) 0 0 (fun _ => False) := by
  refine Met.ofW (cc := cX6_weakOf) (maxL := 4) (ret := (some .int)) (by decide) rfl ?_
  intro p e s m args below meth c s₁ B hml hv
  obtain ⟨ha, hK, hP⟩ := hv
  have hx := B.exec
  have hb := B.bytes
  have hr := B.returns
  have hlocks := B.notSynchronized
  have hts : ∀ w ∈ lw_all, w.before args s = true := fun w h => atoms_spec (ws := wsX6_weakOf) B.pre w (List.mem_cons_of_mem _ h)
  have hown : s.vm.findClass RX6 = some m.cls := findClass_of_methodNamed B.named
  have S : CallFix p m c cX6_weakOf 4 s args lw_all RX6 := ⟨hx, hb, hml, hown, hts⟩
  have hl := lv_entry ([.ref aX, .int x1] : List Value) (n := 4) (Nat.le_of_ble_eq_true rfl)
  refine W.eq (g2 := F0 m 0 ((lg_sl ([.ref aX, .int x1] : List Value) ++ List.replicate (4 - (lg_sl ([.ref aX, .int x1] : List Value)).length) Slot.unset).toArray) []) (by rw [ha]; exact lg_entry_eq _ _ _) ?_
  generalize (lg_sl ([.ref aX, .int x1] : List Value) ++ List.replicate (4 - (lg_sl ([.ref aX, .int x1] : List Value)).length) Slot.unset).toArray = ls at hl ⊢
  have hl : lv_has ls 4 [(0, .ref aX), (1, .int x1)] := hl
  clear ha
  have W_4 : ∀ (x1 : Int32) (n : Nat) (x2 : Int32) (x3 : Int32), ∀ (ls : Array Slot), lv_has ls 4 [(0, .ref aX), (1, .int x1), (2, .int x2), (3, .int x3)] → f6_weakOf_l4 mN x1 n x2 x3 = some (r) → rW p l e wsX6_weakOf rm6_weakOf s m args below meth c (.int r) (F0 m 4 ls []) := by
    intro x1  n
    induction n with
    | zero =>
      intro x2 x3 ls hl hF
      rw [f6_weakOf_l4] at hF
      cases hF
    | succ n ih =>
      intro x2 x3 ls hl hF
      rw [f6_weakOf_l4] at hF
      refine lv_iload_n hx hb dX6_weakOf_4 rfl (lv_at hl 3 rfl) ?_
      refine lv_bipush hx hb dX6_weakOf_5 kc_bipush_6 ?_
      refine lv_iload_n hx hb dX6_weakOf_7 rfl (lv_at hl 1 rfl) ?_
      refine lv_isub hx hb dX6_weakOf_8 ?_
      refine lv_icmp_ge (tgt := 27) hx hb dX6_weakOf_9 (by decide) (fun c1 => ?_) (fun c1 => ?_)
      · have hF := ite_t c1 hF
        refine lv_iload_n hx hb dX6_weakOf_27 rfl (lv_at hl 2 rfl) ?_
        exact rret hF hx hb hr hlocks dX6_weakOf_28
      · have hF := ite_f c1 hF
        refine lv_iload_n hx hb dX6_weakOf_12 rfl (lv_at hl 2 rfl) ?_
        refine lv_aload_n hx hb dX6_weakOf_13 rfl (lv_at hl 0 rfl) ?_
        refine lv_iload_n hx hb dX6_weakOf_14 rfl (lv_at hl 3 rfl) ?_
        refine lv_iload_n hx hb dX6_weakOf_15 rfl (lv_at hl 1 rfl) ?_
        obtain ⟨q3, h2, hF⟩ := bd1_at hF
        refine rcall (va_runV (As := [.int x3, .int x1]) (rest := [.int x2]) S (K6_weakAt l D cI cZ cS cJ aX aN aP aJ aI aT aD ms ml mt mq mu mN mP mK mI mT mD x3 x1 q3 h2) (cwV 2 hts (gd_V wd_1081 wd_1083 wd_55 wd_67 wd_1084) rfl rfl rfl hd6_weakAt ⟨Nat.le_of_ble_eq_true rfl, Nat.le_of_ble_eq_true rfl⟩) (rPreV hK hP (ci := 6) (q := (RX6, TX6, 11)) rfl rfl) rfl rfl hl.1 rfl (lv_room (Nat.le_of_ble_eq_true rfl)) dX6_weakOf_16 ⟨(Nat.zero_le _), (Nat.zero_le _)⟩) ?_
        refine lv_iadd hx hb dX6_weakOf_19 ?_
        refine lv_istore_n (lv' := [(2, .int (x2 + q3)), (0, .ref aX), (1, .int x1), (3, .int x3)]) hx hb dX6_weakOf_20 rfl hl (by decide) rfl (fun ls hl => ?_)
        refine lv_iinc (v := (x3 + 1)) (lv' := [(3, .int (x3 + 1)), (2, .int (x2 + q3)), (0, .ref aX), (1, .int x1)]) hx hb dX6_weakOf_21 hl (k := 3) rfl rfl (by decide) rfl (fun ls hl => ?_)
        refine lv_goto (tgt := 4) hx hb dX6_weakOf_24 (by decide) ?_
        exact ih (x2 + q3) (x3 + 1) ls (lv_sub hl [2, 3, 1, 0] rfl) hF
  rw [f6_weakOf] at hF
  show rW p l e wsX6_weakOf rm6_weakOf s m args below meth c (.int r) (F0 m 0 ls [])
  refine lv_iconst hx hb dX6_weakOf_0 kc_iconst_0 ?_
  refine lv_istore_n (lv' := [(2, .int (0 : Int32)), (0, .ref aX), (1, .int x1)]) hx hb dX6_weakOf_1 rfl hl (by decide) rfl (fun ls hl => ?_)
  refine lv_iconst hx hb dX6_weakOf_2 kc_iconst_0 ?_
  refine lv_istore_n (lv' := [(3, .int (0 : Int32)), (2, .int (0 : Int32)), (0, .ref aX), (1, .int x1)]) hx hb dX6_weakOf_3 rfl hl (by decide) rfl (fun ls hl => ?_)
  exact W_4 x1  fu (0 : Int32) (0 : Int32) ls (lv_sub hl [2, 3, 1, 0] rfl) hF
abbrev rm6_finds : Room := { frames := 4, cells := 0, slots := 0, locals := 90 }
theorem hd6_finds : yX6_finds.cls = RX6 ∧ yX6_finds.cls ≠ "java/lang/invoke/MethodHandle" ∧ yX6_finds.cls ≠ "java/lang/invoke/VarHandle" ∧ (parseMethodDescriptor yX6_finds.desc).map (fun d => d.parameters.length) = some 1 := by decide +kernel
set_option maxHeartbeats 4000000 in
set_option maxRecDepth 100000 in
theorem K6_finds (l : Launch) (D : va_G) (cI cZ cS cJ : ClassId) (aX aN aP aJ aI aT aD : Nat) (ms : Int32) (ml : Int32) (mt : Int32) (mq : Int32) (mu : Int32) (mN : Nat → Int32) (mP : Nat → Int32) (mK : Nat → Int32) (mI : Nat → Int32) (mT : Nat → Int32) (mD : Nat → Int32) (x1 : Int32) (r : Int32) (z_mt : Int32) (hF : f6_finds mt mN x1 = some (r, z_mt)) : Met l yX6_finds wsX6_finds rm6_finds (uP D (gT cI cZ cS cJ) (W6 cI aX aN aP aJ aI aT aD ms ml mt mq mu mN mP mK mI mT mD) [.ref aX, .int x1]) (uQ D (some (.int r)) (uA (W6 cI aX aN aP aJ aI aT aD ms ml mt mq mu mN mP mK mI mT mD)) (W6 cI aX aN aP aJ aI aT aD ms ml z_mt mq mu mN mP mK mI mT mD)) 0 0 (uA (W6 cI aX aN aP aJ aI aT aD ms ml mt mq mu mN mP mK mI mT mD)) := by
  refine Met.ofW (cc := cX6_finds) (maxL := 2) (ret := (some .boolean)) (by decide) rfl ?_
  intro p e s m args below meth c s₁ B hml hv
  obtain ⟨ha, hK, hP, hD0⟩ := hv
  have hx := B.exec
  have hb := B.bytes
  have hr := B.returns
  have hlocks := B.notSynchronized
  have hts : ∀ w ∈ lw_all, w.before args s = true := fun w h => atoms_spec (ws := wsX6_finds) B.pre w (List.mem_cons_of_mem _ h)
  have hown : s.vm.findClass RX6 = some m.cls := findClass_of_methodNamed B.named
  have S : CallFix p m c cX6_finds 2 s args lw_all RX6 := ⟨hx, hb, hml, hown, hts⟩
  have hD := hD0.own
  generalize uA (W6 cI aX aN aP aJ aI aT aD ms ml mt mq mu mN mP mK mI mT mD) = A0 at hD ⊢
  have hS : va_S A0 s.heap s.heap [] := va_S.rf
  have hl := lv_entry ([.ref aX, .int x1] : List Value) (n := 2) (Nat.le_of_ble_eq_true rfl)
  refine W.eq (g2 := F0 m 0 ((lg_sl ([.ref aX, .int x1] : List Value) ++ List.replicate (2 - (lg_sl ([.ref aX, .int x1] : List Value)).length) Slot.unset).toArray) []) (by rw [ha]; exact lg_entry_eq _ _ _) ?_
  generalize (lg_sl ([.ref aX, .int x1] : List Value) ++ List.replicate (2 - (lg_sl ([.ref aX, .int x1] : List Value)).length) Slot.unset).toArray = ls at hl ⊢
  have hl : lv_has ls 2 [(0, .ref aX), (1, .int x1)] := hl
  rw [f6_finds] at hF
  show uW p l e wsX6_finds rm6_finds s m args below meth c D (some (.int r)) A0 (W6 cI aX aN aP aJ aI aT aD ms ml z_mt mq mu mN mP mK mI mT mD) s.heap [] (F0 m 0 ls [])
  refine lv_aload_n hx hb dX6_finds_0 rfl (lv_at hl 0 rfl) ?_
  refine lv_iconst hx hb dX6_finds_1 kc_iconst_0 ?_
  refine va_put (D := D) (ci := 6) (v := .int (0 : Int32)) (ty := .int) (C := RX6) (T := TX6) (N := 11) hx hb hts i_X6 tyX6 tyX6_ok nmX6 hown hK.1 hP hD hS 0 rfl rfl 7 (by decide) (hts _ wd_818) (fun _ h9 => h9) rfl (by decide +kernel) rfl rfl (Nat.le_of_ble_eq_true rfl) dX6_finds_2 (fun H locs hP hD hS => ?_)
  have hP : va_P D vwCl (W6 cI aX aN aP aJ aI aT aD ms ml (0 : Int32) mq mu mN mP mK mI mT mD) H := hP
  have hD : va_D A0 (W6 cI aX aN aP aJ aI aT aD ms ml (0 : Int32) mq mu mN mP mK mI mT mD) := hD
  refine lv_iload_n hx hb dX6_finds_5 rfl (lv_at hl 1 rfl) ?_
  refine lv_iconst hx hb dX6_finds_6 kc_iconst_0 ?_
  refine lv_iconst hx hb dX6_finds_7 kc_iconst_2 ?_
  obtain ⟨q2, h1, hF⟩ := bd1_at hF
  refine rcall (va_runS (As := [.int x1, .int (0 : Int32), .int (2 : Int32)]) (rest := []) S (K6_in l D cI cZ cS cJ x1 (0 : Int32) (2 : Int32) q2 h1) (va_cwS 3 hts (gd_S wd_853 wd_854 wd_67 wd_855) rfl rfl rfl hdn6_in ⟨Nat.le_of_ble_eq_true rfl, Nat.le_of_ble_eq_true rfl⟩) (rPreS hK (hP.sub (ws' := ([] : va_W)) [] rfl)) rfl rfl hl.1 rfl (lv_room (Nat.le_of_ble_eq_true rfl)) dX6_finds_8 ⟨(Nat.zero_le _), (Nat.zero_le _)⟩) ?_
  refine lv_if_ne (tgt := 21) hx hb dX6_finds_11 (by decide) (fun c3 => ?_) (fun c3 => ?_)
  · have hF := ite_f c3 hF
    refine lv_iload_n hx hb dX6_finds_21 rfl (lv_at hl 1 rfl) ?_
    refine lv_iconst hx hb dX6_finds_22 kc_iconst_2 ?_
    refine lv_icmp_eq (tgt := 34) hx hb dX6_finds_23 (by decide) (fun c4 => ?_) (fun c4 => ?_)
    · have hF := ite_t c4 hF
      refine lv_iconst hx hb dX6_finds_34 kc_iconst_1 ?_
      refine lv_goto (tgt := 39) hx hb dX6_finds_35 (by decide) ?_
      cases hF
      exact uretz (by decide) hx hb hr hlocks hP hS dX6_finds_39
    · have hF := ite_f c4 hF
      refine lv_aload_n hx hb dX6_finds_26 rfl (lv_at hl 0 rfl) ?_
      refine lv_iload_n hx hb dX6_finds_27 rfl (lv_at hl 1 rfl) ?_
      obtain ⟨q6, h5, hF⟩ := bd1_at hF
      refine rcall (va_runV (As := [.int x1]) (rest := []) S (K6_weakOf l D cI cZ cS cJ aX aN aP aJ aI aT aD ms ml (0 : Int32) mq mu mN mP mK mI mT mD x1 q6 h5) (cwV 1 hts (gd_V wd_1093 wd_1095 wd_57 wd_67 wd_1096) rfl rfl rfl hd6_weakOf ⟨Nat.le_of_ble_eq_true rfl, Nat.le_of_ble_eq_true rfl⟩) (rPreV hK hP (ci := 6) (q := (RX6, TX6, 11)) rfl rfl) rfl rfl hl.1 rfl (lv_room (Nat.le_of_ble_eq_true rfl)) dX6_finds_28 ⟨(Nat.zero_le _), (Nat.zero_le _)⟩) ?_
      refine lv_if_ne (tgt := 38) hx hb dX6_finds_31 (by decide) (fun c7 => ?_) (fun c7 => ?_)
      · rw [if_neg c7] at hF
        refine lv_iconst hx hb dX6_finds_38 kc_iconst_0 ?_
        cases hF
        exact uretz (by decide) hx hb hr hlocks hP hS dX6_finds_39
      · rw [if_pos c7] at hF
        refine lv_iconst hx hb dX6_finds_34 kc_iconst_1 ?_
        refine lv_goto (tgt := 39) hx hb dX6_finds_35 (by decide) ?_
        cases hF
        exact uretz (by decide) hx hb hr hlocks hP hS dX6_finds_39
  · have hF := ite_t c3 hF
    refine lv_aload_n hx hb dX6_finds_14 rfl (lv_at hl 0 rfl) ?_
    refine lv_iconst hx hb dX6_finds_15 kc_iconst_1 ?_
    refine va_put (D := D) (ci := 6) (v := .int (1 : Int32)) (ty := .int) (C := RX6) (T := TX6) (N := 11) hx hb hts i_X6 tyX6 tyX6_ok nmX6 hown hK.1 hP hD hS 0 rfl rfl 7 (by decide) (hts _ wd_818) (fun _ h9 => h9) rfl (by decide +kernel) rfl rfl (Nat.le_of_ble_eq_true rfl) dX6_finds_16 (fun H locs hP hD hS => ?_)
    have hP : va_P D vwCl (W6 cI aX aN aP aJ aI aT aD ms ml (1 : Int32) mq mu mN mP mK mI mT mD) H := hP
    have hD : va_D A0 (W6 cI aX aN aP aJ aI aT aD ms ml (1 : Int32) mq mu mN mP mK mI mT mD) := hD
    refine lv_iconst hx hb dX6_finds_19 kc_iconst_0 ?_
    cases hF
    exact uretz (by decide) hx hb hr hlocks hP hS dX6_finds_20
abbrev rm6_bestWeight : Room := { frames := 4, cells := 0, slots := 0, locals := 90 }
theorem hd6_bestWeight : yX6_bestWeight.cls = RX6 ∧ yX6_bestWeight.cls ≠ "java/lang/invoke/MethodHandle" ∧ yX6_bestWeight.cls ≠ "java/lang/invoke/VarHandle" ∧ (parseMethodDescriptor yX6_bestWeight.desc).map (fun d => d.parameters.length) = some 1 := by decide +kernel
set_option maxHeartbeats 4000000 in
set_option maxRecDepth 100000 in
theorem K6_bestWeight (l : Launch) (D : va_G) (cI cZ cS cJ : ClassId) (aX aN aP aJ aI aT aD : Nat) (ms : Int32) (ml : Int32) (mt : Int32) (mq : Int32) (mu : Int32) (mN : Nat → Int32) (mP : Nat → Int32) (mK : Nat → Int32) (mI : Nat → Int32) (mT : Nat → Int32) (mD : Nat → Int32) (x1 : Int32) (r : Int32) (z_mt : Int32) (z_mN : Nat → Int32) (hF : f6_bestWeight mt mN x1 = some (r, z_mt, z_mN)) : Met l yX6_bestWeight wsX6_bestWeight rm6_bestWeight (uP D (gT cI cZ cS cJ) (W6 cI aX aN aP aJ aI aT aD ms ml mt mq mu mN mP mK mI mT mD) [.ref aX, .int x1]) (uQ D (some (.int r)) (uA (W6 cI aX aN aP aJ aI aT aD ms ml mt mq mu mN mP mK mI mT mD)) (W6 cI aX aN aP aJ aI aT aD ms ml z_mt mq mu z_mN mP mK mI mT mD)) 0 0 (uA (W6 cI aX aN aP aJ aI aT aD ms ml mt mq mu mN mP mK mI mT mD)) := by
  refine Met.ofW (cc := cX6_bestWeight) (maxL := 8) (ret := (some .int)) (by decide) rfl ?_
  intro p e s m args below meth c s₁ B hml hv
  obtain ⟨ha, hK, hP, hD0⟩ := hv
  have hx := B.exec
  have hb := B.bytes
  have hr := B.returns
  have hlocks := B.notSynchronized
  have hts : ∀ w ∈ lw_all, w.before args s = true := fun w h => atoms_spec (ws := wsX6_bestWeight) B.pre w (List.mem_cons_of_mem _ h)
  have hown : s.vm.findClass RX6 = some m.cls := findClass_of_methodNamed B.named
  have S : CallFix p m c cX6_bestWeight 8 s args lw_all RX6 := ⟨hx, hb, hml, hown, hts⟩
  have hD := hD0.own
  generalize uA (W6 cI aX aN aP aJ aI aT aD ms ml mt mq mu mN mP mK mI mT mD) = A0 at hD ⊢
  have hS : va_S A0 s.heap s.heap [] := va_S.rf
  have hl := lv_entry ([.ref aX, .int x1] : List Value) (n := 8) (Nat.le_of_ble_eq_true rfl)
  refine W.eq (g2 := F0 m 0 ((lg_sl ([.ref aX, .int x1] : List Value) ++ List.replicate (8 - (lg_sl ([.ref aX, .int x1] : List Value)).length) Slot.unset).toArray) []) (by rw [ha]; exact lg_entry_eq _ _ _) ?_
  generalize (lg_sl ([.ref aX, .int x1] : List Value) ++ List.replicate (8 - (lg_sl ([.ref aX, .int x1] : List Value)).length) Slot.unset).toArray = ls at hl ⊢
  have hl : lv_has ls 8 [(0, .ref aX), (1, .int x1)] := hl
  clear ha
  have W_96 : ∀ (mt : Int32) (mN : Nat → Int32) (x1 : Int32) (x2 : Int32) (x4 : Int32) (x5 : Int32) (x6 : Int32) (x7 : Int32) (s0 : Int32) (k37 : Int32 → Int32 → Int32 → Int32 → (Nat → Int32) → Option (Int32 × Int32 × (Nat → Int32))) (hk37 : ∀ (x3 : Int32) (x4 : Int32) (x5 : Int32) (mt : Int32) (mN : Nat → Int32), ∀ (H : Heap) (locs : List Loc), va_P D vwCl (W6 cI aX aN aP aJ aI aT aD ms ml mt mq mu mN mP mK mI mT mD) H → va_D A0 (W6 cI aX aN aP aJ aI aT aD ms ml mt mq mu mN mP mK mI mT mD) → va_S A0 s.heap H locs → ∀ (ls : Array Slot), lv_has ls 8 [(0, .ref aX), (1, .int x1), (2, .int x2), (3, .int x3), (4, .int x4), (5, .int x5)] → k37 x3 x4 x5 mt mN = some (r, z_mt, z_mN) → uW p l e wsX6_bestWeight rm6_bestWeight s m args below meth c D (some (.int r)) A0 (W6 cI aX aN aP aJ aI aT aD ms ml z_mt mq mu z_mN mP mK mI mT mD) H locs (F0 m 37 ls [])), ∀ (H : Heap) (locs : List Loc), va_P D vwCl (W6 cI aX aN aP aJ aI aT aD ms ml mt mq mu mN mP mK mI mT mD) H → va_D A0 (W6 cI aX aN aP aJ aI aT aD ms ml mt mq mu mN mP mK mI mT mD) → va_S A0 s.heap H locs → ∀ (ls : Array Slot), lv_has ls 8 [(0, .ref aX), (1, .int x1), (2, .int x2), (4, .int x4), (5, .int x5), (6, .int x6), (7, .int x7)] → f6_bestWeight_j96 k37 mt mN x1 x2 x4 x5 x6 x7 s0 = some (r, z_mt, z_mN) → uW p l e wsX6_bestWeight rm6_bestWeight s m args below meth c D (some (.int r)) A0 (W6 cI aX aN aP aJ aI aT aD ms ml z_mt mq mu z_mN mP mK mI mT mD) H locs (F0 m 96 ls [.int s0]) := by
    intro mt mN x1 x2 x4 x5 x6 x7 s0 k37 hk37 H locs hP hD hS ls hl hF
    rw [f6_bestWeight_j96] at hF
    refine lv_istore_n (lv' := [(3, .int s0), (0, .ref aX), (1, .int x1), (2, .int x2), (4, .int x4), (5, .int x5), (6, .int x6), (7, .int x7)]) hx hb dX6_bestWeight_96 rfl hl (by decide) rfl (fun ls hl => ?_)
    refine lv_iload hx hb dX6_bestWeight_97 (lv_at hl 7 rfl) ?_
    refine lv_if_eq (tgt := 107) hx hb dX6_bestWeight_99 (by decide) (fun c18 => ?_) (fun c18 => ?_)
    · rw [if_pos c18] at hF
      refine lv_iload hx hb dX6_bestWeight_107 (lv_at hl 4 rfl) ?_
      refine lv_istore (lv' := [(4, .int x4), (3, .int s0), (0, .ref aX), (1, .int x1), (2, .int x2), (5, .int x5), (6, .int x6), (7, .int x7)]) hx hb dX6_bestWeight_109 hl (by decide) rfl (fun ls hl => ?_)
      refine lv_iinc (v := (x5 + 1)) (lv' := [(5, .int (x5 + 1)), (4, .int x4), (3, .int s0), (0, .ref aX), (1, .int x1), (2, .int x2), (6, .int x6), (7, .int x7)]) hx hb dX6_bestWeight_111 hl (k := 5) rfl rfl (by decide) rfl (fun ls hl => ?_)
      refine lv_goto (tgt := 37) hx hb dX6_bestWeight_114 (by decide) ?_
      exact hk37 s0 x4 (x5 + 1) mt mN _ _ hP hD hS ls (lv_sub hl [3, 4, 5, 2, 1, 0] rfl) hF
    · rw [if_neg c18] at hF
      refine lv_iload hx hb dX6_bestWeight_102 (lv_at hl 6 rfl) ?_
      refine lv_goto (tgt := 109) hx hb dX6_bestWeight_104 (by decide) ?_
      refine lv_istore (lv' := [(4, .int x6), (3, .int s0), (0, .ref aX), (1, .int x1), (2, .int x2), (5, .int x5), (6, .int x6), (7, .int x7)]) hx hb dX6_bestWeight_109 hl (by decide) rfl (fun ls hl => ?_)
      refine lv_iinc (v := (x5 + 1)) (lv' := [(5, .int (x5 + 1)), (4, .int x6), (3, .int s0), (0, .ref aX), (1, .int x1), (2, .int x2), (6, .int x6), (7, .int x7)]) hx hb dX6_bestWeight_111 hl (k := 5) rfl rfl (by decide) rfl (fun ls hl => ?_)
      refine lv_goto (tgt := 37) hx hb dX6_bestWeight_114 (by decide) ?_
      exact hk37 s0 x6 (x5 + 1) mt mN _ _ hP hD hS ls (lv_sub hl [3, 4, 5, 2, 1, 0] rfl) hF
  have W_83 : ∀ (mt : Int32) (mN : Nat → Int32) (x1 : Int32) (x2 : Int32) (x3 : Int32) (x4 : Int32) (x5 : Int32) (x6 : Int32) (s0 : Int32) (k37 : Int32 → Int32 → Int32 → Int32 → (Nat → Int32) → Option (Int32 × Int32 × (Nat → Int32))) (hk37 : ∀ (x3 : Int32) (x4 : Int32) (x5 : Int32) (mt : Int32) (mN : Nat → Int32), ∀ (H : Heap) (locs : List Loc), va_P D vwCl (W6 cI aX aN aP aJ aI aT aD ms ml mt mq mu mN mP mK mI mT mD) H → va_D A0 (W6 cI aX aN aP aJ aI aT aD ms ml mt mq mu mN mP mK mI mT mD) → va_S A0 s.heap H locs → ∀ (ls : Array Slot), lv_has ls 8 [(0, .ref aX), (1, .int x1), (2, .int x2), (3, .int x3), (4, .int x4), (5, .int x5)] → k37 x3 x4 x5 mt mN = some (r, z_mt, z_mN) → uW p l e wsX6_bestWeight rm6_bestWeight s m args below meth c D (some (.int r)) A0 (W6 cI aX aN aP aJ aI aT aD ms ml z_mt mq mu z_mN mP mK mI mT mD) H locs (F0 m 37 ls [])), ∀ (H : Heap) (locs : List Loc), va_P D vwCl (W6 cI aX aN aP aJ aI aT aD ms ml mt mq mu mN mP mK mI mT mD) H → va_D A0 (W6 cI aX aN aP aJ aI aT aD ms ml mt mq mu mN mP mK mI mT mD) → va_S A0 s.heap H locs → ∀ (ls : Array Slot), lv_has ls 8 [(0, .ref aX), (1, .int x1), (2, .int x2), (3, .int x3), (4, .int x4), (5, .int x5), (6, .int x6)] → f6_bestWeight_j83 k37 mt mN x1 x2 x3 x4 x5 x6 s0 = some (r, z_mt, z_mN) → uW p l e wsX6_bestWeight rm6_bestWeight s m args below meth c D (some (.int r)) A0 (W6 cI aX aN aP aJ aI aT aD ms ml z_mt mq mu z_mN mP mK mI mT mD) H locs (F0 m 83 ls [.int s0]) := by
    intro mt mN x1 x2 x3 x4 x5 x6 s0 k37 hk37 H locs hP hD hS ls hl hF
    rw [f6_bestWeight_j83] at hF
    refine lv_istore (lv' := [(7, .int s0), (0, .ref aX), (1, .int x1), (2, .int x2), (3, .int x3), (4, .int x4), (5, .int x5), (6, .int x6)]) hx hb dX6_bestWeight_83 hl (by decide) rfl (fun ls hl => ?_)
    refine lv_iload hx hb dX6_bestWeight_85 (lv_at hl 0 rfl) ?_
    refine lv_if_eq (tgt := 95) hx hb dX6_bestWeight_87 (by decide) (fun c17 => ?_) (fun c17 => ?_)
    · rw [if_pos c17] at hF
      refine lv_iload_n hx hb dX6_bestWeight_95 rfl (lv_at hl 4 rfl) ?_
      exact W_96 mt mN x1 x2 x4 x5 x6 s0 x3 k37 hk37 _ _ hP hD hS ls (lv_sub hl [1, 2, 3, 5, 6, 7, 0] rfl) hF
    · rw [if_neg c17] at hF
      refine lv_iload hx hb dX6_bestWeight_90 (lv_at hl 6 rfl) ?_
      refine lv_goto (tgt := 96) hx hb dX6_bestWeight_92 (by decide) ?_
      exact W_96 mt mN x1 x2 x4 x5 x6 s0 x5 k37 hk37 _ _ hP hD hS ls (lv_sub hl [1, 2, 3, 5, 6, 7, 0] rfl) hF
  have W_78 : ∀ (mt : Int32) (mN : Nat → Int32) (x1 : Int32) (x2 : Int32) (x3 : Int32) (x4 : Int32) (x5 : Int32) (x6 : Int32) (k37 : Int32 → Int32 → Int32 → Int32 → (Nat → Int32) → Option (Int32 × Int32 × (Nat → Int32))) (hk37 : ∀ (x3 : Int32) (x4 : Int32) (x5 : Int32) (mt : Int32) (mN : Nat → Int32), ∀ (H : Heap) (locs : List Loc), va_P D vwCl (W6 cI aX aN aP aJ aI aT aD ms ml mt mq mu mN mP mK mI mT mD) H → va_D A0 (W6 cI aX aN aP aJ aI aT aD ms ml mt mq mu mN mP mK mI mT mD) → va_S A0 s.heap H locs → ∀ (ls : Array Slot), lv_has ls 8 [(0, .ref aX), (1, .int x1), (2, .int x2), (3, .int x3), (4, .int x4), (5, .int x5)] → k37 x3 x4 x5 mt mN = some (r, z_mt, z_mN) → uW p l e wsX6_bestWeight rm6_bestWeight s m args below meth c D (some (.int r)) A0 (W6 cI aX aN aP aJ aI aT aD ms ml z_mt mq mu z_mN mP mK mI mT mD) H locs (F0 m 37 ls [])), ∀ (H : Heap) (locs : List Loc), va_P D vwCl (W6 cI aX aN aP aJ aI aT aD ms ml mt mq mu mN mP mK mI mT mD) H → va_D A0 (W6 cI aX aN aP aJ aI aT aD ms ml mt mq mu mN mP mK mI mT mD) → va_S A0 s.heap H locs → ∀ (ls : Array Slot), lv_has ls 8 [(0, .ref aX), (1, .int x1), (2, .int x2), (3, .int x3), (4, .int x4), (5, .int x5), (6, .int x6)] → f6_bestWeight_j78 k37 mt mN x1 x2 x3 x4 x5 x6 = some (r, z_mt, z_mN) → uW p l e wsX6_bestWeight rm6_bestWeight s m args below meth c D (some (.int r)) A0 (W6 cI aX aN aP aJ aI aT aD ms ml z_mt mq mu z_mN mP mK mI mT mD) H locs (F0 m 78 ls []) := by
    intro mt mN x1 x2 x3 x4 x5 x6 k37 hk37 H locs hP hD hS ls hl hF
    rw [f6_bestWeight_j78] at hF
    refine lv_iconst hx hb dX6_bestWeight_78 kc_iconst_1 ?_
    refine lv_goto (tgt := 83) hx hb dX6_bestWeight_79 (by decide) ?_
    exact W_83 mt mN x1 x2 x3 x4 x5 x6 (1 : Int32) k37 hk37 _ _ hP hD hS ls (lv_sub hl [0, 1, 2, 3, 4, 5, 6] rfl) hF
  have W_37 : ∀ (x1 : Int32) (x2 : Int32) (n : Nat) (x3 : Int32) (x4 : Int32) (x5 : Int32) (mt : Int32) (mN : Nat → Int32), ∀ (H : Heap) (locs : List Loc), va_P D vwCl (W6 cI aX aN aP aJ aI aT aD ms ml mt mq mu mN mP mK mI mT mD) H → va_D A0 (W6 cI aX aN aP aJ aI aT aD ms ml mt mq mu mN mP mK mI mT mD) → va_S A0 s.heap H locs → ∀ (ls : Array Slot), lv_has ls 8 [(0, .ref aX), (1, .int x1), (2, .int x2), (3, .int x3), (4, .int x4), (5, .int x5)] → f6_bestWeight_l37 x1 x2 n x3 x4 x5 mt mN = some (r, z_mt, z_mN) → uW p l e wsX6_bestWeight rm6_bestWeight s m args below meth c D (some (.int r)) A0 (W6 cI aX aN aP aJ aI aT aD ms ml z_mt mq mu z_mN mP mK mI mT mD) H locs (F0 m 37 ls []) := by
    intro x1 x2  n
    induction n with
    | zero =>
      intro x3 x4 x5 mt mN H locs hP hD hS ls hl hF
      rw [f6_bestWeight_l37] at hF
      cases hF
    | succ n ih =>
      intro x3 x4 x5 mt mN H locs hP hD hS ls hl hF
      rw [f6_bestWeight_l37] at hF
      refine lv_iload hx hb dX6_bestWeight_37 (lv_at hl 5 rfl) ?_
      refine lv_bipush hx hb dX6_bestWeight_39 kc_bipush_10 ?_
      refine lv_icmp_ge (tgt := 117) hx hb dX6_bestWeight_41 (by decide) (fun c8 => ?_) (fun c8 => ?_)
      · have hF := ite_t c8 hF
        refine lv_aload_n hx hb dX6_bestWeight_117 rfl (lv_at hl 0 rfl) ?_
        refine va_get (D := D) (ci := 6) (v := .ref aN) (C := RX6) (T := TX6) (N := 11) hx hb hts i_X6 hown hK.1 hP 0 rfl rfl 0 (by decide) (hts _ wd_811) (fun _ h9 => h9) rfl dX6_bestWeight_118 ?_
        refine lv_iconst hx hb dX6_bestWeight_121 kc_iconst_3 ?_
        refine lv_iload_n hx hb dX6_bestWeight_122 rfl (lv_at hl 1 rfl) ?_
        refine lv_iadd hx hb dX6_bestWeight_123 ?_
        refine lv_iload_n hx hb dX6_bestWeight_124 rfl (lv_at hl 2 rfl) ?_
        obtain ⟨g9, hF⟩ := gd_at hF
        refine va_iast hx hb hK.1 hP hD hS 1 0 rfl rfl g9 dX6_bestWeight_125 (fun H locs hP hD hS => ?_)
        have hP : va_P D vwCl (W6 cI aX aN aP aJ aI aT aD ms ml mt mq mu (upd mN ((3 : Int32) + x1).toNatClampNeg x2) mP mK mI mT mD) H := hP
        have hD : va_D A0 (W6 cI aX aN aP aJ aI aT aD ms ml mt mq mu (upd mN ((3 : Int32) + x1).toNatClampNeg x2) mP mK mI mT mD) := hD
        refine lv_iload_n hx hb dX6_bestWeight_126 rfl (lv_at hl 3 rfl) ?_
        cases hF
        exact ureti hx hb hr hlocks hP hS dX6_bestWeight_127
      · have hF := ite_f c8 hF
        refine lv_aload_n hx hb dX6_bestWeight_44 rfl (lv_at hl 0 rfl) ?_
        refine va_get (D := D) (ci := 6) (v := .ref aN) (C := RX6) (T := TX6) (N := 11) hx hb hts i_X6 hown hK.1 hP 0 rfl rfl 0 (by decide) (hts _ wd_811) (fun _ h9 => h9) rfl dX6_bestWeight_45 ?_
        refine lv_iconst hx hb dX6_bestWeight_48 kc_iconst_3 ?_
        refine lv_iload_n hx hb dX6_bestWeight_49 rfl (lv_at hl 1 rfl) ?_
        refine lv_iadd hx hb dX6_bestWeight_50 ?_
        refine lv_iload hx hb dX6_bestWeight_51 (lv_at hl 5 rfl) ?_
        obtain ⟨g10, hF⟩ := gd_at hF
        refine va_iast hx hb hK.1 hP hD hS 1 0 rfl rfl g10 dX6_bestWeight_53 (fun H locs hP hD hS => ?_)
        have hP : va_P D vwCl (W6 cI aX aN aP aJ aI aT aD ms ml mt mq mu (upd mN ((3 : Int32) + x1).toNatClampNeg x5) mP mK mI mT mD) H := hP
        have hD : va_D A0 (W6 cI aX aN aP aJ aI aT aD ms ml mt mq mu (upd mN ((3 : Int32) + x1).toNatClampNeg x5) mP mK mI mT mD) := hD
        refine lv_aload_n hx hb dX6_bestWeight_54 rfl (lv_at hl 0 rfl) ?_
        refine lv_iconst hx hb dX6_bestWeight_55 kc_iconst_0 ?_
        obtain ⟨q12, h11, hF⟩ := bd1_at hF
        refine rcall (va_runV (As := [.int (0 : Int32)]) (rest := []) S (K6_weakOf l D cI cZ cS cJ aX aN aP aJ aI aT aD ms ml mt mq mu (upd mN ((3 : Int32) + x1).toNatClampNeg x5) mP mK mI mT mD (0 : Int32) q12 h11) (cwV 1 hts (gd_V wd_1093 wd_1095 wd_57 wd_67 wd_1096) rfl rfl rfl hd6_weakOf ⟨Nat.le_of_ble_eq_true rfl, Nat.le_of_ble_eq_true rfl⟩) (rPreV hK hP (ci := 6) (q := (RX6, TX6, 11)) rfl rfl) rfl rfl hl.1 rfl (lv_room (Nat.le_of_ble_eq_true rfl)) dX6_bestWeight_56 ⟨(Nat.zero_le _), (Nat.zero_le _)⟩) ?_
        refine lv_aload_n hx hb dX6_bestWeight_59 rfl (lv_at hl 0 rfl) ?_
        refine lv_iconst hx hb dX6_bestWeight_60 kc_iconst_1 ?_
        obtain ⟨q14, h13, hF⟩ := bd1_at hF
        refine rcall (va_runV (As := [.int (1 : Int32)]) (rest := [.int q12]) S (K6_weakOf l D cI cZ cS cJ aX aN aP aJ aI aT aD ms ml mt mq mu (upd mN ((3 : Int32) + x1).toNatClampNeg x5) mP mK mI mT mD (1 : Int32) q14 h13) (cwV 1 hts (gd_V wd_1093 wd_1095 wd_57 wd_67 wd_1096) rfl rfl rfl hd6_weakOf ⟨Nat.le_of_ble_eq_true rfl, Nat.le_of_ble_eq_true rfl⟩) (rPreV hK hP (ci := 6) (q := (RX6, TX6, 11)) rfl rfl) rfl rfl hl.1 rfl (lv_room (Nat.le_of_ble_eq_true rfl)) dX6_bestWeight_61 ⟨(Nat.zero_le _), (Nat.zero_le _)⟩) ?_
        refine lv_iadd hx hb dX6_bestWeight_64 ?_
        refine lv_istore (lv' := [(6, .int (q12 + q14)), (0, .ref aX), (1, .int x1), (2, .int x2), (3, .int x3), (4, .int x4), (5, .int x5)]) hx hb dX6_bestWeight_65 hl (by decide) rfl (fun ls hl => ?_)
        refine lv_iload_n hx hb dX6_bestWeight_67 rfl (lv_at hl 4 rfl) ?_
        refine lv_if_eq (tgt := 78) hx hb dX6_bestWeight_68 (by decide) (fun c15 => ?_) (fun c15 => ?_)
        · have hF := ite_t c15 hF
          exact W_78 mt (upd mN ((3 : Int32) + x1).toNatClampNeg x5) x1 x2 x3 x4 x5 (q12 + q14) (f6_bestWeight_l37 x1 x2 n) ih _ _ hP hD hS ls (lv_sub hl [1, 2, 3, 4, 5, 6, 0] rfl) hF
        · have hF := ite_f c15 hF
          refine lv_iload hx hb dX6_bestWeight_71 (lv_at hl 0 rfl) ?_
          refine lv_iload hx hb dX6_bestWeight_73 (lv_at hl 5 rfl) ?_
          refine lv_icmp_ge (tgt := 82) hx hb dX6_bestWeight_75 (by decide) (fun c16 => ?_) (fun c16 => ?_)
          · have hF := ite_t c16 hF
            refine lv_iconst hx hb dX6_bestWeight_82 kc_iconst_0 ?_
            exact W_83 mt (upd mN ((3 : Int32) + x1).toNatClampNeg x5) x1 x2 x3 x4 x5 (q12 + q14) (0 : Int32) (f6_bestWeight_l37 x1 x2 n) ih _ _ hP hD hS ls (lv_sub hl [1, 2, 3, 4, 5, 6, 0] rfl) hF
          · have hF := ite_f c16 hF
            exact W_78 mt (upd mN ((3 : Int32) + x1).toNatClampNeg x5) x1 x2 x3 x4 x5 (q12 + q14) (f6_bestWeight_l37 x1 x2 n) ih _ _ hP hD hS ls (lv_sub hl [1, 2, 3, 4, 5, 6, 0] rfl) hF
  rw [f6_bestWeight] at hF
  show uW p l e wsX6_bestWeight rm6_bestWeight s m args below meth c D (some (.int r)) A0 (W6 cI aX aN aP aJ aI aT aD ms ml z_mt mq mu z_mN mP mK mI mT mD) s.heap [] (F0 m 0 ls [])
  refine lv_aload_n hx hb dX6_bestWeight_0 rfl (lv_at hl 0 rfl) ?_
  refine lv_iconst hx hb dX6_bestWeight_1 kc_iconst_0 ?_
  refine va_put (D := D) (ci := 6) (v := .int (0 : Int32)) (ty := .int) (C := RX6) (T := TX6) (N := 11) hx hb hts i_X6 tyX6 tyX6_ok nmX6 hown hK.1 hP hD hS 0 rfl rfl 7 (by decide) (hts _ wd_818) (fun _ h9 => h9) rfl (by decide +kernel) rfl rfl (Nat.le_of_ble_eq_true rfl) dX6_bestWeight_2 (fun H locs hP hD hS => ?_)
  have hP : va_P D vwCl (W6 cI aX aN aP aJ aI aT aD ms ml (0 : Int32) mq mu mN mP mK mI mT mD) H := hP
  have hD : va_D A0 (W6 cI aX aN aP aJ aI aT aD ms ml (0 : Int32) mq mu mN mP mK mI mT mD) := hD
  refine lv_iload_n hx hb dX6_bestWeight_5 rfl (lv_at hl 1 rfl) ?_
  refine lv_iconst hx hb dX6_bestWeight_6 kc_iconst_0 ?_
  refine lv_iconst hx hb dX6_bestWeight_7 kc_iconst_5 ?_
  obtain ⟨q2, h1, hF⟩ := bd1_at hF
  refine rcall (va_runS (As := [.int x1, .int (0 : Int32), .int (5 : Int32)]) (rest := []) S (K6_in l D cI cZ cS cJ x1 (0 : Int32) (5 : Int32) q2 h1) (va_cwS 3 hts (gd_S wd_853 wd_854 wd_67 wd_855) rfl rfl rfl hdn6_in ⟨Nat.le_of_ble_eq_true rfl, Nat.le_of_ble_eq_true rfl⟩) (rPreS hK (hP.sub (ws' := ([] : va_W)) [] rfl)) rfl rfl hl.1 rfl (lv_room (Nat.le_of_ble_eq_true rfl)) dX6_bestWeight_8 ⟨(Nat.zero_le _), (Nat.zero_le _)⟩) ?_
  refine lv_if_ne (tgt := 20) hx hb dX6_bestWeight_11 (by decide) (fun c3 => ?_) (fun c3 => ?_)
  · have hF := ite_f c3 hF
    refine lv_aload_n hx hb dX6_bestWeight_20 rfl (lv_at hl 0 rfl) ?_
    refine va_get (D := D) (ci := 6) (v := .ref aN) (C := RX6) (T := TX6) (N := 11) hx hb hts i_X6 hown hK.1 hP 0 rfl rfl 0 (by decide) (hts _ wd_811) (fun _ h9 => h9) rfl dX6_bestWeight_21 ?_
    refine lv_iconst hx hb dX6_bestWeight_24 kc_iconst_3 ?_
    refine lv_iload_n hx hb dX6_bestWeight_25 rfl (lv_at hl 1 rfl) ?_
    refine lv_iadd hx hb dX6_bestWeight_26 ?_
    obtain ⟨g4, hF⟩ := gd_at hF
    refine va_iald hx hb hK.1 hP 1 0 rfl rfl g4 dX6_bestWeight_27 ?_
    refine lv_istore_n (lv' := [(2, .int (mN ((3 : Int32) + x1).toNatClampNeg)), (0, .ref aX), (1, .int x1)]) hx hb dX6_bestWeight_28 rfl hl (by decide) rfl (fun ls hl => ?_)
    refine lv_iconst hx hb dX6_bestWeight_29 kc_iconst_0 ?_
    refine lv_istore_n (lv' := [(3, .int (0 : Int32)), (2, .int (mN ((3 : Int32) + x1).toNatClampNeg)), (0, .ref aX), (1, .int x1)]) hx hb dX6_bestWeight_30 rfl hl (by decide) rfl (fun ls hl => ?_)
    refine lv_iconst hx hb dX6_bestWeight_31 kc_iconst_0 ?_
    refine lv_istore (lv' := [(4, .int (0 : Int32)), (3, .int (0 : Int32)), (2, .int (mN ((3 : Int32) + x1).toNatClampNeg)), (0, .ref aX), (1, .int x1)]) hx hb dX6_bestWeight_32 hl (by decide) rfl (fun ls hl => ?_)
    refine lv_iconst hx hb dX6_bestWeight_34 kc_iconst_1 ?_
    refine lv_istore (lv' := [(5, .int (1 : Int32)), (4, .int (0 : Int32)), (3, .int (0 : Int32)), (2, .int (mN ((3 : Int32) + x1).toNatClampNeg)), (0, .ref aX), (1, .int x1)]) hx hb dX6_bestWeight_35 hl (by decide) rfl (fun ls hl => ?_)
    exact W_37 x1 (mN ((3 : Int32) + x1).toNatClampNeg)  fu (0 : Int32) (0 : Int32) (1 : Int32) (0 : Int32) mN _ _ hP hD hS ls (lv_sub hl [4, 5, 3, 2, 1, 0] rfl) hF
  · have hF := ite_t c3 hF
    refine lv_aload_n hx hb dX6_bestWeight_14 rfl (lv_at hl 0 rfl) ?_
    refine lv_iconst hx hb dX6_bestWeight_15 kc_iconst_1 ?_
    obtain ⟨q6, u7, h5, hF⟩ := bd2_at hF
    refine ucalli (ws' := (W6 cI aX aN aP aJ aI aT aD ms ml u7 mq mu mN mP mK mI mT mD)) (va_runV (As := [.int (1 : Int32)]) (rest := []) S (K6_refuses l D cI cZ cS cJ aX aN aP aJ aI aT aD ms ml (0 : Int32) mq mu mN mP mK mI mT mD (1 : Int32) q6 u7 h5) (cwV 1 hts (gd_V wd_856 wd_858 wd_21 wd_67 wd_859) rfl rfl rfl hd6_refuses ⟨Nat.le_of_ble_eq_true rfl, Nat.le_of_ble_eq_true rfl⟩) (uPreV hK hP hD (ci := 6) (q := (RX6, TX6, 11)) rfl rfl) rfl rfl hl.1 rfl (lv_room (Nat.le_of_ble_eq_true rfl)) dX6_bestWeight_16 ⟨(Nat.zero_le _), (Nat.zero_le _)⟩) hS hP hD [0, 1, 2, 3, 4, 5, 6] rfl rfl rfl rfl (fun H locs hP hD hS => ?_)
    cases hF
    exact ureti hx hb hr hlocks hP hS dX6_bestWeight_19
abbrev rm6_slipOf : Room := { frames := 2, cells := 0, slots := 0, locals := 48 }
theorem hd6_slipOf : yX6_slipOf.cls = RX6 ∧ yX6_slipOf.cls ≠ "java/lang/invoke/MethodHandle" ∧ yX6_slipOf.cls ≠ "java/lang/invoke/VarHandle" ∧ (parseMethodDescriptor yX6_slipOf.desc).map (fun d => d.parameters.length) = some 3 := by decide +kernel
set_option maxHeartbeats 4000000 in
set_option maxRecDepth 100000 in
theorem K6_slipOf (l : Launch) (D : va_G) (cI cZ cS cJ : ClassId) (aX aN aP aJ aI aT aD : Nat) (ms : Int32) (ml : Int32) (mt : Int32) (mq : Int32) (mu : Int32) (mN : Nat → Int32) (mP : Nat → Int32) (mK : Nat → Int32) (mI : Nat → Int32) (mT : Nat → Int32) (mD : Nat → Int32) (x1 : Int32) (x2 : Int32) (x3 : Int32) (r : Int32) (hF : f6_slipOf mN x1 x2 x3 = some (r)) : Met l yX6_slipOf wsX6_slipOf rm6_slipOf (rP D (gT cI cZ cS cJ) (W6 cI aX aN aP aJ aI aT aD ms ml mt mq mu mN mP mK mI mT mD) [.ref aX, .int x1, .int x2, .int x3]) (rQ (.int r)) 0 0 (fun _ => False) := by
  refine Met.ofW (cc := cX6_slipOf) (maxL := 5) (ret := (some .int)) (by decide) rfl ?_
  intro p e s m args below meth c s₁ B hml hv
  obtain ⟨ha, hK, hP⟩ := hv
  have hx := B.exec
  have hb := B.bytes
  have hr := B.returns
  have hlocks := B.notSynchronized
  have hts : ∀ w ∈ lw_all, w.before args s = true := fun w h => atoms_spec (ws := wsX6_slipOf) B.pre w (List.mem_cons_of_mem _ h)
  have hown : s.vm.findClass RX6 = some m.cls := findClass_of_methodNamed B.named
  have S : CallFix p m c cX6_slipOf 5 s args lw_all RX6 := ⟨hx, hb, hml, hown, hts⟩
  have hl := lv_entry ([.ref aX, .int x1, .int x2, .int x3] : List Value) (n := 5) (Nat.le_of_ble_eq_true rfl)
  refine W.eq (g2 := F0 m 0 ((lg_sl ([.ref aX, .int x1, .int x2, .int x3] : List Value) ++ List.replicate (5 - (lg_sl ([.ref aX, .int x1, .int x2, .int x3] : List Value)).length) Slot.unset).toArray) []) (by rw [ha]; exact lg_entry_eq _ _ _) ?_
  generalize (lg_sl ([.ref aX, .int x1, .int x2, .int x3] : List Value) ++ List.replicate (5 - (lg_sl ([.ref aX, .int x1, .int x2, .int x3] : List Value)).length) Slot.unset).toArray = ls at hl ⊢
  have hl : lv_has ls 5 [(0, .ref aX), (1, .int x1), (2, .int x2), (3, .int x3)] := hl
  rw [f6_slipOf] at hF
  show rW p l e wsX6_slipOf rm6_slipOf s m args below meth c (.int r) (F0 m 0 ls [])
  refine lv_iload_n hx hb dX6_slipOf_0 rfl (lv_at hl 1 rfl) ?_
  refine lv_iload_n hx hb dX6_slipOf_1 rfl (lv_at hl 2 rfl) ?_
  obtain ⟨q2, h1, hF⟩ := bd1_at hF
  refine rcall (va_runS (As := [.int x1, .int x2]) (rest := []) S (K6_way l D cI cZ cS cJ x1 x2 q2 h1) (va_cwS 2 hts (gd_S wd_1113 wd_1114 wd_67 wd_1115) rfl rfl rfl hdn6_way ⟨Nat.le_of_ble_eq_true rfl, Nat.le_of_ble_eq_true rfl⟩) (rPreS hK (hP.sub (ws' := ([] : va_W)) [] rfl)) rfl rfl hl.1 rfl (lv_room (Nat.le_of_ble_eq_true rfl)) dX6_slipOf_2 ⟨(Nat.zero_le _), (Nat.zero_le _)⟩) ?_
  refine lv_istore (lv' := [(4, .int q2), (0, .ref aX), (1, .int x1), (2, .int x2), (3, .int x3)]) hx hb dX6_slipOf_5 hl (by decide) rfl (fun ls hl => ?_)
  refine lv_iload_n hx hb dX6_slipOf_7 rfl (lv_at hl 4 rfl) ?_
  refine lv_aload_n hx hb dX6_slipOf_8 rfl (lv_at hl 1 rfl) ?_
  refine lv_iload_n hx hb dX6_slipOf_9 rfl (lv_at hl 2 rfl) ?_
  obtain ⟨q4, h3, hF⟩ := bd1_at hF
  refine rcall (va_runV (As := [.int x1]) (rest := [.int x3]) S (K6_letterOf l D cI cZ cS cJ aX aN aP aJ aI aT aD ms ml mt mq mu mN mP mK mI mT mD x1 q4 h3) (cwV 1 hts (gd_V wd_911 wd_913 wd_30 wd_67 wd_914) rfl rfl rfl hd6_letterOf ⟨Nat.le_of_ble_eq_true rfl, Nat.le_of_ble_eq_true rfl⟩) (rPreV hK hP (ci := 6) (q := (RX6, TX6, 11)) rfl rfl) rfl rfl hl.1 rfl (lv_room (Nat.le_of_ble_eq_true rfl)) dX6_slipOf_10 ⟨(Nat.zero_le _), (Nat.zero_le _)⟩) ?_
  refine lv_icmp_ne (tgt := 19) hx hb dX6_slipOf_13 (by decide) (fun c5 => ?_) (fun c5 => ?_)
  · rw [if_neg c5] at hF
    refine lv_iload hx hb dX6_slipOf_19 (lv_at hl 0 rfl) ?_
    refine lv_iconst hx hb dX6_slipOf_21 kc_iconst_3 ?_
    refine lv_icmp_ne (tgt := 39) hx hb dX6_slipOf_22 (by decide) (fun c6 => ?_) (fun c6 => ?_)
    · rw [if_neg c6] at hF
      refine lv_iconst hx hb dX6_slipOf_39 kc_iconst_m1 ?_
      exact rret hF hx hb hr hlocks dX6_slipOf_40
    · rw [if_pos c6] at hF
      refine lv_iload_n hx hb dX6_slipOf_25 rfl (lv_at hl 4 rfl) ?_
      refine lv_aload_n hx hb dX6_slipOf_26 rfl (lv_at hl 1 rfl) ?_
      refine va_get (D := D) (ci := 6) (v := .ref aN) (C := RX6) (T := TX6) (N := 11) hx hb hts i_X6 hown hK.1 hP 0 rfl rfl 0 (by decide) (hts _ wd_811) (fun _ h9 => h9) rfl dX6_slipOf_27 ?_
      refine lv_iconst hx hb dX6_slipOf_30 kc_iconst_1 ?_
      refine va_iald hx hb hK.1 hP 1 0 rfl rfl (inb_lit (by decide)) dX6_slipOf_31 ?_
      refine lv_icmp_ge (tgt := 39) hx hb dX6_slipOf_32 (by decide) (fun c7 => ?_) (fun c7 => ?_)
      · rw [if_pos c7] at hF
        refine lv_iconst hx hb dX6_slipOf_39 kc_iconst_m1 ?_
        exact rret hF hx hb hr hlocks dX6_slipOf_40
      · rw [if_neg c7] at hF
        refine lv_iconst hx hb dX6_slipOf_35 kc_iconst_2 ?_
        refine lv_goto (tgt := 40) hx hb dX6_slipOf_36 (by decide) ?_
        exact rret hF hx hb hr hlocks dX6_slipOf_40
  · rw [if_pos c5] at hF
    refine lv_iload hx hb dX6_slipOf_16 (lv_at hl 0 rfl) ?_
    exact rret hF hx hb hr hlocks dX6_slipOf_18
abbrev rm6_meantBy : Room := { frames := 3, cells := 0, slots := 0, locals := 72 }
theorem hd6_meantBy : yX6_meantBy.cls = RX6 ∧ yX6_meantBy.cls ≠ "java/lang/invoke/MethodHandle" ∧ yX6_meantBy.cls ≠ "java/lang/invoke/VarHandle" ∧ (parseMethodDescriptor yX6_meantBy.desc).map (fun d => d.parameters.length) = some 3 := by decide +kernel
set_option maxHeartbeats 4000000 in
set_option maxRecDepth 100000 in
theorem K6_meantBy (l : Launch) (D : va_G) (cI cZ cS cJ : ClassId) (aX aN aP aJ aI aT aD : Nat) (ms : Int32) (ml : Int32) (mt : Int32) (mq : Int32) (mu : Int32) (mN : Nat → Int32) (mP : Nat → Int32) (mK : Nat → Int32) (mI : Nat → Int32) (mT : Nat → Int32) (mD : Nat → Int32) (x1 : Int32) (x2 : Int32) (x3 : Int32) (r : Int32) (hF : f6_meantBy mN x1 x2 x3 = some (r)) : Met l yX6_meantBy wsX6_meantBy rm6_meantBy (rP D (gT cI cZ cS cJ) (W6 cI aX aN aP aJ aI aT aD ms ml mt mq mu mN mP mK mI mT mD) [.ref aX, .int x1, .int x2, .int x3]) (rQ (.int r)) 0 0 (fun _ => False) := by
  refine Met.ofW (cc := cX6_meantBy) (maxL := 7) (ret := (some .int)) (by decide) rfl ?_
  intro p e s m args below meth c s₁ B hml hv
  obtain ⟨ha, hK, hP⟩ := hv
  have hx := B.exec
  have hb := B.bytes
  have hr := B.returns
  have hlocks := B.notSynchronized
  have hts : ∀ w ∈ lw_all, w.before args s = true := fun w h => atoms_spec (ws := wsX6_meantBy) B.pre w (List.mem_cons_of_mem _ h)
  have hown : s.vm.findClass RX6 = some m.cls := findClass_of_methodNamed B.named
  have S : CallFix p m c cX6_meantBy 7 s args lw_all RX6 := ⟨hx, hb, hml, hown, hts⟩
  have hl := lv_entry ([.ref aX, .int x1, .int x2, .int x3] : List Value) (n := 7) (Nat.le_of_ble_eq_true rfl)
  refine W.eq (g2 := F0 m 0 ((lg_sl ([.ref aX, .int x1, .int x2, .int x3] : List Value) ++ List.replicate (7 - (lg_sl ([.ref aX, .int x1, .int x2, .int x3] : List Value)).length) Slot.unset).toArray) []) (by rw [ha]; exact lg_entry_eq _ _ _) ?_
  generalize (lg_sl ([.ref aX, .int x1, .int x2, .int x3] : List Value) ++ List.replicate (7 - (lg_sl ([.ref aX, .int x1, .int x2, .int x3] : List Value)).length) Slot.unset).toArray = ls at hl ⊢
  have hl : lv_has ls 7 [(0, .ref aX), (1, .int x1), (2, .int x2), (3, .int x3)] := hl
  clear ha
  have W_61 : ∀ (x1 : Int32) (x2 : Int32) (x3 : Int32) (x5 : Int32) (s0 : Int32) (s1 : Int32) (k10 : Int32 → Int32 → Option (Int32)) (hk10 : ∀ (x4 : Int32) (x5 : Int32), ∀ (ls : Array Slot), lv_has ls 7 [(0, .ref aX), (1, .int x1), (2, .int x2), (3, .int x3), (4, .int x4), (5, .int x5)] → k10 x4 x5 = some (r) → rW p l e wsX6_meantBy rm6_meantBy s m args below meth c (.int r) (F0 m 10 ls [])), ∀ (ls : Array Slot), lv_has ls 7 [(0, .ref aX), (1, .int x1), (2, .int x2), (3, .int x3), (5, .int x5)] → f6_meantBy_j61 k10 mN x1 x2 x3 x5 s0 s1 = some (r) → rW p l e wsX6_meantBy rm6_meantBy s m args below meth c (.int r) (F0 m 61 ls [.int s0, .int s1]) := by
    intro x1 x2 x3 x5 s0 s1 k10 hk10 ls hl hF
    rw [f6_meantBy_j61] at hF
    refine lv_iadd hx hb dX6_meantBy_61 ?_
    refine lv_istore (lv' := [(4, .int (s1 + s0)), (0, .ref aX), (1, .int x1), (2, .int x2), (3, .int x3), (5, .int x5)]) hx hb dX6_meantBy_62 hl (by decide) rfl (fun ls hl => ?_)
    refine lv_aload_n hx hb dX6_meantBy_64 rfl (lv_at hl 1 rfl) ?_
    refine lv_iload hx hb dX6_meantBy_65 (lv_at hl 5 rfl) ?_
    obtain ⟨q12, h11, hF⟩ := bd1_at hF
    refine rcall (va_runV (As := [.int x5]) (rest := []) S (K6_next l D cI cZ cS cJ aX aN aP aJ aI aT aD ms ml mt mq mu mN mP mK mI mT mD x5 q12 h11) (cwV 1 hts (gd_V wd_1057 wd_1059 wd_51 wd_67 wd_1060) rfl rfl rfl hd6_next ⟨Nat.le_of_ble_eq_true rfl, Nat.le_of_ble_eq_true rfl⟩) (rPreV hK hP (ci := 6) (q := (RX6, TX6, 11)) rfl rfl) rfl rfl hl.1 rfl (lv_room (Nat.le_of_ble_eq_true rfl)) dX6_meantBy_67 ⟨(Nat.zero_le _), (Nat.zero_le _)⟩) ?_
    refine lv_istore (lv' := [(5, .int q12), (4, .int (s1 + s0)), (0, .ref aX), (1, .int x1), (2, .int x2), (3, .int x3)]) hx hb dX6_meantBy_70 hl (by decide) rfl (fun ls hl => ?_)
    refine lv_goto (tgt := 10) hx hb dX6_meantBy_72 (by decide) ?_
    exact hk10 (s1 + s0) q12 ls (lv_sub hl [2, 3, 4, 5, 1, 0] rfl) hF
  have W_49 : ∀ (x1 : Int32) (x2 : Int32) (x3 : Int32) (x4 : Int32) (x5 : Int32) (x6 : Int32) (k10 : Int32 → Int32 → Option (Int32)) (hk10 : ∀ (x4 : Int32) (x5 : Int32), ∀ (ls : Array Slot), lv_has ls 7 [(0, .ref aX), (1, .int x1), (2, .int x2), (3, .int x3), (4, .int x4), (5, .int x5)] → k10 x4 x5 = some (r) → rW p l e wsX6_meantBy rm6_meantBy s m args below meth c (.int r) (F0 m 10 ls [])), ∀ (ls : Array Slot), lv_has ls 7 [(0, .ref aX), (1, .int x1), (2, .int x2), (3, .int x3), (4, .int x4), (5, .int x5), (6, .int x6)] → f6_meantBy_j49 k10 mN x1 x2 x3 x4 x5 x6 = some (r) → rW p l e wsX6_meantBy rm6_meantBy s m args below meth c (.int r) (F0 m 49 ls []) := by
    intro x1 x2 x3 x4 x5 x6 k10 hk10 ls hl hF
    rw [f6_meantBy_j49] at hF
    refine lv_iload hx hb dX6_meantBy_49 (lv_at hl 4 rfl) ?_
    refine lv_iload hx hb dX6_meantBy_51 (lv_at hl 6 rfl) ?_
    refine lv_if_eq (tgt := 60) hx hb dX6_meantBy_53 (by decide) (fun c10 => ?_) (fun c10 => ?_)
    · rw [if_pos c10] at hF
      refine lv_iconst hx hb dX6_meantBy_60 kc_iconst_0 ?_
      exact W_61 x1 x2 x3 x5 (0 : Int32) x4 k10 hk10 ls (lv_sub hl [0, 1, 2, 3, 5] rfl) hF
    · rw [if_neg c10] at hF
      refine lv_iconst hx hb dX6_meantBy_56 kc_iconst_1 ?_
      refine lv_goto (tgt := 61) hx hb dX6_meantBy_57 (by decide) ?_
      exact W_61 x1 x2 x3 x5 (1 : Int32) x4 k10 hk10 ls (lv_sub hl [0, 1, 2, 3, 5] rfl) hF
  have W_33 : ∀ (x1 : Int32) (x2 : Int32) (x3 : Int32) (x4 : Int32) (x5 : Int32) (s0 : Int32) (k10 : Int32 → Int32 → Option (Int32)) (hk10 : ∀ (x4 : Int32) (x5 : Int32), ∀ (ls : Array Slot), lv_has ls 7 [(0, .ref aX), (1, .int x1), (2, .int x2), (3, .int x3), (4, .int x4), (5, .int x5)] → k10 x4 x5 = some (r) → rW p l e wsX6_meantBy rm6_meantBy s m args below meth c (.int r) (F0 m 10 ls [])), ∀ (ls : Array Slot), lv_has ls 7 [(0, .ref aX), (1, .int x1), (2, .int x2), (3, .int x3), (4, .int x4), (5, .int x5)] → f6_meantBy_j33 k10 mN x1 x2 x3 x4 x5 s0 = some (r) → rW p l e wsX6_meantBy rm6_meantBy s m args below meth c (.int r) (F0 m 33 ls [.int s0]) := by
    intro x1 x2 x3 x4 x5 s0 k10 hk10 ls hl hF
    rw [f6_meantBy_j33] at hF
    refine lv_istore (lv' := [(6, .int s0), (0, .ref aX), (1, .int x1), (2, .int x2), (3, .int x3), (4, .int x4), (5, .int x5)]) hx hb dX6_meantBy_33 hl (by decide) rfl (fun ls hl => ?_)
    refine lv_iload hx hb dX6_meantBy_35 (lv_at hl 0 rfl) ?_
    refine lv_if_eq (tgt := 49) hx hb dX6_meantBy_37 (by decide) (fun c8 => ?_) (fun c8 => ?_)
    · have hF := ite_t c8 hF
      exact W_49 x1 x2 x3 x4 x5 s0 k10 hk10 ls (lv_sub hl [1, 2, 3, 4, 5, 6, 0] rfl) hF
    · have hF := ite_f c8 hF
      refine lv_iload hx hb dX6_meantBy_40 (lv_at hl 5 rfl) ?_
      refine lv_iload_n hx hb dX6_meantBy_42 rfl (lv_at hl 4 rfl) ?_
      refine lv_icmp_ne (tgt := 49) hx hb dX6_meantBy_43 (by decide) (fun c9 => ?_) (fun c9 => ?_)
      · have hF := ite_f c9 hF
        exact W_49 x1 x2 x3 x4 x5 s0 k10 hk10 ls (lv_sub hl [1, 2, 3, 4, 5, 6, 0] rfl) hF
      · have hF := ite_t c9 hF
        refine lv_iload hx hb dX6_meantBy_46 (lv_at hl 6 rfl) ?_
        exact rret hF hx hb hr hlocks dX6_meantBy_48
  have W_10 : ∀ (x1 : Int32) (x2 : Int32) (x3 : Int32) (n : Nat) (x4 : Int32) (x5 : Int32), ∀ (ls : Array Slot), lv_has ls 7 [(0, .ref aX), (1, .int x1), (2, .int x2), (3, .int x3), (4, .int x4), (5, .int x5)] → f6_meantBy_l10 mN x1 x2 x3 n x4 x5 = some (r) → rW p l e wsX6_meantBy rm6_meantBy s m args below meth c (.int r) (F0 m 10 ls []) := by
    intro x1 x2 x3  n
    induction n with
    | zero =>
      intro x4 x5 ls hl hF
      rw [f6_meantBy_l10] at hF
      cases hF
    | succ n ih =>
      intro x4 x5 ls hl hF
      rw [f6_meantBy_l10] at hF
      refine lv_iload hx hb dX6_meantBy_10 (lv_at hl 5 rfl) ?_
      refine lv_iconst hx hb dX6_meantBy_12 kc_iconst_m1 ?_
      refine lv_icmp_eq (tgt := 75) hx hb dX6_meantBy_13 (by decide) (fun c3 => ?_) (fun c3 => ?_)
      · have hF := ite_t c3 hF
        refine lv_iload_n hx hb dX6_meantBy_75 rfl (lv_at hl 3 rfl) ?_
        refine lv_iconst hx hb dX6_meantBy_76 kc_iconst_m1 ?_
        refine lv_icmp_ne (tgt := 85) hx hb dX6_meantBy_77 (by decide) (fun c4 => ?_) (fun c4 => ?_)
        · rw [if_neg c4] at hF
          refine lv_iconst hx hb dX6_meantBy_85 kc_iconst_m1 ?_
          exact rret hF hx hb hr hlocks dX6_meantBy_86
        · rw [if_pos c4] at hF
          refine lv_iload hx hb dX6_meantBy_80 (lv_at hl 4 rfl) ?_
          refine lv_goto (tgt := 86) hx hb dX6_meantBy_82 (by decide) ?_
          exact rret hF hx hb hr hlocks dX6_meantBy_86
      · have hF := ite_f c3 hF
        refine lv_aload_n hx hb dX6_meantBy_16 rfl (lv_at hl 0 rfl) ?_
        refine lv_iload hx hb dX6_meantBy_17 (lv_at hl 5 rfl) ?_
        refine lv_iload_n hx hb dX6_meantBy_19 rfl (lv_at hl 1 rfl) ?_
        refine lv_iload_n hx hb dX6_meantBy_20 rfl (lv_at hl 2 rfl) ?_
        obtain ⟨q6, h5, hF⟩ := bd1_at hF
        refine rcall (va_runV (As := [.int x5, .int x1, .int x2]) (rest := []) S (K6_slipOf l D cI cZ cS cJ aX aN aP aJ aI aT aD ms ml mt mq mu mN mP mK mI mT mD x5 x1 x2 q6 h5) (cwV 3 hts (gd_V wd_1109 wd_1111 wd_59 wd_67 wd_1112) rfl rfl rfl hd6_slipOf ⟨Nat.le_of_ble_eq_true rfl, Nat.le_of_ble_eq_true rfl⟩) (rPreV hK hP (ci := 6) (q := (RX6, TX6, 11)) rfl rfl) rfl rfl hl.1 rfl (lv_room (Nat.le_of_ble_eq_true rfl)) dX6_meantBy_21 ⟨(Nat.zero_le _), (Nat.zero_le _)⟩) ?_
        refine lv_iconst hx hb dX6_meantBy_24 kc_iconst_m1 ?_
        refine lv_icmp_eq (tgt := 32) hx hb dX6_meantBy_25 (by decide) (fun c7 => ?_) (fun c7 => ?_)
        · rw [if_pos c7] at hF
          refine lv_iconst hx hb dX6_meantBy_32 kc_iconst_0 ?_
          exact W_33 x1 x2 x3 x4 x5 (0 : Int32) (f6_meantBy_l10 mN x1 x2 x3 n) ih ls (lv_sub hl [0, 1, 2, 3, 4, 5] rfl) hF
        · rw [if_neg c7] at hF
          refine lv_iconst hx hb dX6_meantBy_28 kc_iconst_1 ?_
          refine lv_goto (tgt := 33) hx hb dX6_meantBy_29 (by decide) ?_
          exact W_33 x1 x2 x3 x4 x5 (1 : Int32) (f6_meantBy_l10 mN x1 x2 x3 n) ih ls (lv_sub hl [0, 1, 2, 3, 4, 5] rfl) hF
  rw [f6_meantBy] at hF
  show rW p l e wsX6_meantBy rm6_meantBy s m args below meth c (.int r) (F0 m 0 ls [])
  refine lv_iconst hx hb dX6_meantBy_0 kc_iconst_0 ?_
  refine lv_istore (lv' := [(4, .int (0 : Int32)), (0, .ref aX), (1, .int x1), (2, .int x2), (3, .int x3)]) hx hb dX6_meantBy_1 hl (by decide) rfl (fun ls hl => ?_)
  refine lv_aload_n hx hb dX6_meantBy_3 rfl (lv_at hl 1 rfl) ?_
  refine lv_iconst hx hb dX6_meantBy_4 kc_iconst_m1 ?_
  obtain ⟨q2, h1, hF⟩ := bd1_at hF
  refine rcall (va_runV (As := [.int (-1 : Int32)]) (rest := []) S (K6_next l D cI cZ cS cJ aX aN aP aJ aI aT aD ms ml mt mq mu mN mP mK mI mT mD (-1 : Int32) q2 h1) (cwV 1 hts (gd_V wd_1057 wd_1059 wd_51 wd_67 wd_1060) rfl rfl rfl hd6_next ⟨Nat.le_of_ble_eq_true rfl, Nat.le_of_ble_eq_true rfl⟩) (rPreV hK hP (ci := 6) (q := (RX6, TX6, 11)) rfl rfl) rfl rfl hl.1 rfl (lv_room (Nat.le_of_ble_eq_true rfl)) dX6_meantBy_5 ⟨(Nat.zero_le _), (Nat.zero_le _)⟩) ?_
  refine lv_istore (lv' := [(5, .int q2), (4, .int (0 : Int32)), (0, .ref aX), (1, .int x1), (2, .int x2), (3, .int x3)]) hx hb dX6_meantBy_8 hl (by decide) rfl (fun ls hl => ?_)
  exact W_10 x1 x2 x3  fu (0 : Int32) q2 ls (lv_sub hl [2, 3, 4, 5, 1, 0] rfl) hF
abbrev rm6_meant : Room := { frames := 4, cells := 0, slots := 0, locals := 98 }
theorem hd6_meant : yX6_meant.cls = RX6 ∧ yX6_meant.cls ≠ "java/lang/invoke/MethodHandle" ∧ yX6_meant.cls ≠ "java/lang/invoke/VarHandle" ∧ (parseMethodDescriptor yX6_meant.desc).map (fun d => d.parameters.length) = some 3 := by decide +kernel
set_option maxHeartbeats 4000000 in
set_option maxRecDepth 100000 in
theorem K6_meant (l : Launch) (D : va_G) (cI cZ cS cJ : ClassId) (aX aN aP aJ aI aT aD : Nat) (ms : Int32) (ml : Int32) (mt : Int32) (mq : Int32) (mu : Int32) (mN : Nat → Int32) (mP : Nat → Int32) (mK : Nat → Int32) (mI : Nat → Int32) (mT : Nat → Int32) (mD : Nat → Int32) (x1 : Int32) (x2 : Int32) (x3 : Int32) (r : Int32) (z_mt : Int32) (hF : f6_meant mt mN x1 x2 x3 = some (r, z_mt)) : Met l yX6_meant wsX6_meant rm6_meant (uP D (gT cI cZ cS cJ) (W6 cI aX aN aP aJ aI aT aD ms ml mt mq mu mN mP mK mI mT mD) [.ref aX, .int x1, .int x2, .int x3]) (uQ D (some (.int r)) (uA (W6 cI aX aN aP aJ aI aT aD ms ml mt mq mu mN mP mK mI mT mD)) (W6 cI aX aN aP aJ aI aT aD ms ml z_mt mq mu mN mP mK mI mT mD)) 0 0 (uA (W6 cI aX aN aP aJ aI aT aD ms ml mt mq mu mN mP mK mI mT mD)) := by
  refine Met.ofW (cc := cX6_meant) (maxL := 4) (ret := (some .int)) (by decide) rfl ?_
  intro p e s m args below meth c s₁ B hml hv
  obtain ⟨ha, hK, hP, hD0⟩ := hv
  have hx := B.exec
  have hb := B.bytes
  have hr := B.returns
  have hlocks := B.notSynchronized
  have hts : ∀ w ∈ lw_all, w.before args s = true := fun w h => atoms_spec (ws := wsX6_meant) B.pre w (List.mem_cons_of_mem _ h)
  have hown : s.vm.findClass RX6 = some m.cls := findClass_of_methodNamed B.named
  have S : CallFix p m c cX6_meant 4 s args lw_all RX6 := ⟨hx, hb, hml, hown, hts⟩
  have hD := hD0.own
  generalize uA (W6 cI aX aN aP aJ aI aT aD ms ml mt mq mu mN mP mK mI mT mD) = A0 at hD ⊢
  have hS : va_S A0 s.heap s.heap [] := va_S.rf
  have hl := lv_entry ([.ref aX, .int x1, .int x2, .int x3] : List Value) (n := 4) (Nat.le_of_ble_eq_true rfl)
  refine W.eq (g2 := F0 m 0 ((lg_sl ([.ref aX, .int x1, .int x2, .int x3] : List Value) ++ List.replicate (4 - (lg_sl ([.ref aX, .int x1, .int x2, .int x3] : List Value)).length) Slot.unset).toArray) []) (by rw [ha]; exact lg_entry_eq _ _ _) ?_
  generalize (lg_sl ([.ref aX, .int x1, .int x2, .int x3] : List Value) ++ List.replicate (4 - (lg_sl ([.ref aX, .int x1, .int x2, .int x3] : List Value)).length) Slot.unset).toArray = ls at hl ⊢
  have hl : lv_has ls 4 [(0, .ref aX), (1, .int x1), (2, .int x2), (3, .int x3)] := hl
  clear ha
  have W_40 : ∀ (mt : Int32), ∀ (H : Heap) (locs : List Loc), va_P D vwCl (W6 cI aX aN aP aJ aI aT aD ms ml mt mq mu mN mP mK mI mT mD) H → va_D A0 (W6 cI aX aN aP aJ aI aT aD ms ml mt mq mu mN mP mK mI mT mD) → va_S A0 s.heap H locs → ∀ (ls : Array Slot), lv_has ls 4 [(0, .ref aX)] → f6_meant_j40 mt mN = some (r, z_mt) → uW p l e wsX6_meant rm6_meant s m args below meth c D (some (.int r)) A0 (W6 cI aX aN aP aJ aI aT aD ms ml z_mt mq mu mN mP mK mI mT mD) H locs (F0 m 40 ls []) := by
    intro mt  H locs hP hD hS ls hl hF
    rw [f6_meant_j40] at hF
    refine lv_aload_n hx hb dX6_meant_40 rfl (lv_at hl 0 rfl) ?_
    refine lv_iconst hx hb dX6_meant_41 kc_iconst_2 ?_
    obtain ⟨q14, u15, h13, hF⟩ := bd2_at hF
    refine ucalli (ws' := (W6 cI aX aN aP aJ aI aT aD ms ml u15 mq mu mN mP mK mI mT mD)) (va_runV (As := [.int (2 : Int32)]) (rest := []) S (K6_refuses l D cI cZ cS cJ aX aN aP aJ aI aT aD ms ml mt mq mu mN mP mK mI mT mD (2 : Int32) q14 u15 h13) (cwV 1 hts (gd_V wd_856 wd_858 wd_21 wd_67 wd_859) rfl rfl rfl hd6_refuses ⟨Nat.le_of_ble_eq_true rfl, Nat.le_of_ble_eq_true rfl⟩) (uPreV hK hP hD (ci := 6) (q := (RX6, TX6, 11)) rfl rfl) rfl rfl hl.1 rfl (lv_room (Nat.le_of_ble_eq_true rfl)) dX6_meant_42 ⟨(Nat.zero_le _), (Nat.zero_le _)⟩) hS hP hD [0, 1, 2, 3, 4, 5, 6] rfl rfl rfl rfl (fun H locs hP hD hS => ?_)
    cases hF
    exact ureti hx hb hr hlocks hP hS dX6_meant_45
  rw [f6_meant] at hF
  show uW p l e wsX6_meant rm6_meant s m args below meth c D (some (.int r)) A0 (W6 cI aX aN aP aJ aI aT aD ms ml z_mt mq mu mN mP mK mI mT mD) s.heap [] (F0 m 0 ls [])
  refine lv_aload_n hx hb dX6_meant_0 rfl (lv_at hl 0 rfl) ?_
  refine lv_iconst hx hb dX6_meant_1 kc_iconst_0 ?_
  refine va_put (D := D) (ci := 6) (v := .int (0 : Int32)) (ty := .int) (C := RX6) (T := TX6) (N := 11) hx hb hts i_X6 tyX6 tyX6_ok nmX6 hown hK.1 hP hD hS 0 rfl rfl 7 (by decide) (hts _ wd_818) (fun _ h9 => h9) rfl (by decide +kernel) rfl rfl (Nat.le_of_ble_eq_true rfl) dX6_meant_2 (fun H locs hP hD hS => ?_)
  have hP : va_P D vwCl (W6 cI aX aN aP aJ aI aT aD ms ml (0 : Int32) mq mu mN mP mK mI mT mD) H := hP
  have hD : va_D A0 (W6 cI aX aN aP aJ aI aT aD ms ml (0 : Int32) mq mu mN mP mK mI mT mD) := hD
  refine lv_iload_n hx hb dX6_meant_5 rfl (lv_at hl 1 rfl) ?_
  obtain ⟨q2, h1, hF⟩ := bd1_at hF
  refine rcall (va_runS (As := [.int x1]) (rest := []) S (K6_isSerial l D cI cZ cS cJ x1 q2 h1) (va_cwS 1 hts (gd_S wd_875 wd_876 wd_67 wd_877) rfl rfl rfl hdn6_isSerial ⟨Nat.le_of_ble_eq_true rfl, Nat.le_of_ble_eq_true rfl⟩) (rPreS hK (hP.sub (ws' := ([] : va_W)) [] rfl)) rfl rfl hl.1 rfl (lv_room (Nat.le_of_ble_eq_true rfl)) dX6_meant_6 ⟨(Nat.zero_le _), (Nat.zero_le _)⟩) ?_
  refine lv_if_ne (tgt := 18) hx hb dX6_meant_9 (by decide) (fun c3 => ?_) (fun c3 => ?_)
  · have hF := ite_f c3 hF
    refine lv_iload_n hx hb dX6_meant_18 rfl (lv_at hl 2 rfl) ?_
    obtain ⟨q5, h4, hF⟩ := bd1_at hF
    refine rcall (va_runS (As := [.int x2]) (rest := []) S (K6_isLetter l D cI cZ cS cJ x2 q5 h4) (va_cwS 1 hts (gd_S wd_922 wd_923 wd_67 wd_924) rfl rfl rfl hdn6_isLetter ⟨Nat.le_of_ble_eq_true rfl, Nat.le_of_ble_eq_true rfl⟩) (rPreS hK (hP.sub (ws' := ([] : va_W)) [] rfl)) rfl rfl hl.1 rfl (lv_room (Nat.le_of_ble_eq_true rfl)) dX6_meant_19 ⟨(Nat.zero_le _), (Nat.zero_le _)⟩) ?_
    refine lv_if_eq (tgt := 40) hx hb dX6_meant_22 (by decide) (fun c6 => ?_) (fun c6 => ?_)
    · have hF := ite_t c6 hF
      exact W_40 (0 : Int32)  _ _ hP hD hS ls (lv_sub hl [0] rfl) hF
    · have hF := ite_f c6 hF
      refine lv_iload_n hx hb dX6_meant_25 rfl (lv_at hl 3 rfl) ?_
      refine lv_iconst hx hb dX6_meant_26 kc_iconst_m1 ?_
      refine lv_icmp_lt (tgt := 40) hx hb dX6_meant_27 (by decide) (fun c7 => ?_) (fun c7 => ?_)
      · have hF := ite_t c7 hF
        exact W_40 (0 : Int32)  _ _ hP hD hS ls (lv_sub hl [0] rfl) hF
      · have hF := ite_f c7 hF
        refine lv_aload_n hx hb dX6_meant_30 rfl (lv_at hl 0 rfl) ?_
        refine lv_iload_n hx hb dX6_meant_31 rfl (lv_at hl 1 rfl) ?_
        refine lv_iload_n hx hb dX6_meant_32 rfl (lv_at hl 2 rfl) ?_
        refine lv_iload_n hx hb dX6_meant_33 rfl (lv_at hl 3 rfl) ?_
        obtain ⟨q9, h8, hF⟩ := bd1_at hF
        refine rcall (va_runV (As := [.int x1, .int x2, .int x3]) (rest := []) S (K6_meantBy l D cI cZ cS cJ aX aN aP aJ aI aT aD ms ml (0 : Int32) mq mu mN mP mK mI mT mD x1 x2 x3 q9 h8) (cwV 3 hts (gd_V wd_1105 wd_1107 wd_58 wd_67 wd_1108) rfl rfl rfl hd6_meantBy ⟨Nat.le_of_ble_eq_true rfl, Nat.le_of_ble_eq_true rfl⟩) (rPreV hK hP (ci := 6) (q := (RX6, TX6, 11)) rfl rfl) rfl rfl hl.1 rfl (lv_room (Nat.le_of_ble_eq_true rfl)) dX6_meant_34 ⟨(Nat.zero_le _), (Nat.zero_le _)⟩) ?_
        refine lv_goto (tgt := 45) hx hb dX6_meant_37 (by decide) ?_
        cases hF
        exact ureti hx hb hr hlocks hP hS dX6_meant_45
  · have hF := ite_t c3 hF
    refine lv_aload_n hx hb dX6_meant_12 rfl (lv_at hl 0 rfl) ?_
    refine lv_iconst hx hb dX6_meant_13 kc_iconst_1 ?_
    obtain ⟨q11, u12, h10, hF⟩ := bd2_at hF
    refine ucalli (ws' := (W6 cI aX aN aP aJ aI aT aD ms ml u12 mq mu mN mP mK mI mT mD)) (va_runV (As := [.int (1 : Int32)]) (rest := []) S (K6_refuses l D cI cZ cS cJ aX aN aP aJ aI aT aD ms ml (0 : Int32) mq mu mN mP mK mI mT mD (1 : Int32) q11 u12 h10) (cwV 1 hts (gd_V wd_856 wd_858 wd_21 wd_67 wd_859) rfl rfl rfl hd6_refuses ⟨Nat.le_of_ble_eq_true rfl, Nat.le_of_ble_eq_true rfl⟩) (uPreV hK hP hD (ci := 6) (q := (RX6, TX6, 11)) rfl rfl) rfl rfl hl.1 rfl (lv_room (Nat.le_of_ble_eq_true rfl)) dX6_meant_14 ⟨(Nat.zero_le _), (Nat.zero_le _)⟩) hS hP hD [0, 1, 2, 3, 4, 5, 6] rfl rfl rfl rfl (fun H locs hP hD hS => ?_)
    cases hF
    exact ureti hx hb hr hlocks hP hS dX6_meant_17
abbrev rm6_slip : Room := { frames := 3, cells := 0, slots := 0, locals := 72 }
theorem hd6_slip : yX6_slip.cls = RX6 ∧ yX6_slip.cls ≠ "java/lang/invoke/MethodHandle" ∧ yX6_slip.cls ≠ "java/lang/invoke/VarHandle" ∧ (parseMethodDescriptor yX6_slip.desc).map (fun d => d.parameters.length) = some 3 := by decide +kernel
set_option maxHeartbeats 4000000 in
set_option maxRecDepth 100000 in
theorem K6_slip (l : Launch) (D : va_G) (cI cZ cS cJ : ClassId) (aX aN aP aJ aI aT aD : Nat) (ms : Int32) (ml : Int32) (mt : Int32) (mq : Int32) (mu : Int32) (mN : Nat → Int32) (mP : Nat → Int32) (mK : Nat → Int32) (mI : Nat → Int32) (mT : Nat → Int32) (mD : Nat → Int32) (x1 : Int32) (x2 : Int32) (x3 : Int32) (r : Int32) (z_mt : Int32) (hF : f6_slip mt mN x1 x2 x3 = some (r, z_mt)) : Met l yX6_slip wsX6_slip rm6_slip (uP D (gT cI cZ cS cJ) (W6 cI aX aN aP aJ aI aT aD ms ml mt mq mu mN mP mK mI mT mD) [.ref aX, .int x1, .int x2, .int x3]) (uQ D (some (.int r)) (uA (W6 cI aX aN aP aJ aI aT aD ms ml mt mq mu mN mP mK mI mT mD)) (W6 cI aX aN aP aJ aI aT aD ms ml z_mt mq mu mN mP mK mI mT mD)) 0 0 (uA (W6 cI aX aN aP aJ aI aT aD ms ml mt mq mu mN mP mK mI mT mD)) := by
  refine Met.ofW (cc := cX6_slip) (maxL := 4) (ret := (some .int)) (by decide) rfl ?_
  intro p e s m args below meth c s₁ B hml hv
  obtain ⟨ha, hK, hP, hD0⟩ := hv
  have hx := B.exec
  have hb := B.bytes
  have hr := B.returns
  have hlocks := B.notSynchronized
  have hts : ∀ w ∈ lw_all, w.before args s = true := fun w h => atoms_spec (ws := wsX6_slip) B.pre w (List.mem_cons_of_mem _ h)
  have hown : s.vm.findClass RX6 = some m.cls := findClass_of_methodNamed B.named
  have S : CallFix p m c cX6_slip 4 s args lw_all RX6 := ⟨hx, hb, hml, hown, hts⟩
  have hD := hD0.own
  generalize uA (W6 cI aX aN aP aJ aI aT aD ms ml mt mq mu mN mP mK mI mT mD) = A0 at hD ⊢
  have hS : va_S A0 s.heap s.heap [] := va_S.rf
  have hl := lv_entry ([.ref aX, .int x1, .int x2, .int x3] : List Value) (n := 4) (Nat.le_of_ble_eq_true rfl)
  refine W.eq (g2 := F0 m 0 ((lg_sl ([.ref aX, .int x1, .int x2, .int x3] : List Value) ++ List.replicate (4 - (lg_sl ([.ref aX, .int x1, .int x2, .int x3] : List Value)).length) Slot.unset).toArray) []) (by rw [ha]; exact lg_entry_eq _ _ _) ?_
  generalize (lg_sl ([.ref aX, .int x1, .int x2, .int x3] : List Value) ++ List.replicate (4 - (lg_sl ([.ref aX, .int x1, .int x2, .int x3] : List Value)).length) Slot.unset).toArray = ls at hl ⊢
  have hl : lv_has ls 4 [(0, .ref aX), (1, .int x1), (2, .int x2), (3, .int x3)] := hl
  clear ha
  have W_19 : ∀ (mt : Int32), ∀ (H : Heap) (locs : List Loc), va_P D vwCl (W6 cI aX aN aP aJ aI aT aD ms ml mt mq mu mN mP mK mI mT mD) H → va_D A0 (W6 cI aX aN aP aJ aI aT aD ms ml mt mq mu mN mP mK mI mT mD) → va_S A0 s.heap H locs → ∀ (ls : Array Slot), lv_has ls 4 [(0, .ref aX)] → f6_slip_j19 mt mN = some (r, z_mt) → uW p l e wsX6_slip rm6_slip s m args below meth c D (some (.int r)) A0 (W6 cI aX aN aP aJ aI aT aD ms ml z_mt mq mu mN mP mK mI mT mD) H locs (F0 m 19 ls []) := by
    intro mt  H locs hP hD hS ls hl hF
    rw [f6_slip_j19] at hF
    refine lv_aload_n hx hb dX6_slip_19 rfl (lv_at hl 0 rfl) ?_
    refine lv_iconst hx hb dX6_slip_20 kc_iconst_1 ?_
    obtain ⟨q16, u17, h15, hF⟩ := bd2_at hF
    refine ucalli (ws' := (W6 cI aX aN aP aJ aI aT aD ms ml u17 mq mu mN mP mK mI mT mD)) (va_runV (As := [.int (1 : Int32)]) (rest := []) S (K6_refuses l D cI cZ cS cJ aX aN aP aJ aI aT aD ms ml mt mq mu mN mP mK mI mT mD (1 : Int32) q16 u17 h15) (cwV 1 hts (gd_V wd_856 wd_858 wd_21 wd_67 wd_859) rfl rfl rfl hd6_refuses ⟨Nat.le_of_ble_eq_true rfl, Nat.le_of_ble_eq_true rfl⟩) (uPreV hK hP hD (ci := 6) (q := (RX6, TX6, 11)) rfl rfl) rfl rfl hl.1 rfl (lv_room (Nat.le_of_ble_eq_true rfl)) dX6_slip_21 ⟨(Nat.zero_le _), (Nat.zero_le _)⟩) hS hP hD [0, 1, 2, 3, 4, 5, 6] rfl rfl rfl rfl (fun H locs hP hD hS => ?_)
    cases hF
    exact ureti hx hb hr hlocks hP hS dX6_slip_24
  rw [f6_slip] at hF
  show uW p l e wsX6_slip rm6_slip s m args below meth c D (some (.int r)) A0 (W6 cI aX aN aP aJ aI aT aD ms ml z_mt mq mu mN mP mK mI mT mD) s.heap [] (F0 m 0 ls [])
  refine lv_aload_n hx hb dX6_slip_0 rfl (lv_at hl 0 rfl) ?_
  refine lv_iconst hx hb dX6_slip_1 kc_iconst_0 ?_
  refine va_put (D := D) (ci := 6) (v := .int (0 : Int32)) (ty := .int) (C := RX6) (T := TX6) (N := 11) hx hb hts i_X6 tyX6 tyX6_ok nmX6 hown hK.1 hP hD hS 0 rfl rfl 7 (by decide) (hts _ wd_818) (fun _ h9 => h9) rfl (by decide +kernel) rfl rfl (Nat.le_of_ble_eq_true rfl) dX6_slip_2 (fun H locs hP hD hS => ?_)
  have hP : va_P D vwCl (W6 cI aX aN aP aJ aI aT aD ms ml (0 : Int32) mq mu mN mP mK mI mT mD) H := hP
  have hD : va_D A0 (W6 cI aX aN aP aJ aI aT aD ms ml (0 : Int32) mq mu mN mP mK mI mT mD) := hD
  refine lv_iload_n hx hb dX6_slip_5 rfl (lv_at hl 1 rfl) ?_
  obtain ⟨q2, h1, hF⟩ := bd1_at hF
  refine rcall (va_runS (As := [.int x1]) (rest := []) S (K6_isSerial l D cI cZ cS cJ x1 q2 h1) (va_cwS 1 hts (gd_S wd_875 wd_876 wd_67 wd_877) rfl rfl rfl hdn6_isSerial ⟨Nat.le_of_ble_eq_true rfl, Nat.le_of_ble_eq_true rfl⟩) (rPreS hK (hP.sub (ws' := ([] : va_W)) [] rfl)) rfl rfl hl.1 rfl (lv_room (Nat.le_of_ble_eq_true rfl)) dX6_slip_6 ⟨(Nat.zero_le _), (Nat.zero_le _)⟩) ?_
  refine lv_if_eq (tgt := 19) hx hb dX6_slip_9 (by decide) (fun c3 => ?_) (fun c3 => ?_)
  · have hF := ite_t c3 hF
    exact W_19 (0 : Int32)  _ _ hP hD hS ls (lv_sub hl [0] rfl) hF
  · have hF := ite_f c3 hF
    refine lv_iload_n hx hb dX6_slip_12 rfl (lv_at hl 2 rfl) ?_
    obtain ⟨q5, h4, hF⟩ := bd1_at hF
    refine rcall (va_runS (As := [.int x2]) (rest := []) S (K6_isSerial l D cI cZ cS cJ x2 q5 h4) (va_cwS 1 hts (gd_S wd_875 wd_876 wd_67 wd_877) rfl rfl rfl hdn6_isSerial ⟨Nat.le_of_ble_eq_true rfl, Nat.le_of_ble_eq_true rfl⟩) (rPreS hK (hP.sub (ws' := ([] : va_W)) [] rfl)) rfl rfl hl.1 rfl (lv_room (Nat.le_of_ble_eq_true rfl)) dX6_slip_13 ⟨(Nat.zero_le _), (Nat.zero_le _)⟩) ?_
    refine lv_if_ne (tgt := 25) hx hb dX6_slip_16 (by decide) (fun c6 => ?_) (fun c6 => ?_)
    · have hF := ite_f c6 hF
      refine lv_iload_n hx hb dX6_slip_25 rfl (lv_at hl 3 rfl) ?_
      obtain ⟨q8, h7, hF⟩ := bd1_at hF
      refine rcall (va_runS (As := [.int x3]) (rest := []) S (K6_isLetter l D cI cZ cS cJ x3 q8 h7) (va_cwS 1 hts (gd_S wd_922 wd_923 wd_67 wd_924) rfl rfl rfl hdn6_isLetter ⟨Nat.le_of_ble_eq_true rfl, Nat.le_of_ble_eq_true rfl⟩) (rPreS hK (hP.sub (ws' := ([] : va_W)) [] rfl)) rfl rfl hl.1 rfl (lv_room (Nat.le_of_ble_eq_true rfl)) dX6_slip_26 ⟨(Nat.zero_le _), (Nat.zero_le _)⟩) ?_
      refine lv_if_eq (tgt := 42) hx hb dX6_slip_29 (by decide) (fun c9 => ?_) (fun c9 => ?_)
      · have hF := ite_t c9 hF
        refine lv_aload_n hx hb dX6_slip_42 rfl (lv_at hl 0 rfl) ?_
        refine lv_iconst hx hb dX6_slip_43 kc_iconst_2 ?_
        obtain ⟨q11, u12, h10, hF⟩ := bd2_at hF
        refine ucalli (ws' := (W6 cI aX aN aP aJ aI aT aD ms ml u12 mq mu mN mP mK mI mT mD)) (va_runV (As := [.int (2 : Int32)]) (rest := []) S (K6_refuses l D cI cZ cS cJ aX aN aP aJ aI aT aD ms ml (0 : Int32) mq mu mN mP mK mI mT mD (2 : Int32) q11 u12 h10) (cwV 1 hts (gd_V wd_856 wd_858 wd_21 wd_67 wd_859) rfl rfl rfl hd6_refuses ⟨Nat.le_of_ble_eq_true rfl, Nat.le_of_ble_eq_true rfl⟩) (uPreV hK hP hD (ci := 6) (q := (RX6, TX6, 11)) rfl rfl) rfl rfl hl.1 rfl (lv_room (Nat.le_of_ble_eq_true rfl)) dX6_slip_44 ⟨(Nat.zero_le _), (Nat.zero_le _)⟩) hS hP hD [0, 1, 2, 3, 4, 5, 6] rfl rfl rfl rfl (fun H locs hP hD hS => ?_)
        cases hF
        exact ureti hx hb hr hlocks hP hS dX6_slip_47
      · have hF := ite_f c9 hF
        refine lv_aload_n hx hb dX6_slip_32 rfl (lv_at hl 0 rfl) ?_
        refine lv_iload_n hx hb dX6_slip_33 rfl (lv_at hl 1 rfl) ?_
        refine lv_iload_n hx hb dX6_slip_34 rfl (lv_at hl 2 rfl) ?_
        refine lv_iload_n hx hb dX6_slip_35 rfl (lv_at hl 3 rfl) ?_
        obtain ⟨q14, h13, hF⟩ := bd1_at hF
        refine rcall (va_runV (As := [.int x1, .int x2, .int x3]) (rest := []) S (K6_slipOf l D cI cZ cS cJ aX aN aP aJ aI aT aD ms ml (0 : Int32) mq mu mN mP mK mI mT mD x1 x2 x3 q14 h13) (cwV 3 hts (gd_V wd_1109 wd_1111 wd_59 wd_67 wd_1112) rfl rfl rfl hd6_slipOf ⟨Nat.le_of_ble_eq_true rfl, Nat.le_of_ble_eq_true rfl⟩) (rPreV hK hP (ci := 6) (q := (RX6, TX6, 11)) rfl rfl) rfl rfl hl.1 rfl (lv_room (Nat.le_of_ble_eq_true rfl)) dX6_slip_36 ⟨(Nat.zero_le _), (Nat.zero_le _)⟩) ?_
        refine lv_goto (tgt := 47) hx hb dX6_slip_39 (by decide) ?_
        cases hF
        exact ureti hx hb hr hlocks hP hS dX6_slip_47
    · have hF := ite_t c6 hF
      exact W_19 (0 : Int32)  _ _ hP hD hS ls (lv_sub hl [0] rfl) hF
abbrev rm6_cashed : Room := { frames := 3, cells := 0, slots := 0, locals := 67 }
theorem hd6_cashed : yX6_cashed.cls = RX6 ∧ yX6_cashed.cls ≠ "java/lang/invoke/MethodHandle" ∧ yX6_cashed.cls ≠ "java/lang/invoke/VarHandle" ∧ (parseMethodDescriptor yX6_cashed.desc).map (fun d => d.parameters.length) = some 0 := by decide +kernel
set_option maxHeartbeats 4000000 in
set_option maxRecDepth 100000 in
theorem K6_cashed (l : Launch) (D : va_G) (cI cZ cS cJ : ClassId) (aX aN aP aJ aI aT aD : Nat) (ms : Int32) (ml : Int32) (mt : Int32) (mq : Int32) (mu : Int32) (mN : Nat → Int32) (mP : Nat → Int32) (mK : Nat → Int32) (mI : Nat → Int32) (mT : Nat → Int32) (mD : Nat → Int32) (r : UInt64) (z_mt : Int32) (hF : f6_cashed mt mN = some (r, z_mt)) : Met l yX6_cashed wsX6_cashed rm6_cashed (uP D (gT cI cZ cS cJ) (W6 cI aX aN aP aJ aI aT aD ms ml mt mq mu mN mP mK mI mT mD) [.ref aX]) (uQ D (some (.double r)) (uA (W6 cI aX aN aP aJ aI aT aD ms ml mt mq mu mN mP mK mI mT mD)) (W6 cI aX aN aP aJ aI aT aD ms ml z_mt mq mu mN mP mK mI mT mD)) 0 0 (uA (W6 cI aX aN aP aJ aI aT aD ms ml mt mq mu mN mP mK mI mT mD)) := by
  refine Met.ofW (cc := cX6_cashed) (maxL := 4) (ret := (some .double)) (by decide) rfl ?_
  intro p e s m args below meth c s₁ B hml hv
  obtain ⟨ha, hK, hP, hD0⟩ := hv
  have hx := B.exec
  have hb := B.bytes
  have hr := B.returns
  have hlocks := B.notSynchronized
  have hts : ∀ w ∈ lw_all, w.before args s = true := fun w h => atoms_spec (ws := wsX6_cashed) B.pre w (List.mem_cons_of_mem _ h)
  have hown : s.vm.findClass RX6 = some m.cls := findClass_of_methodNamed B.named
  have S : CallFix p m c cX6_cashed 4 s args lw_all RX6 := ⟨hx, hb, hml, hown, hts⟩
  have hD := hD0.own
  generalize uA (W6 cI aX aN aP aJ aI aT aD ms ml mt mq mu mN mP mK mI mT mD) = A0 at hD ⊢
  have hS : va_S A0 s.heap s.heap [] := va_S.rf
  have hl := lv_entry ([.ref aX] : List Value) (n := 4) (Nat.le_of_ble_eq_true rfl)
  refine W.eq (g2 := F0 m 0 ((lg_sl ([.ref aX] : List Value) ++ List.replicate (4 - (lg_sl ([.ref aX] : List Value)).length) Slot.unset).toArray) []) (by rw [ha]; exact lg_entry_eq _ _ _) ?_
  generalize (lg_sl ([.ref aX] : List Value) ++ List.replicate (4 - (lg_sl ([.ref aX] : List Value)).length) Slot.unset).toArray = ls at hl ⊢
  have hl : lv_has ls 4 [(0, .ref aX)] := hl
  rw [f6_cashed] at hF
  show uW p l e wsX6_cashed rm6_cashed s m args below meth c D (some (.double r)) A0 (W6 cI aX aN aP aJ aI aT aD ms ml z_mt mq mu mN mP mK mI mT mD) s.heap [] (F0 m 0 ls [])
  refine lv_aload_n hx hb dX6_cashed_0 rfl (lv_at hl 0 rfl) ?_
  refine lv_iconst hx hb dX6_cashed_1 kc_iconst_0 ?_
  refine va_put (D := D) (ci := 6) (v := .int (0 : Int32)) (ty := .int) (C := RX6) (T := TX6) (N := 11) hx hb hts i_X6 tyX6 tyX6_ok nmX6 hown hK.1 hP hD hS 0 rfl rfl 7 (by decide) (hts _ wd_818) (fun _ h9 => h9) rfl (by decide +kernel) rfl rfl (Nat.le_of_ble_eq_true rfl) dX6_cashed_2 (fun H locs hP hD hS => ?_)
  have hP : va_P D vwCl (W6 cI aX aN aP aJ aI aT aD ms ml (0 : Int32) mq mu mN mP mK mI mT mD) H := hP
  have hD : va_D A0 (W6 cI aX aN aP aJ aI aT aD ms ml (0 : Int32) mq mu mN mP mK mI mT mD) := hD
  refine lv_aload_n hx hb dX6_cashed_5 rfl (lv_at hl 0 rfl) ?_
  refine lv_iconst hx hb dX6_cashed_6 kc_iconst_0 ?_
  refine lv_bipush hx hb dX6_cashed_7 kc_bipush_40 ?_
  refine lv_aload_n hx hb dX6_cashed_9 rfl (lv_at hl 0 rfl) ?_
  refine va_get (D := D) (ci := 6) (v := .ref aN) (C := RX6) (T := TX6) (N := 11) hx hb hts i_X6 hown hK.1 hP 0 rfl rfl 0 (by decide) (hts _ wd_811) (fun _ h9 => h9) rfl dX6_cashed_10 ?_
  refine lv_iconst hx hb dX6_cashed_13 kc_iconst_0 ?_
  refine va_iald hx hb hK.1 hP 1 0 rfl rfl (inb_lit (by decide)) dX6_cashed_14 ?_
  refine lv_imul hx hb dX6_cashed_15 ?_
  refine lv_iconst hx hb dX6_cashed_16 kc_iconst_2 ?_
  obtain ⟨q2, h1, hF⟩ := bd1_at hF
  refine rcall (va_runV (As := [.int (0 : Int32), .int ((40 : Int32) * (mN (0 : Int32).toNatClampNeg)), .int (2 : Int32)]) (rest := []) S (K6_ofKind l D cI cZ cS cJ aX aN aP aJ aI aT aD ms ml (0 : Int32) mq mu mN mP mK mI mT mD (0 : Int32) ((40 : Int32) * (mN (0 : Int32).toNatClampNeg)) (2 : Int32) q2 h1) (cwV 3 hts (gd_V wd_1037 wd_1039 wd_48 wd_67 wd_1040) rfl rfl rfl hd6_ofKind ⟨Nat.le_of_ble_eq_true rfl, Nat.le_of_ble_eq_true rfl⟩) (rPreV hK hP (ci := 6) (q := (RX6, TX6, 11)) rfl rfl) rfl rfl hl.1 rfl (lv_room (Nat.le_of_ble_eq_true rfl)) dX6_cashed_17 ⟨(Nat.zero_le _), (Nat.zero_le _)⟩) ?_
  refine lv_i2d hx hb dX6_cashed_20 ?_
  refine lv_dstore_n (lv' := [(1, .double (FP.i2d q2)), (0, .ref aX)]) hx hb dX6_cashed_21 rfl hl (by decide) rfl (fun ls hl => ?_)
  refine lv_aload_n hx hb dX6_cashed_22 rfl (lv_at hl 1 rfl) ?_
  obtain ⟨q4, h3, hF⟩ := bd1_at hF
  refine rcall (va_runV (As := []) (rest := []) S (K6_cheques l D cI cZ cS cJ aX aN aP aJ aI aT aD ms ml (0 : Int32) mq mu mN mP mK mI mT mD q4 h3) (cwV 0 hts (gd_V wd_1049 wd_1051 wd_50 wd_67 wd_1052) rfl rfl rfl hd6_cheques ⟨Nat.le_of_ble_eq_true rfl, Nat.le_of_ble_eq_true rfl⟩) (rPreV hK hP (ci := 6) (q := (RX6, TX6, 11)) rfl rfl) rfl rfl hl.1 rfl (lv_room (Nat.le_of_ble_eq_true rfl)) dX6_cashed_23 ⟨(Nat.zero_le _), (Nat.zero_le _)⟩) ?_
  refine lv_istore_n (lv' := [(3, .int q4), (1, .double (FP.i2d q2)), (0, .ref aX)]) hx hb dX6_cashed_26 rfl hl (by decide) rfl (fun ls hl => ?_)
  refine lv_iload_n hx hb dX6_cashed_27 rfl (lv_at hl 0 rfl) ?_
  refine lv_if_ne (tgt := 35) hx hb dX6_cashed_28 (by decide) (fun c5 => ?_) (fun c5 => ?_)
  · have hF := ite_f c5 hF
    refine lv_dload_n hx hb dX6_cashed_35 rfl (lv_at hl 1 rfl) ?_
    refine lv_iload_n hx hb dX6_cashed_36 rfl (lv_at hl 0 rfl) ?_
    refine lv_i2d hx hb dX6_cashed_37 ?_
    obtain ⟨g6, hF⟩ := gd_at hF
    refine lv_ddiv hx hb dX6_cashed_38 g6 ?_
    cases hF
    exact uretd hx hb hr hlocks hP hS dX6_cashed_39
  · have hF := ite_t c5 hF
    refine lv_dconst0 hx hb dX6_cashed_31 ?_
    refine lv_goto (tgt := 39) hx hb dX6_cashed_32 (by decide) ?_
    cases hF
    exact uretd hx hb hr hlocks hP hS dX6_cashed_39
