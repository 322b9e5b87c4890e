abbrev rm0_firstOf : Room := { frames := 0, cells := 0, slots := 0, locals := 0 }
theorem hd0_firstOf : yX0_firstOf.cls = RX0 ∧ yX0_firstOf.cls ≠ "java/lang/invoke/MethodHandle" ∧ yX0_firstOf.cls ≠ "java/lang/invoke/VarHandle" ∧ (parseMethodDescriptor yX0_firstOf.desc).map (fun d => d.parameters.length) = some 1 := by decide +kernel
set_option maxHeartbeats 4000000 in
set_option maxRecDepth 100000 in
theorem K0_firstOf (l : Launch) (D : va_G) (cI cZ cS cJ : ClassId) (aB aF aZ aK aM : Nat) (bh : Int32) (bF : Nat → Int32) (bZ : Nat → Int32) (bK : Nat → Int32) (bM : Nat → Int32) (x1 : Int32) (r : Int32) (hF : f0_firstOf bF x1 = some (r)) : Met l yX0_firstOf wsX0_firstOf rm0_firstOf (rP D (gT cI cZ cS cJ) (W0 cI aB aF aZ aK aM bh bF bZ bK bM) [.ref aB, .int x1]) (rQ (.int r)) 0 0 (fun _ => False) := by
  refine Met.ofW (cc := cX0_firstOf) (maxL := 2) (ret := (some .int)) (by decide) rfl ?_
  intro p e s m args below meth c s₁ B hml hv
  obtain ⟨ha, hK, hP⟩ := hv
  have hx := B.exec
  have hb := B.bytes
  have hr := B.returns
  have hlocks := B.notSynchronized
  have hts : ∀ w ∈ lw_all, w.before args s = true := fun w h => atoms_spec (ws := wsX0_firstOf) B.pre w (List.mem_cons_of_mem _ h)
  have hown : s.vm.findClass RX0 = some m.cls := findClass_of_methodNamed B.named
  have S : CallFix p m c cX0_firstOf 2 s args lw_all RX0 := ⟨hx, hb, hml, hown, hts⟩
  have hl := lv_entry ([.ref aB, .int x1] : List Value) (n := 2) (Nat.le_of_ble_eq_true rfl)
  refine W.eq (g2 := F0 m 0 ((lg_sl ([.ref aB, .int x1] : List Value) ++ List.replicate (2 - (lg_sl ([.ref aB, .int x1] : List Value)).length) Slot.unset).toArray) []) (by rw [ha]; exact lg_entry_eq _ _ _) ?_
  generalize (lg_sl ([.ref aB, .int x1] : List Value) ++ List.replicate (2 - (lg_sl ([.ref aB, .int x1] : List Value)).length) Slot.unset).toArray = ls at hl ⊢
  have hl : lv_has ls 2 [(0, .ref aB), (1, .int x1)] := hl
  rw [f0_firstOf] at hF
  show rW p l e wsX0_firstOf rm0_firstOf s m args below meth c (.int r) (F0 m 0 ls [])
  refine lv_iload_n hx hb dX0_firstOf_0 rfl (lv_at hl 1 rfl) ?_
  refine lv_if_lt (tgt := 22) hx hb dX0_firstOf_1 (by decide) (fun c1 => ?_) (fun c1 => ?_)
  · rw [if_pos c1] at hF
    refine lv_iconst hx hb dX0_firstOf_22 kc_iconst_m1 ?_
    exact rret hF hx hb hr hlocks dX0_firstOf_23
  · rw [if_neg c1] at hF
    refine lv_iload_n hx hb dX0_firstOf_4 rfl (lv_at hl 1 rfl) ?_
    refine lv_aload_n hx hb dX0_firstOf_5 rfl (lv_at hl 0 rfl) ?_
    refine va_get (D := D) (ci := 0) (v := .ref aF) (C := RX0) (T := TX0) (N := 5) hx hb hts i_X0 hown hK.1 hP 0 rfl rfl 0 (by decide) (hts _ wd_70) (fun _ h9 => h9) rfl dX0_firstOf_6 ?_
    refine va_alen (v := (6 : Int32)) hx hb hK.1 hP 1 0 rfl rfl rfl dX0_firstOf_9 ?_
    refine lv_icmp_ge (tgt := 22) hx hb dX0_firstOf_10 (by decide) (fun c2 => ?_) (fun c2 => ?_)
    · rw [if_pos c2] at hF
      refine lv_iconst hx hb dX0_firstOf_22 kc_iconst_m1 ?_
      exact rret hF hx hb hr hlocks dX0_firstOf_23
    · rw [if_neg c2] at hF
      refine lv_aload_n hx hb dX0_firstOf_13 rfl (lv_at hl 0 rfl) ?_
      refine va_get (D := D) (ci := 0) (v := .ref aF) (C := RX0) (T := TX0) (N := 5) hx hb hts i_X0 hown hK.1 hP 0 rfl rfl 0 (by decide) (hts _ wd_70) (fun _ h9 => h9) rfl dX0_firstOf_14 ?_
      refine lv_iload_n hx hb dX0_firstOf_17 rfl (lv_at hl 1 rfl) ?_
      refine va_iald hx hb hK.1 hP 1 0 rfl rfl (inb_path (N := 6) (n := 6) (by decide) c1 c2) dX0_firstOf_18 ?_
      refine lv_goto (tgt := 23) hx hb dX0_firstOf_19 (by decide) ?_
      exact rret hF hx hb hr hlocks dX0_firstOf_23
abbrev rm0_sizeOf : Room := { frames := 0, cells := 0, slots := 0, locals := 0 }
theorem hd0_sizeOf : yX0_sizeOf.cls = RX0 ∧ yX0_sizeOf.cls ≠ "java/lang/invoke/MethodHandle" ∧ yX0_sizeOf.cls ≠ "java/lang/invoke/VarHandle" ∧ (parseMethodDescriptor yX0_sizeOf.desc).map (fun d => d.parameters.length) = some 1 := by decide +kernel
set_option maxHeartbeats 4000000 in
set_option maxRecDepth 100000 in
theorem K0_sizeOf (l : Launch) (D : va_G) (cI cZ cS cJ : ClassId) (aB aF aZ aK aM : Nat) (bh : Int32) (bF : Nat → Int32) (bZ : Nat → Int32) (bK : Nat → Int32) (bM : Nat → Int32) (x1 : Int32) (r : Int32) (hF : f0_sizeOf bZ x1 = some (r)) : Met l yX0_sizeOf wsX0_sizeOf rm0_sizeOf (rP D (gT cI cZ cS cJ) (W0 cI aB aF aZ aK aM bh bF bZ bK bM) [.ref aB, .int x1]) (rQ (.int r)) 0 0 (fun _ => False) := by
  refine Met.ofW (cc := cX0_sizeOf) (maxL := 2) (ret := (some .int)) (by decide) rfl ?_
  intro p e s m args below meth c s₁ B hml hv
  obtain ⟨ha, hK, hP⟩ := hv
  have hx := B.exec
  have hb := B.bytes
  have hr := B.returns
  have hlocks := B.notSynchronized
  have hts : ∀ w ∈ lw_all, w.before args s = true := fun w h => atoms_spec (ws := wsX0_sizeOf) B.pre w (List.mem_cons_of_mem _ h)
  have hown : s.vm.findClass RX0 = some m.cls := findClass_of_methodNamed B.named
  have S : CallFix p m c cX0_sizeOf 2 s args lw_all RX0 := ⟨hx, hb, hml, hown, hts⟩
  have hl := lv_entry ([.ref aB, .int x1] : List Value) (n := 2) (Nat.le_of_ble_eq_true rfl)
  refine W.eq (g2 := F0 m 0 ((lg_sl ([.ref aB, .int x1] : List Value) ++ List.replicate (2 - (lg_sl ([.ref aB, .int x1] : List Value)).length) Slot.unset).toArray) []) (by rw [ha]; exact lg_entry_eq _ _ _) ?_
  generalize (lg_sl ([.ref aB, .int x1] : List Value) ++ List.replicate (2 - (lg_sl ([.ref aB, .int x1] : List Value)).length) Slot.unset).toArray = ls at hl ⊢
  have hl : lv_has ls 2 [(0, .ref aB), (1, .int x1)] := hl
  rw [f0_sizeOf] at hF
  show rW p l e wsX0_sizeOf rm0_sizeOf s m args below meth c (.int r) (F0 m 0 ls [])
  refine lv_iload_n hx hb dX0_sizeOf_0 rfl (lv_at hl 1 rfl) ?_
  refine lv_if_lt (tgt := 22) hx hb dX0_sizeOf_1 (by decide) (fun c1 => ?_) (fun c1 => ?_)
  · rw [if_pos c1] at hF
    refine lv_iconst hx hb dX0_sizeOf_22 kc_iconst_0 ?_
    exact rret hF hx hb hr hlocks dX0_sizeOf_23
  · rw [if_neg c1] at hF
    refine lv_iload_n hx hb dX0_sizeOf_4 rfl (lv_at hl 1 rfl) ?_
    refine lv_aload_n hx hb dX0_sizeOf_5 rfl (lv_at hl 0 rfl) ?_
    refine va_get (D := D) (ci := 0) (v := .ref aZ) (C := RX0) (T := TX0) (N := 5) hx hb hts i_X0 hown hK.1 hP 0 rfl rfl 1 (by decide) (hts _ wd_71) (fun _ h9 => h9) rfl dX0_sizeOf_6 ?_
    refine va_alen (v := (6 : Int32)) hx hb hK.1 hP 2 0 rfl rfl rfl dX0_sizeOf_9 ?_
    refine lv_icmp_ge (tgt := 22) hx hb dX0_sizeOf_10 (by decide) (fun c2 => ?_) (fun c2 => ?_)
    · rw [if_pos c2] at hF
      refine lv_iconst hx hb dX0_sizeOf_22 kc_iconst_0 ?_
      exact rret hF hx hb hr hlocks dX0_sizeOf_23
    · rw [if_neg c2] at hF
      refine lv_aload_n hx hb dX0_sizeOf_13 rfl (lv_at hl 0 rfl) ?_
      refine va_get (D := D) (ci := 0) (v := .ref aZ) (C := RX0) (T := TX0) (N := 5) hx hb hts i_X0 hown hK.1 hP 0 rfl rfl 1 (by decide) (hts _ wd_71) (fun _ h9 => h9) rfl dX0_sizeOf_14 ?_
      refine lv_iload_n hx hb dX0_sizeOf_17 rfl (lv_at hl 1 rfl) ?_
      refine va_iald hx hb hK.1 hP 2 0 rfl rfl (inb_path (N := 6) (n := 6) (by decide) c1 c2) dX0_sizeOf_18 ?_
      refine lv_goto (tgt := 23) hx hb dX0_sizeOf_19 (by decide) ?_
      exact rret hF hx hb hr hlocks dX0_sizeOf_23
abbrev rm0_canTake : Room := { frames := 1, cells := 0, slots := 0, locals := 21 }
theorem hd0_canTake : yX0_canTake.cls = RX0 ∧ yX0_canTake.cls ≠ "java/lang/invoke/MethodHandle" ∧ yX0_canTake.cls ≠ "java/lang/invoke/VarHandle" ∧ (parseMethodDescriptor yX0_canTake.desc).map (fun d => d.parameters.length) = some 2 := by decide +kernel
set_option maxHeartbeats 4000000 in
set_option maxRecDepth 100000 in
theorem K0_canTake (l : Launch) (D : va_G) (cI cZ cS cJ : ClassId) (aB aF aZ aK aM : Nat) (bh : Int32) (bF : Nat → Int32) (bZ : Nat → Int32) (bK : Nat → Int32) (bM : Nat → Int32) (x1 : Int32) (x2 : Int32) (r : Int32) (hF : f0_canTake bh bF bZ x1 x2 = some (r)) : Met l yX0_canTake wsX0_canTake rm0_canTake (rP D (gT cI cZ cS cJ) (W0 cI aB aF aZ aK aM bh bF bZ bK bM) [.ref aB, .int x1, .int x2]) (rQ (.int r)) 0 0 (fun _ => False) := by
  refine Met.ofW (cc := cX0_canTake) (maxL := 5) (ret := (some .boolean)) (by decide) rfl ?_
  intro p e s m args below meth c s₁ B hml hv
  obtain ⟨ha, hK, hP⟩ := hv
  have hx := B.exec
  have hb := B.bytes
  have hr := B.returns
  have hlocks := B.notSynchronized
  have hts : ∀ w ∈ lw_all, w.before args s = true := fun w h => atoms_spec (ws := wsX0_canTake) B.pre w (List.mem_cons_of_mem _ h)
  have hown : s.vm.findClass RX0 = some m.cls := findClass_of_methodNamed B.named
  have S : CallFix p m c cX0_canTake 5 s args lw_all RX0 := ⟨hx, hb, hml, hown, hts⟩
  have hl := lv_entry ([.ref aB, .int x1, .int x2] : List Value) (n := 5) (Nat.le_of_ble_eq_true rfl)
  refine W.eq (g2 := F0 m 0 ((lg_sl ([.ref aB, .int x1, .int x2] : List Value) ++ List.replicate (5 - (lg_sl ([.ref aB, .int x1, .int x2] : List Value)).length) Slot.unset).toArray) []) (by rw [ha]; exact lg_entry_eq _ _ _) ?_
  generalize (lg_sl ([.ref aB, .int x1, .int x2] : List Value) ++ List.replicate (5 - (lg_sl ([.ref aB, .int x1, .int x2] : List Value)).length) Slot.unset).toArray = ls at hl ⊢
  have hl : lv_has ls 5 [(0, .ref aB), (1, .int x1), (2, .int x2)] := hl
  clear ha
  have W_13 : ∀ (x1 : Int32) (x2 : Int32) (n : Nat) (x3 : Int32), ∀ (ls : Array Slot), lv_has ls 5 [(0, .ref aB), (1, .int x1), (2, .int x2), (3, .int x3)] → f0_canTake_l13 bh bF bZ x1 x2 n x3 = some (r) → rW p l e wsX0_canTake rm0_canTake s m args below meth c (.int r) (F0 m 13 ls []) := by
    intro x1 x2  n
    induction n with
    | zero =>
      intro x3 ls hl hF
      rw [f0_canTake_l13] at hF
      cases hF
    | succ n ih =>
      intro x3 ls hl hF
      rw [f0_canTake_l13] at hF
      refine lv_iload_n hx hb dX0_canTake_13 rfl (lv_at hl 3 rfl) ?_
      refine lv_aload_n hx hb dX0_canTake_14 rfl (lv_at hl 0 rfl) ?_
      refine va_get (D := D) (ci := 0) (v := .int bh) (C := RX0) (T := TX0) (N := 5) hx hb hts i_X0 hown hK.1 hP 0 rfl rfl 4 (by decide) (hts _ wd_74) (fun _ h9 => h9) rfl dX0_canTake_15 ?_
      refine lv_icmp_ge (tgt := 56) hx hb dX0_canTake_18 (by decide) (fun c2 => ?_) (fun c2 => ?_)
      · have hF := ite_t c2 hF
        refine lv_iconst hx hb dX0_canTake_56 kc_iconst_1 ?_
        exact rretz (by decide) hF hx hb hr hlocks dX0_canTake_57
      · have hF := ite_f c2 hF
        refine lv_aload_n hx hb dX0_canTake_21 rfl (lv_at hl 0 rfl) ?_
        refine lv_iload_n hx hb dX0_canTake_22 rfl (lv_at hl 3 rfl) ?_
        obtain ⟨q4, h3, hF⟩ := bd1_at hF
        refine rcall (va_runV (As := [.int x3]) (rest := []) S (K0_firstOf l D cI cZ cS cJ aB aF aZ aK aM bh bF bZ bK bM x3 q4 h3) (cwV 1 hts (gd_V wd_165 wd_166 wd_167 wd_25 wd_168) rfl rfl rfl hd0_firstOf ⟨Nat.le_of_ble_eq_true rfl, Nat.le_of_ble_eq_true rfl⟩) (rPreV hK hP (ci := 0) (q := (RX0, TX0, 5)) rfl rfl) rfl rfl hl.1 rfl (lv_room (Nat.le_of_ble_eq_true rfl)) dX0_canTake_23 ⟨(Nat.zero_le _), (Nat.zero_le _)⟩) ?_
        refine lv_istore (lv' := [(4, .int q4), (0, .ref aB), (1, .int x1), (2, .int x2), (3, .int x3)]) hx hb dX0_canTake_26 hl (by decide) rfl (fun ls hl => ?_)
        refine lv_iload_n hx hb dX0_canTake_28 rfl (lv_at hl 2 rfl) ?_
        refine lv_iload hx hb dX0_canTake_29 (lv_at hl 0 rfl) ?_
        refine lv_aload_n hx hb dX0_canTake_31 rfl (lv_at hl 1 rfl) ?_
        refine lv_iload_n hx hb dX0_canTake_32 rfl (lv_at hl 4 rfl) ?_
        obtain ⟨q6, h5, hF⟩ := bd1_at hF
        refine rcall (va_runV (As := [.int x3]) (rest := [.int q4, .int x1]) S (K0_sizeOf l D cI cZ cS cJ aB aF aZ aK aM bh bF bZ bK bM x3 q6 h5) (cwV 1 hts (gd_V wd_169 wd_170 wd_171 wd_25 wd_172) rfl rfl rfl hd0_sizeOf ⟨Nat.le_of_ble_eq_true rfl, Nat.le_of_ble_eq_true rfl⟩) (rPreV hK hP (ci := 0) (q := (RX0, TX0, 5)) rfl rfl) rfl rfl hl.1 rfl (lv_room (Nat.le_of_ble_eq_true rfl)) dX0_canTake_33 ⟨(Nat.zero_le _), (Nat.zero_le _)⟩) ?_
        refine lv_iadd hx hb dX0_canTake_36 ?_
        refine lv_icmp_ge (tgt := 50) hx hb dX0_canTake_37 (by decide) (fun c7 => ?_) (fun c7 => ?_)
        · have hF := ite_t c7 hF
          refine lv_iinc (v := (x3 + 1)) (lv' := [(3, .int (x3 + 1)), (4, .int q4), (0, .ref aB), (1, .int x1), (2, .int x2)]) hx hb dX0_canTake_50 hl (k := 4) rfl rfl (by decide) rfl (fun ls hl => ?_)
          refine lv_goto (tgt := 13) hx hb dX0_canTake_53 (by decide) ?_
          exact ih (x3 + 1) ls (lv_sub hl [2, 3, 4, 0] rfl) hF
        · have hF := ite_f c7 hF
          refine lv_iload hx hb dX0_canTake_40 (lv_at hl 0 rfl) ?_
          refine lv_iload_n hx hb dX0_canTake_42 rfl (lv_at hl 2 rfl) ?_
          refine lv_iload_n hx hb dX0_canTake_43 rfl (lv_at hl 3 rfl) ?_
          refine lv_iadd hx hb dX0_canTake_44 ?_
          refine lv_icmp_ge (tgt := 50) hx hb dX0_canTake_45 (by decide) (fun c8 => ?_) (fun c8 => ?_)
          · have hF := ite_t c8 hF
            refine lv_iinc (v := (x3 + 1)) (lv' := [(3, .int (x3 + 1)), (4, .int q4), (0, .ref aB), (1, .int x1), (2, .int x2)]) hx hb dX0_canTake_50 hl (k := 4) rfl rfl (by decide) rfl (fun ls hl => ?_)
            refine lv_goto (tgt := 13) hx hb dX0_canTake_53 (by decide) ?_
            exact ih (x3 + 1) ls (lv_sub hl [2, 3, 4, 0] rfl) hF
          · have hF := ite_f c8 hF
            refine lv_iconst hx hb dX0_canTake_48 kc_iconst_0 ?_
            exact rretz (by decide) hF hx hb hr hlocks dX0_canTake_49
  rw [f0_canTake] at hF
  show rW p l e wsX0_canTake rm0_canTake s m args below meth c (.int r) (F0 m 0 ls [])
  refine lv_aload_n hx hb dX0_canTake_0 rfl (lv_at hl 0 rfl) ?_
  refine va_get (D := D) (ci := 0) (v := .int bh) (C := RX0) (T := TX0) (N := 5) hx hb hts i_X0 hown hK.1 hP 0 rfl rfl 4 (by decide) (hts _ wd_74) (fun _ h9 => h9) rfl dX0_canTake_1 ?_
  refine lv_bipush hx hb dX0_canTake_4 kc_bipush_6 ?_
  refine lv_icmp_lt (tgt := 11) hx hb dX0_canTake_6 (by decide) (fun c1 => ?_) (fun c1 => ?_)
  · have hF := ite_t c1 hF
    refine lv_iconst hx hb dX0_canTake_11 kc_iconst_0 ?_
    refine lv_istore_n (lv' := [(3, .int (0 : Int32)), (0, .ref aB), (1, .int x1), (2, .int x2)]) hx hb dX0_canTake_12 rfl hl (by decide) rfl (fun ls hl => ?_)
    exact W_13 x1 x2  fu (0 : Int32) ls (lv_sub hl [1, 2, 3, 0] rfl) hF
  · have hF := ite_f c1 hF
    refine lv_iconst hx hb dX0_canTake_9 kc_iconst_0 ?_
    exact rretz (by decide) hF hx hb hr hlocks dX0_canTake_10
abbrev rm0_setCell : Room := { frames := 0, cells := 0, slots := 0, locals := 0 }
theorem hd0_setCell : yX0_setCell.cls = RX0 ∧ yX0_setCell.cls ≠ "java/lang/invoke/MethodHandle" ∧ yX0_setCell.cls ≠ "java/lang/invoke/VarHandle" ∧ (parseMethodDescriptor yX0_setCell.desc).map (fun d => d.parameters.length) = some 3 := by decide +kernel
set_option maxHeartbeats 4000000 in
set_option maxRecDepth 100000 in
theorem K0_setCell (l : Launch) (D : va_G) (cI cZ cS cJ : ClassId) (aB aF aZ aK aM : Nat) (bh : Int32) (bF : Nat → Int32) (bZ : Nat → Int32) (bK : Nat → Int32) (bM : Nat → Int32) (x1 : Int32) (x2 : Int32) (x3 : Int32) (z_bK : Nat → Int32) (z_bM : Nat → Int32) (hF : f0_setCell bK bM x1 x2 x3 = some (z_bK, z_bM)) : Met l yX0_setCell wsX0_setCell rm0_setCell (uP D (gT cI cZ cS cJ) (W0 cI aB aF aZ aK aM bh bF bZ bK bM) [.ref aB, .int x1, .int x2, .int x3]) (uQ D none (uA (W0 cI aB aF aZ aK aM bh bF bZ bK bM)) (W0 cI aB aF aZ aK aM bh bF bZ z_bK z_bM)) 0 0 (uA (W0 cI aB aF aZ aK aM bh bF bZ bK bM)) := by
  refine Met.ofW (cc := cX0_setCell) (maxL := 4) (ret := none) (by decide) rfl ?_
  intro p e s m args below meth c s₁ B hml hv
  obtain ⟨ha, hK, hP, hD0⟩ := hv
  have hx := B.exec
  have hb := B.bytes
  have hr := B.returns
  have hlocks := B.notSynchronized
  have hts : ∀ w ∈ lw_all, w.before args s = true := fun w h => atoms_spec (ws := wsX0_setCell) B.pre w (List.mem_cons_of_mem _ h)
  have hown : s.vm.findClass RX0 = some m.cls := findClass_of_methodNamed B.named
  have S : CallFix p m c cX0_setCell 4 s args lw_all RX0 := ⟨hx, hb, hml, hown, hts⟩
  have hD := hD0.own
  generalize uA (W0 cI aB aF aZ aK aM bh bF bZ bK bM) = A0 at hD ⊢
  have hS : va_S A0 s.heap s.heap [] := va_S.rf
  have hl := lv_entry ([.ref aB, .int x1, .int x2, .int x3] : List Value) (n := 4) (Nat.le_of_ble_eq_true rfl)
  refine W.eq (g2 := F0 m 0 ((lg_sl ([.ref aB, .int x1, .int x2, .int x3] : List Value) ++ List.replicate (4 - (lg_sl ([.ref aB, .int x1, .int x2, .int x3] : List Value)).length) Slot.unset).toArray) []) (by rw [ha]; exact lg_entry_eq _ _ _) ?_
  generalize (lg_sl ([.ref aB, .int x1, .int x2, .int x3] : List Value) ++ List.replicate (4 - (lg_sl ([.ref aB, .int x1, .int x2, .int x3] : List Value)).length) Slot.unset).toArray = ls at hl ⊢
  have hl : lv_has ls 4 [(0, .ref aB), (1, .int x1), (2, .int x2), (3, .int x3)] := hl
  rw [f0_setCell] at hF
  show uW p l e wsX0_setCell rm0_setCell s m args below meth c D none A0 (W0 cI aB aF aZ aK aM bh bF bZ z_bK z_bM) s.heap [] (F0 m 0 ls [])
  refine lv_iload_n hx hb dX0_setCell_0 rfl (lv_at hl 1 rfl) ?_
  refine lv_if_lt (tgt := 36) hx hb dX0_setCell_1 (by decide) (fun c1 => ?_) (fun c1 => ?_)
  · rw [if_pos c1] at hF; try rw [if_pos c1] at hF
    cases hF
    exact uretv hx hb hr hlocks hP hS dX0_setCell_36
  · rw [if_neg c1] at hF; try rw [if_neg c1] at hF
    refine lv_iload_n hx hb dX0_setCell_4 rfl (lv_at hl 1 rfl) ?_
    refine lv_aload_n hx hb dX0_setCell_5 rfl (lv_at hl 0 rfl) ?_
    refine va_get (D := D) (ci := 0) (v := .ref aK) (C := RX0) (T := TX0) (N := 5) hx hb hts i_X0 hown hK.1 hP 0 rfl rfl 2 (by decide) (hts _ wd_72) (fun _ h9 => h9) rfl dX0_setCell_6 ?_
    refine va_alen (v := (240 : Int32)) hx hb hK.1 hP 3 0 rfl rfl rfl dX0_setCell_9 ?_
    refine lv_icmp_ge (tgt := 36) hx hb dX0_setCell_10 (by decide) (fun c2 => ?_) (fun c2 => ?_)
    · rw [if_pos c2] at hF; try rw [if_pos c2] at hF
      cases hF
      exact uretv hx hb hr hlocks hP hS dX0_setCell_36
    · rw [if_neg c2] at hF; try rw [if_neg c2] at hF
      refine lv_iload_n hx hb dX0_setCell_13 rfl (lv_at hl 1 rfl) ?_
      refine lv_aload_n hx hb dX0_setCell_14 rfl (lv_at hl 0 rfl) ?_
      refine va_get (D := D) (ci := 0) (v := .ref aM) (C := RX0) (T := TX0) (N := 5) hx hb hts i_X0 hown hK.1 hP 0 rfl rfl 3 (by decide) (hts _ wd_73) (fun _ h9 => h9) rfl dX0_setCell_15 ?_
      refine va_alen (v := (240 : Int32)) hx hb hK.1 hP 4 0 rfl rfl rfl dX0_setCell_18 ?_
      refine lv_icmp_ge (tgt := 36) hx hb dX0_setCell_19 (by decide) (fun c3 => ?_) (fun c3 => ?_)
      · exact absurd c3 c2
      · skip
        refine lv_aload_n hx hb dX0_setCell_22 rfl (lv_at hl 0 rfl) ?_
        refine va_get (D := D) (ci := 0) (v := .ref aK) (C := RX0) (T := TX0) (N := 5) hx hb hts i_X0 hown hK.1 hP 0 rfl rfl 2 (by decide) (hts _ wd_72) (fun _ h9 => h9) rfl dX0_setCell_23 ?_
        refine lv_iload_n hx hb dX0_setCell_26 rfl (lv_at hl 1 rfl) ?_
        refine lv_iload_n hx hb dX0_setCell_27 rfl (lv_at hl 2 rfl) ?_
        refine va_iast hx hb hK.1 hP hD hS 3 0 rfl rfl (inb_path (N := 240) (n := 240) (by decide) c1 c2) dX0_setCell_28 (fun H locs hP hD hS => ?_)
        have hP : va_P D vwCl (W0 cI aB aF aZ aK aM bh bF bZ (upd bK x1.toNatClampNeg x2) bM) H := hP
        have hD : va_D A0 (W0 cI aB aF aZ aK aM bh bF bZ (upd bK x1.toNatClampNeg x2) bM) := hD
        refine lv_aload_n hx hb dX0_setCell_29 rfl (lv_at hl 0 rfl) ?_
        refine va_get (D := D) (ci := 0) (v := .ref aM) (C := RX0) (T := TX0) (N := 5) hx hb hts i_X0 hown hK.1 hP 0 rfl rfl 3 (by decide) (hts _ wd_73) (fun _ h9 => h9) rfl dX0_setCell_30 ?_
        refine lv_iload_n hx hb dX0_setCell_33 rfl (lv_at hl 1 rfl) ?_
        refine lv_iload_n hx hb dX0_setCell_34 rfl (lv_at hl 3 rfl) ?_
        refine va_iast hx hb hK.1 hP hD hS 4 0 rfl rfl (inb_path (N := 240) (n := 240) (by decide) c1 c2) dX0_setCell_35 (fun H locs hP hD hS => ?_)
        have hP : va_P D vwCl (W0 cI aB aF aZ aK aM bh bF bZ (upd bK x1.toNatClampNeg x2) (upd bM x1.toNatClampNeg x3)) H := hP
        have hD : va_D A0 (W0 cI aB aF aZ aK aM bh bF bZ (upd bK x1.toNatClampNeg x2) (upd bM x1.toNatClampNeg x3)) := hD
        cases hF
        exact uretv hx hb hr hlocks hP hS dX0_setCell_36
abbrev rm0_add : Room := { frames := 1, cells := 0, slots := 0, locals := 23 }
theorem hd0_add : yX0_add.cls = RX0 ∧ yX0_add.cls ≠ "java/lang/invoke/MethodHandle" ∧ yX0_add.cls ≠ "java/lang/invoke/VarHandle" ∧ (parseMethodDescriptor yX0_add.desc).map (fun d => d.parameters.length) = some 2 := by decide +kernel
set_option maxHeartbeats 4000000 in
set_option maxRecDepth 100000 in
theorem K0_add (l : Launch) (D : va_G) (cI cZ cS cJ : ClassId) (aB aF aZ aK aM : Nat) (bh : Int32) (bF : Nat → Int32) (bZ : Nat → Int32) (bK : Nat → Int32) (bM : Nat → Int32) (x1 : Int32) (x2 : Int32) (r : Int32) (z_bh : Int32) (z_bF : Nat → Int32) (z_bZ : Nat → Int32) (z_bK : Nat → Int32) (z_bM : Nat → Int32) (hF : f0_add bh bF bZ bK bM x1 x2 = some (r, z_bh, z_bF, z_bZ, z_bK, z_bM)) : Met l yX0_add wsX0_add rm0_add (uP D (gT cI cZ cS cJ) (W0 cI aB aF aZ aK aM bh bF bZ bK bM) [.ref aB, .int x1, .int x2]) (uQ D (some (.int r)) (uA (W0 cI aB aF aZ aK aM bh bF bZ bK bM)) (W0 cI aB aF aZ aK aM z_bh z_bF z_bZ z_bK z_bM)) 0 0 (uA (W0 cI aB aF aZ aK aM bh bF bZ bK bM)) := by
  refine Met.ofW (cc := cX0_add) (maxL := 5) (ret := (some .int)) (by decide) rfl ?_
  intro p e s m args below meth c s₁ B hml hv
  obtain ⟨ha, hK, hP, hD0⟩ := hv
  have hx := B.exec
  have hb := B.bytes
  have hr := B.returns
  have hlocks := B.notSynchronized
  have hts : ∀ w ∈ lw_all, w.before args s = true := fun w h => atoms_spec (ws := wsX0_add) B.pre w (List.mem_cons_of_mem _ h)
  have hown : s.vm.findClass RX0 = some m.cls := findClass_of_methodNamed B.named
  have S : CallFix p m c cX0_add 5 s args lw_all RX0 := ⟨hx, hb, hml, hown, hts⟩
  have hD := hD0.own
  generalize uA (W0 cI aB aF aZ aK aM bh bF bZ bK bM) = A0 at hD ⊢
  have hS : va_S A0 s.heap s.heap [] := va_S.rf
  have hl := lv_entry ([.ref aB, .int x1, .int x2] : List Value) (n := 5) (Nat.le_of_ble_eq_true rfl)
  refine W.eq (g2 := F0 m 0 ((lg_sl ([.ref aB, .int x1, .int x2] : List Value) ++ List.replicate (5 - (lg_sl ([.ref aB, .int x1, .int x2] : List Value)).length) Slot.unset).toArray) []) (by rw [ha]; exact lg_entry_eq _ _ _) ?_
  generalize (lg_sl ([.ref aB, .int x1, .int x2] : List Value) ++ List.replicate (5 - (lg_sl ([.ref aB, .int x1, .int x2] : List Value)).length) Slot.unset).toArray = ls at hl ⊢
  have hl : lv_has ls 5 [(0, .ref aB), (1, .int x1), (2, .int x2)] := hl
  clear ha
  have W_46 : ∀ (x2 : Int32) (x3 : Int32) (n : Nat) (x4 : Int32) (bh : Int32) (bF : Nat → Int32) (bZ : Nat → Int32) (bK : Nat → Int32) (bM : Nat → Int32), ∀ (H : Heap) (locs : List Loc), va_P D vwCl (W0 cI aB aF aZ aK aM bh bF bZ bK bM) H → va_D A0 (W0 cI aB aF aZ aK aM bh bF bZ bK bM) → va_S A0 s.heap H locs → ∀ (ls : Array Slot), lv_has ls 5 [(0, .ref aB), (2, .int x2), (3, .int x3), (4, .int x4)] → f0_add_l46 x2 x3 n x4 bh bF bZ bK bM = some (r, z_bh, z_bF, z_bZ, z_bK, z_bM) → uW p l e wsX0_add rm0_add s m args below meth c D (some (.int r)) A0 (W0 cI aB aF aZ aK aM z_bh z_bF z_bZ z_bK z_bM) H locs (F0 m 46 ls []) := by
    intro x2 x3  n
    induction n with
    | zero =>
      intro x4 bh bF bZ bK bM H locs hP hD hS ls hl hF
      rw [f0_add_l46] at hF
      cases hF
    | succ n ih =>
      intro x4 bh bF bZ bK bM H locs hP hD hS ls hl hF
      rw [f0_add_l46] at hF
      refine lv_iload hx hb dX0_add_46 (lv_at hl 3 rfl) ?_
      refine lv_iload_n hx hb dX0_add_48 rfl (lv_at hl 1 rfl) ?_
      refine lv_icmp_ge (tgt := 71) hx hb dX0_add_49 (by decide) (fun c4 => ?_) (fun c4 => ?_)
      · have hF := ite_t c4 hF
        refine lv_aload_n hx hb dX0_add_71 rfl (lv_at hl 0 rfl) ?_
        refine lv_iload_n hx hb dX0_add_72 rfl (lv_at hl 2 rfl) ?_
        refine lv_iconst hx hb dX0_add_73 kc_iconst_1 ?_
        refine lv_iadd hx hb dX0_add_74 ?_
        refine va_put (D := D) (ci := 0) (v := .int (x3 + (1 : Int32))) (ty := .int) (C := RX0) (T := TX0) (N := 5) hx hb hts i_X0 tyX0 tyX0_ok nmX0 hown hK.1 hP hD hS 0 rfl rfl 4 (by decide) (hts _ wd_74) (fun _ h9 => h9) rfl (by decide +kernel) rfl rfl (Nat.le_of_ble_eq_true rfl) dX0_add_75 (fun H locs hP hD hS => ?_)
        have hP : va_P D vwCl (W0 cI aB aF aZ aK aM (x3 + (1 : Int32)) bF bZ bK bM) H := hP
        have hD : va_D A0 (W0 cI aB aF aZ aK aM (x3 + (1 : Int32)) bF bZ bK bM) := hD
        refine lv_iload_n hx hb dX0_add_78 rfl (lv_at hl 2 rfl) ?_
        cases hF
        exact ureti hx hb hr hlocks hP hS dX0_add_79
      · have hF := ite_f c4 hF
        refine lv_aload_n hx hb dX0_add_52 rfl (lv_at hl 0 rfl) ?_
        refine lv_iload_n hx hb dX0_add_53 rfl (lv_at hl 2 rfl) ?_
        refine lv_bipush hx hb dX0_add_54 kc_bipush_40 ?_
        refine lv_imul hx hb dX0_add_56 ?_
        refine lv_iload hx hb dX0_add_57 (lv_at hl 3 rfl) ?_
        refine lv_iadd hx hb dX0_add_59 ?_
        refine lv_iconst hx hb dX0_add_60 kc_iconst_0 ?_
        refine lv_iconst hx hb dX0_add_61 kc_iconst_0 ?_
        obtain ⟨u6, u7, h5, hF⟩ := bd2_at hF
        refine ucallv (ws' := (W0 cI aB aF aZ aK aM bh bF bZ u6 u7)) (va_runV (As := [.int ((x3 * (40 : Int32)) + x4), .int (0 : Int32), .int (0 : Int32)]) (rest := []) S (K0_setCell l D cI cZ cS cJ aB aF aZ aK aM bh bF bZ bK bM ((x3 * (40 : Int32)) + x4) (0 : Int32) (0 : Int32) u6 u7 h5) (cwV 3 hts (gd_V wd_307 wd_309 wd_3 wd_25 wd_310) rfl rfl rfl hd0_setCell ⟨Nat.le_of_ble_eq_true rfl, Nat.le_of_ble_eq_true rfl⟩) (uPreV hK hP hD (ci := 0) (q := (RX0, TX0, 5)) rfl rfl) rfl rfl hl.1 rfl (lv_room (Nat.le_of_ble_eq_true rfl)) dX0_add_62 ⟨(Nat.zero_le _), (Nat.zero_le _)⟩) hS hP hD [0, 1, 2, 3, 4] rfl rfl rfl rfl (fun H locs hP hD hS => ?_)
        refine lv_iinc (v := (x4 + 1)) (lv' := [(4, .int (x4 + 1)), (0, .ref aB), (2, .int x2), (3, .int x3)]) hx hb dX0_add_65 hl (k := 3) rfl rfl (by decide) rfl (fun ls hl => ?_)
        refine lv_goto (tgt := 46) hx hb dX0_add_68 (by decide) ?_
        exact ih (x4 + 1) bh bF bZ u6 u7 _ _ hP hD hS ls (lv_sub hl [1, 2, 3, 0] rfl) hF
  rw [f0_add] at hF
  show uW p l e wsX0_add rm0_add s m args below meth c D (some (.int r)) A0 (W0 cI aB aF aZ aK aM z_bh z_bF z_bZ z_bK z_bM) s.heap [] (F0 m 0 ls [])
  refine lv_aload_n hx hb dX0_add_0 rfl (lv_at hl 0 rfl) ?_
  refine va_get (D := D) (ci := 0) (v := .int bh) (C := RX0) (T := TX0) (N := 5) hx hb hts i_X0 hown hK.1 hP 0 rfl rfl 4 (by decide) (hts _ wd_74) (fun _ h9 => h9) rfl dX0_add_1 ?_
  refine lv_istore_n (lv' := [(3, .int bh), (0, .ref aB), (1, .int x1), (2, .int x2)]) hx hb dX0_add_4 rfl hl (by decide) rfl (fun ls hl => ?_)
  refine lv_iload_n hx hb dX0_add_5 rfl (lv_at hl 0 rfl) ?_
  refine lv_if_lt (tgt := 27) hx hb dX0_add_6 (by decide) (fun c1 => ?_) (fun c1 => ?_)
  · have hF := ite_t c1 hF
    refine lv_iconst hx hb dX0_add_27 kc_iconst_m1 ?_
    cases hF
    exact ureti hx hb hr hlocks hP hS dX0_add_28
  · have hF := ite_f c1 hF
    refine lv_iload_n hx hb dX0_add_9 rfl (lv_at hl 0 rfl) ?_
    refine lv_aload_n hx hb dX0_add_10 rfl (lv_at hl 1 rfl) ?_
    refine va_get (D := D) (ci := 0) (v := .ref aF) (C := RX0) (T := TX0) (N := 5) hx hb hts i_X0 hown hK.1 hP 0 rfl rfl 0 (by decide) (hts _ wd_70) (fun _ h9 => h9) rfl dX0_add_11 ?_
    refine va_alen (v := (6 : Int32)) hx hb hK.1 hP 1 0 rfl rfl rfl dX0_add_14 ?_
    refine lv_icmp_ge (tgt := 27) hx hb dX0_add_15 (by decide) (fun c2 => ?_) (fun c2 => ?_)
    · have hF := ite_t c2 hF
      refine lv_iconst hx hb dX0_add_27 kc_iconst_m1 ?_
      cases hF
      exact ureti hx hb hr hlocks hP hS dX0_add_28
    · have hF := ite_f c2 hF
      refine lv_iload_n hx hb dX0_add_18 rfl (lv_at hl 0 rfl) ?_
      refine lv_aload_n hx hb dX0_add_19 rfl (lv_at hl 1 rfl) ?_
      refine va_get (D := D) (ci := 0) (v := .ref aZ) (C := RX0) (T := TX0) (N := 5) hx hb hts i_X0 hown hK.1 hP 0 rfl rfl 1 (by decide) (hts _ wd_71) (fun _ h9 => h9) rfl dX0_add_20 ?_
      refine va_alen (v := (6 : Int32)) hx hb hK.1 hP 2 0 rfl rfl rfl dX0_add_23 ?_
      refine lv_icmp_lt (tgt := 29) hx hb dX0_add_24 (by decide) (fun c3 => ?_) (fun c3 => ?_)
      · have hF := ite_t c3 hF
        refine lv_aload_n hx hb dX0_add_29 rfl (lv_at hl 1 rfl) ?_
        refine va_get (D := D) (ci := 0) (v := .ref aF) (C := RX0) (T := TX0) (N := 5) hx hb hts i_X0 hown hK.1 hP 0 rfl rfl 0 (by decide) (hts _ wd_70) (fun _ h9 => h9) rfl dX0_add_30 ?_
        refine lv_iload_n hx hb dX0_add_33 rfl (lv_at hl 0 rfl) ?_
        refine lv_iload_n hx hb dX0_add_34 rfl (lv_at hl 2 rfl) ?_
        refine va_iast hx hb hK.1 hP hD hS 1 0 rfl rfl (inb_path (N := 6) (n := 6) (by decide) c1 c2) dX0_add_35 (fun H locs hP hD hS => ?_)
        have hP : va_P D vwCl (W0 cI aB aF aZ aK aM bh (upd bF bh.toNatClampNeg x1) bZ bK bM) H := hP
        have hD : va_D A0 (W0 cI aB aF aZ aK aM bh (upd bF bh.toNatClampNeg x1) bZ bK bM) := hD
        refine lv_aload_n hx hb dX0_add_36 rfl (lv_at hl 1 rfl) ?_
        refine va_get (D := D) (ci := 0) (v := .ref aZ) (C := RX0) (T := TX0) (N := 5) hx hb hts i_X0 hown hK.1 hP 0 rfl rfl 1 (by decide) (hts _ wd_71) (fun _ h9 => h9) rfl dX0_add_37 ?_
        refine lv_iload_n hx hb dX0_add_40 rfl (lv_at hl 0 rfl) ?_
        refine lv_iload_n hx hb dX0_add_41 rfl (lv_at hl 3 rfl) ?_
        refine va_iast hx hb hK.1 hP hD hS 2 0 rfl rfl (inb_path (N := 6) (n := 6) (by decide) c1 c2) dX0_add_42 (fun H locs hP hD hS => ?_)
        have hP : va_P D vwCl (W0 cI aB aF aZ aK aM bh (upd bF bh.toNatClampNeg x1) (upd bZ bh.toNatClampNeg x2) bK bM) H := hP
        have hD : va_D A0 (W0 cI aB aF aZ aK aM bh (upd bF bh.toNatClampNeg x1) (upd bZ bh.toNatClampNeg x2) bK bM) := hD
        refine lv_iconst hx hb dX0_add_43 kc_iconst_0 ?_
        refine lv_istore (lv' := [(4, .int (0 : Int32)), (3, .int bh), (0, .ref aB), (1, .int x1), (2, .int x2)]) hx hb dX0_add_44 hl (by decide) rfl (fun ls hl => ?_)
        exact W_46 x2 bh  fu (0 : Int32) bh (upd bF bh.toNatClampNeg x1) (upd bZ bh.toNatClampNeg x2) bK bM _ _ hP hD hS ls (lv_sub hl [2, 4, 1, 0] rfl) hF
      · have hF := ite_f c3 hF
        refine lv_iconst hx hb dX0_add_27 kc_iconst_m1 ?_
        cases hF
        exact ureti hx hb hr hlocks hP hS dX0_add_28
abbrev rm0_cellOf : Room := { frames := 1, cells := 0, slots := 0, locals := 21 }
theorem hd0_cellOf : yX0_cellOf.cls = RX0 ∧ yX0_cellOf.cls ≠ "java/lang/invoke/MethodHandle" ∧ yX0_cellOf.cls ≠ "java/lang/invoke/VarHandle" ∧ (parseMethodDescriptor yX0_cellOf.desc).map (fun d => d.parameters.length) = some 1 := by decide +kernel
set_option maxHeartbeats 4000000 in
set_option maxRecDepth 100000 in
theorem K0_cellOf (l : Launch) (D : va_G) (cI cZ cS cJ : ClassId) (aB aF aZ aK aM : Nat) (bh : Int32) (bF : Nat → Int32) (bZ : Nat → Int32) (bK : Nat → Int32) (bM : Nat → Int32) (x1 : Int32) (r : Int32) (hF : f0_cellOf bh bF bZ x1 = some (r)) : Met l yX0_cellOf wsX0_cellOf rm0_cellOf (rP D (gT cI cZ cS cJ) (W0 cI aB aF aZ aK aM bh bF bZ bK bM) [.ref aB, .int x1]) (rQ (.int r)) 0 0 (fun _ => False) := by
  refine Met.ofW (cc := cX0_cellOf) (maxL := 4) (ret := (some .int)) (by decide) rfl ?_
  intro p e s m args below meth c s₁ B hml hv
  obtain ⟨ha, hK, hP⟩ := hv
  have hx := B.exec
  have hb := B.bytes
  have hr := B.returns
  have hlocks := B.notSynchronized
  have hts : ∀ w ∈ lw_all, w.before args s = true := fun w h => atoms_spec (ws := wsX0_cellOf) B.pre w (List.mem_cons_of_mem _ h)
  have hown : s.vm.findClass RX0 = some m.cls := findClass_of_methodNamed B.named
  have S : CallFix p m c cX0_cellOf 4 s args lw_all RX0 := ⟨hx, hb, hml, hown, hts⟩
  have hl := lv_entry ([.ref aB, .int x1] : List Value) (n := 4) (Nat.le_of_ble_eq_true rfl)
  refine W.eq (g2 := F0 m 0 ((lg_sl ([.ref aB, .int x1] : List Value) ++ List.replicate (4 - (lg_sl ([.ref aB, .int x1] : List Value)).length) Slot.unset).toArray) []) (by rw [ha]; exact lg_entry_eq _ _ _) ?_
  generalize (lg_sl ([.ref aB, .int x1] : List Value) ++ List.replicate (4 - (lg_sl ([.ref aB, .int x1] : List Value)).length) Slot.unset).toArray = ls at hl ⊢
  have hl : lv_has ls 4 [(0, .ref aB), (1, .int x1)] := hl
  clear ha
  have W_2 : ∀ (x1 : Int32) (n : Nat) (x2 : Int32), ∀ (ls : Array Slot), lv_has ls 4 [(0, .ref aB), (1, .int x1), (2, .int x2)] → f0_cellOf_l2 bh bF bZ x1 n x2 = some (r) → rW p l e wsX0_cellOf rm0_cellOf s m args below meth c (.int r) (F0 m 2 ls []) := by
    intro x1  n
    induction n with
    | zero =>
      intro x2 ls hl hF
      rw [f0_cellOf_l2] at hF
      cases hF
    | succ n ih =>
      intro x2 ls hl hF
      rw [f0_cellOf_l2] at hF
      refine lv_iload_n hx hb dX0_cellOf_2 rfl (lv_at hl 2 rfl) ?_
      refine lv_aload_n hx hb dX0_cellOf_3 rfl (lv_at hl 0 rfl) ?_
      refine va_get (D := D) (ci := 0) (v := .int bh) (C := RX0) (T := TX0) (N := 5) hx hb hts i_X0 hown hK.1 hP 0 rfl rfl 4 (by decide) (hts _ wd_74) (fun _ h9 => h9) rfl dX0_cellOf_4 ?_
      refine lv_icmp_ge (tgt := 47) hx hb dX0_cellOf_7 (by decide) (fun c1 => ?_) (fun c1 => ?_)
      · have hF := ite_t c1 hF
        refine lv_iconst hx hb dX0_cellOf_47 kc_iconst_m1 ?_
        exact rret hF hx hb hr hlocks dX0_cellOf_48
      · have hF := ite_f c1 hF
        refine lv_aload_n hx hb dX0_cellOf_10 rfl (lv_at hl 0 rfl) ?_
        refine lv_iload_n hx hb dX0_cellOf_11 rfl (lv_at hl 2 rfl) ?_
        obtain ⟨q3, h2, hF⟩ := bd1_at hF
        refine rcall (va_runV (As := [.int x2]) (rest := []) S (K0_firstOf l D cI cZ cS cJ aB aF aZ aK aM bh bF bZ bK bM x2 q3 h2) (cwV 1 hts (gd_V wd_165 wd_166 wd_167 wd_25 wd_168) rfl rfl rfl hd0_firstOf ⟨Nat.le_of_ble_eq_true rfl, Nat.le_of_ble_eq_true rfl⟩) (rPreV hK hP (ci := 0) (q := (RX0, TX0, 5)) rfl rfl) rfl rfl hl.1 rfl (lv_room (Nat.le_of_ble_eq_true rfl)) dX0_cellOf_12 ⟨(Nat.zero_le _), (Nat.zero_le _)⟩) ?_
        refine lv_istore_n (lv' := [(3, .int q3), (0, .ref aB), (1, .int x1), (2, .int x2)]) hx hb dX0_cellOf_15 rfl hl (by decide) rfl (fun ls hl => ?_)
        refine lv_iload_n hx hb dX0_cellOf_16 rfl (lv_at hl 2 rfl) ?_
        refine lv_iload_n hx hb dX0_cellOf_17 rfl (lv_at hl 0 rfl) ?_
        refine lv_icmp_lt (tgt := 41) hx hb dX0_cellOf_18 (by decide) (fun c4 => ?_) (fun c4 => ?_)
        · have hF := ite_t c4 hF
          refine lv_iinc (v := (x2 + 1)) (lv' := [(2, .int (x2 + 1)), (3, .int q3), (0, .ref aB), (1, .int x1)]) hx hb dX0_cellOf_41 hl (k := 3) rfl rfl (by decide) rfl (fun ls hl => ?_)
          refine lv_goto (tgt := 2) hx hb dX0_cellOf_44 (by decide) ?_
          exact ih (x2 + 1) ls (lv_sub hl [2, 3, 0] rfl) hF
        · have hF := ite_f c4 hF
          refine lv_iload_n hx hb dX0_cellOf_21 rfl (lv_at hl 2 rfl) ?_
          refine lv_iload_n hx hb dX0_cellOf_22 rfl (lv_at hl 0 rfl) ?_
          refine lv_aload_n hx hb dX0_cellOf_23 rfl (lv_at hl 1 rfl) ?_
          refine lv_iload_n hx hb dX0_cellOf_24 rfl (lv_at hl 3 rfl) ?_
          obtain ⟨q6, h5, hF⟩ := bd1_at hF
          refine rcall (va_runV (As := [.int x2]) (rest := [.int q3, .int x1]) S (K0_sizeOf l D cI cZ cS cJ aB aF aZ aK aM bh bF bZ bK bM x2 q6 h5) (cwV 1 hts (gd_V wd_169 wd_170 wd_171 wd_25 wd_172) rfl rfl rfl hd0_sizeOf ⟨Nat.le_of_ble_eq_true rfl, Nat.le_of_ble_eq_true rfl⟩) (rPreV hK hP (ci := 0) (q := (RX0, TX0, 5)) rfl rfl) rfl rfl hl.1 rfl (lv_room (Nat.le_of_ble_eq_true rfl)) dX0_cellOf_25 ⟨(Nat.zero_le _), (Nat.zero_le _)⟩) ?_
          refine lv_iadd hx hb dX0_cellOf_28 ?_
          refine lv_icmp_ge (tgt := 41) hx hb dX0_cellOf_29 (by decide) (fun c7 => ?_) (fun c7 => ?_)
          · have hF := ite_t c7 hF
            refine lv_iinc (v := (x2 + 1)) (lv' := [(2, .int (x2 + 1)), (3, .int q3), (0, .ref aB), (1, .int x1)]) hx hb dX0_cellOf_41 hl (k := 3) rfl rfl (by decide) rfl (fun ls hl => ?_)
            refine lv_goto (tgt := 2) hx hb dX0_cellOf_44 (by decide) ?_
            exact ih (x2 + 1) ls (lv_sub hl [2, 3, 0] rfl) hF
          · have hF := ite_f c7 hF
            refine lv_iload_n hx hb dX0_cellOf_32 rfl (lv_at hl 3 rfl) ?_
            refine lv_bipush hx hb dX0_cellOf_33 kc_bipush_40 ?_
            refine lv_imul hx hb dX0_cellOf_35 ?_
            refine lv_iload_n hx hb dX0_cellOf_36 rfl (lv_at hl 2 rfl) ?_
            refine lv_iadd hx hb dX0_cellOf_37 ?_
            refine lv_iload_n hx hb dX0_cellOf_38 rfl (lv_at hl 0 rfl) ?_
            refine lv_isub hx hb dX0_cellOf_39 ?_
            exact rret hF hx hb hr hlocks dX0_cellOf_40
  rw [f0_cellOf] at hF
  show rW p l e wsX0_cellOf rm0_cellOf s m args below meth c (.int r) (F0 m 0 ls [])
  refine lv_iconst hx hb dX0_cellOf_0 kc_iconst_0 ?_
  refine lv_istore_n (lv' := [(2, .int (0 : Int32)), (0, .ref aB), (1, .int x1)]) hx hb dX0_cellOf_1 rfl hl (by decide) rfl (fun ls hl => ?_)
  exact W_2 x1  fu (0 : Int32) ls (lv_sub hl [1, 2, 0] rfl) hF
abbrev rm0_kindAt : Room := { frames := 0, cells := 0, slots := 0, locals := 0 }
theorem hd0_kindAt : yX0_kindAt.cls = RX0 ∧ yX0_kindAt.cls ≠ "java/lang/invoke/MethodHandle" ∧ yX0_kindAt.cls ≠ "java/lang/invoke/VarHandle" ∧ (parseMethodDescriptor yX0_kindAt.desc).map (fun d => d.parameters.length) = some 1 := by decide +kernel
set_option maxHeartbeats 4000000 in
set_option maxRecDepth 100000 in
theorem K0_kindAt (l : Launch) (D : va_G) (cI cZ cS cJ : ClassId) (aB aF aZ aK aM : Nat) (bh : Int32) (bF : Nat → Int32) (bZ : Nat → Int32) (bK : Nat → Int32) (bM : Nat → Int32) (x1 : Int32) (r : Int32) (hF : f0_kindAt bK x1 = some (r)) : Met l yX0_kindAt wsX0_kindAt rm0_kindAt (rP D (gT cI cZ cS cJ) (W0 cI aB aF aZ aK aM bh bF bZ bK bM) [.ref aB, .int x1]) (rQ (.int r)) 0 0 (fun _ => False) := by
  refine Met.ofW (cc := cX0_kindAt) (maxL := 2) (ret := (some .int)) (by decide) rfl ?_
  intro p e s m args below meth c s₁ B hml hv
  obtain ⟨ha, hK, hP⟩ := hv
  have hx := B.exec
  have hb := B.bytes
  have hr := B.returns
  have hlocks := B.notSynchronized
  have hts : ∀ w ∈ lw_all, w.before args s = true := fun w h => atoms_spec (ws := wsX0_kindAt) B.pre w (List.mem_cons_of_mem _ h)
  have hown : s.vm.findClass RX0 = some m.cls := findClass_of_methodNamed B.named
  have S : CallFix p m c cX0_kindAt 2 s args lw_all RX0 := ⟨hx, hb, hml, hown, hts⟩
  have hl := lv_entry ([.ref aB, .int x1] : List Value) (n := 2) (Nat.le_of_ble_eq_true rfl)
  refine W.eq (g2 := F0 m 0 ((lg_sl ([.ref aB, .int x1] : List Value) ++ List.replicate (2 - (lg_sl ([.ref aB, .int x1] : List Value)).length) Slot.unset).toArray) []) (by rw [ha]; exact lg_entry_eq _ _ _) ?_
  generalize (lg_sl ([.ref aB, .int x1] : List Value) ++ List.replicate (2 - (lg_sl ([.ref aB, .int x1] : List Value)).length) Slot.unset).toArray = ls at hl ⊢
  have hl : lv_has ls 2 [(0, .ref aB), (1, .int x1)] := hl
  rw [f0_kindAt] at hF
  show rW p l e wsX0_kindAt rm0_kindAt s m args below meth c (.int r) (F0 m 0 ls [])
  refine lv_iload_n hx hb dX0_kindAt_0 rfl (lv_at hl 1 rfl) ?_
  refine lv_if_lt (tgt := 22) hx hb dX0_kindAt_1 (by decide) (fun c1 => ?_) (fun c1 => ?_)
  · rw [if_pos c1] at hF
    refine lv_iconst hx hb dX0_kindAt_22 kc_iconst_m1 ?_
    exact rret hF hx hb hr hlocks dX0_kindAt_23
  · rw [if_neg c1] at hF
    refine lv_iload_n hx hb dX0_kindAt_4 rfl (lv_at hl 1 rfl) ?_
    refine lv_aload_n hx hb dX0_kindAt_5 rfl (lv_at hl 0 rfl) ?_
    refine va_get (D := D) (ci := 0) (v := .ref aK) (C := RX0) (T := TX0) (N := 5) hx hb hts i_X0 hown hK.1 hP 0 rfl rfl 2 (by decide) (hts _ wd_72) (fun _ h9 => h9) rfl dX0_kindAt_6 ?_
    refine va_alen (v := (240 : Int32)) hx hb hK.1 hP 3 0 rfl rfl rfl dX0_kindAt_9 ?_
    refine lv_icmp_ge (tgt := 22) hx hb dX0_kindAt_10 (by decide) (fun c2 => ?_) (fun c2 => ?_)
    · rw [if_pos c2] at hF
      refine lv_iconst hx hb dX0_kindAt_22 kc_iconst_m1 ?_
      exact rret hF hx hb hr hlocks dX0_kindAt_23
    · rw [if_neg c2] at hF
      refine lv_aload_n hx hb dX0_kindAt_13 rfl (lv_at hl 0 rfl) ?_
      refine va_get (D := D) (ci := 0) (v := .ref aK) (C := RX0) (T := TX0) (N := 5) hx hb hts i_X0 hown hK.1 hP 0 rfl rfl 2 (by decide) (hts _ wd_72) (fun _ h9 => h9) rfl dX0_kindAt_14 ?_
      refine lv_iload_n hx hb dX0_kindAt_17 rfl (lv_at hl 1 rfl) ?_
      refine va_iald hx hb hK.1 hP 3 0 rfl rfl (inb_path (N := 240) (n := 240) (by decide) c1 c2) dX0_kindAt_18 ?_
      refine lv_goto (tgt := 23) hx hb dX0_kindAt_19 (by decide) ?_
      exact rret hF hx hb hr hlocks dX0_kindAt_23
abbrev rm0_amountAt : Room := { frames := 0, cells := 0, slots := 0, locals := 0 }
theorem hd0_amountAt : yX0_amountAt.cls = RX0 ∧ yX0_amountAt.cls ≠ "java/lang/invoke/MethodHandle" ∧ yX0_amountAt.cls ≠ "java/lang/invoke/VarHandle" ∧ (parseMethodDescriptor yX0_amountAt.desc).map (fun d => d.parameters.length) = some 1 := by decide +kernel
set_option maxHeartbeats 4000000 in
set_option maxRecDepth 100000 in
theorem K0_amountAt (l : Launch) (D : va_G) (cI cZ cS cJ : ClassId) (aB aF aZ aK aM : Nat) (bh : Int32) (bF : Nat → Int32) (bZ : Nat → Int32) (bK : Nat → Int32) (bM : Nat → Int32) (x1 : Int32) (r : Int32) (hF : f0_amountAt bM x1 = some (r)) : Met l yX0_amountAt wsX0_amountAt rm0_amountAt (rP D (gT cI cZ cS cJ) (W0 cI aB aF aZ aK aM bh bF bZ bK bM) [.ref aB, .int x1]) (rQ (.int r)) 0 0 (fun _ => False) := by
  refine Met.ofW (cc := cX0_amountAt) (maxL := 2) (ret := (some .int)) (by decide) rfl ?_
  intro p e s m args below meth c s₁ B hml hv
  obtain ⟨ha, hK, hP⟩ := hv
  have hx := B.exec
  have hb := B.bytes
  have hr := B.returns
  have hlocks := B.notSynchronized
  have hts : ∀ w ∈ lw_all, w.before args s = true := fun w h => atoms_spec (ws := wsX0_amountAt) B.pre w (List.mem_cons_of_mem _ h)
  have hown : s.vm.findClass RX0 = some m.cls := findClass_of_methodNamed B.named
  have S : CallFix p m c cX0_amountAt 2 s args lw_all RX0 := ⟨hx, hb, hml, hown, hts⟩
  have hl := lv_entry ([.ref aB, .int x1] : List Value) (n := 2) (Nat.le_of_ble_eq_true rfl)
  refine W.eq (g2 := F0 m 0 ((lg_sl ([.ref aB, .int x1] : List Value) ++ List.replicate (2 - (lg_sl ([.ref aB, .int x1] : List Value)).length) Slot.unset).toArray) []) (by rw [ha]; exact lg_entry_eq _ _ _) ?_
  generalize (lg_sl ([.ref aB, .int x1] : List Value) ++ List.replicate (2 - (lg_sl ([.ref aB, .int x1] : List Value)).length) Slot.unset).toArray = ls at hl ⊢
  have hl : lv_has ls 2 [(0, .ref aB), (1, .int x1)] := hl
  rw [f0_amountAt] at hF
  show rW p l e wsX0_amountAt rm0_amountAt s m args below meth c (.int r) (F0 m 0 ls [])
  refine lv_iload_n hx hb dX0_amountAt_0 rfl (lv_at hl 1 rfl) ?_
  refine lv_if_lt (tgt := 22) hx hb dX0_amountAt_1 (by decide) (fun c1 => ?_) (fun c1 => ?_)
  · rw [if_pos c1] at hF
    refine lv_iconst hx hb dX0_amountAt_22 kc_iconst_0 ?_
    exact rret hF hx hb hr hlocks dX0_amountAt_23
  · rw [if_neg c1] at hF
    refine lv_iload_n hx hb dX0_amountAt_4 rfl (lv_at hl 1 rfl) ?_
    refine lv_aload_n hx hb dX0_amountAt_5 rfl (lv_at hl 0 rfl) ?_
    refine va_get (D := D) (ci := 0) (v := .ref aM) (C := RX0) (T := TX0) (N := 5) hx hb hts i_X0 hown hK.1 hP 0 rfl rfl 3 (by decide) (hts _ wd_73) (fun _ h9 => h9) rfl dX0_amountAt_6 ?_
    refine va_alen (v := (240 : Int32)) hx hb hK.1 hP 4 0 rfl rfl rfl dX0_amountAt_9 ?_
    refine lv_icmp_ge (tgt := 22) hx hb dX0_amountAt_10 (by decide) (fun c2 => ?_) (fun c2 => ?_)
    · rw [if_pos c2] at hF
      refine lv_iconst hx hb dX0_amountAt_22 kc_iconst_0 ?_
      exact rret hF hx hb hr hlocks dX0_amountAt_23
    · rw [if_neg c2] at hF
      refine lv_aload_n hx hb dX0_amountAt_13 rfl (lv_at hl 0 rfl) ?_
      refine va_get (D := D) (ci := 0) (v := .ref aM) (C := RX0) (T := TX0) (N := 5) hx hb hts i_X0 hown hK.1 hP 0 rfl rfl 3 (by decide) (hts _ wd_73) (fun _ h9 => h9) rfl dX0_amountAt_14 ?_
      refine lv_iload_n hx hb dX0_amountAt_17 rfl (lv_at hl 1 rfl) ?_
      refine va_iald hx hb hK.1 hP 4 0 rfl rfl (inb_path (N := 240) (n := 240) (by decide) c1 c2) dX0_amountAt_18 ?_
      refine lv_goto (tgt := 23) hx hb dX0_amountAt_19 (by decide) ?_
      exact rret hF hx hb hr hlocks dX0_amountAt_23
abbrev rm0_makeWritten : Room := { frames := 1, cells := 0, slots := 0, locals := 23 }
theorem hd0_makeWritten : yX0_makeWritten.cls = RX0 ∧ yX0_makeWritten.cls ≠ "java/lang/invoke/MethodHandle" ∧ yX0_makeWritten.cls ≠ "java/lang/invoke/VarHandle" ∧ (parseMethodDescriptor yX0_makeWritten.desc).map (fun d => d.parameters.length) = some 2 := by decide +kernel
set_option maxHeartbeats 4000000 in
set_option maxRecDepth 100000 in
theorem K0_makeWritten (l : Launch) (D : va_G) (cI cZ cS cJ : ClassId) (aB aF aZ aK aM : Nat) (bh : Int32) (bF : Nat → Int32) (bZ : Nat → Int32) (bK : Nat → Int32) (bM : Nat → Int32) (x1 : Int32) (x2 : Int32) (z_bK : Nat → Int32) (z_bM : Nat → Int32) (hF : f0_makeWritten bK bM x1 x2 = some (z_bK, z_bM)) : Met l yX0_makeWritten wsX0_makeWritten rm0_makeWritten (uP D (gT cI cZ cS cJ) (W0 cI aB aF aZ aK aM bh bF bZ bK bM) [.ref aB, .int x1, .int x2]) (uQ D none (uA (W0 cI aB aF aZ aK aM bh bF bZ bK bM)) (W0 cI aB aF aZ aK aM bh bF bZ z_bK z_bM)) 0 0 (uA (W0 cI aB aF aZ aK aM bh bF bZ bK bM)) := by
  refine Met.ofW (cc := cX0_makeWritten) (maxL := 3) (ret := none) (by decide) rfl ?_
  intro p e s m args below meth c s₁ B hml hv
  obtain ⟨ha, hK, hP, hD0⟩ := hv
  have hx := B.exec
  have hb := B.bytes
  have hr := B.returns
  have hlocks := B.notSynchronized
  have hts : ∀ w ∈ lw_all, w.before args s = true := fun w h => atoms_spec (ws := wsX0_makeWritten) B.pre w (List.mem_cons_of_mem _ h)
  have hown : s.vm.findClass RX0 = some m.cls := findClass_of_methodNamed B.named
  have S : CallFix p m c cX0_makeWritten 3 s args lw_all RX0 := ⟨hx, hb, hml, hown, hts⟩
  have hD := hD0.own
  generalize uA (W0 cI aB aF aZ aK aM bh bF bZ bK bM) = A0 at hD ⊢
  have hS : va_S A0 s.heap s.heap [] := va_S.rf
  have hl := lv_entry ([.ref aB, .int x1, .int x2] : List Value) (n := 3) (Nat.le_of_ble_eq_true rfl)
  refine W.eq (g2 := F0 m 0 ((lg_sl ([.ref aB, .int x1, .int x2] : List Value) ++ List.replicate (3 - (lg_sl ([.ref aB, .int x1, .int x2] : List Value)).length) Slot.unset).toArray) []) (by rw [ha]; exact lg_entry_eq _ _ _) ?_
  generalize (lg_sl ([.ref aB, .int x1, .int x2] : List Value) ++ List.replicate (3 - (lg_sl ([.ref aB, .int x1, .int x2] : List Value)).length) Slot.unset).toArray = ls at hl ⊢
  have hl : lv_has ls 3 [(0, .ref aB), (1, .int x1), (2, .int x2)] := hl
  rw [f0_makeWritten] at hF
  show uW p l e wsX0_makeWritten rm0_makeWritten s m args below meth c D none A0 (W0 cI aB aF aZ aK aM bh bF bZ z_bK z_bM) s.heap [] (F0 m 0 ls [])
  refine lv_aload_n hx hb dX0_makeWritten_0 rfl (lv_at hl 0 rfl) ?_
  refine lv_iload_n hx hb dX0_makeWritten_1 rfl (lv_at hl 1 rfl) ?_
  refine lv_iconst hx hb dX0_makeWritten_2 kc_iconst_1 ?_
  refine lv_iload_n hx hb dX0_makeWritten_3 rfl (lv_at hl 2 rfl) ?_
  obtain ⟨u2, u3, h1, hF⟩ := bd2_at hF
  refine ucallv (ws' := (W0 cI aB aF aZ aK aM bh bF bZ u2 u3)) (va_runV (As := [.int x1, .int (1 : Int32), .int x2]) (rest := []) S (K0_setCell l D cI cZ cS cJ aB aF aZ aK aM bh bF bZ bK bM x1 (1 : Int32) x2 u2 u3 h1) (cwV 3 hts (gd_V wd_307 wd_309 wd_3 wd_25 wd_310) rfl rfl rfl hd0_setCell ⟨Nat.le_of_ble_eq_true rfl, Nat.le_of_ble_eq_true rfl⟩) (uPreV hK hP hD (ci := 0) (q := (RX0, TX0, 5)) rfl rfl) rfl rfl hl.1 rfl (lv_room (Nat.le_of_ble_eq_true rfl)) dX0_makeWritten_4 ⟨(Nat.zero_le _), (Nat.zero_le _)⟩) hS hP hD [0, 1, 2, 3, 4] rfl rfl rfl rfl (fun H locs hP hD hS => ?_)
  cases hF
  exact uretv hx hb hr hlocks hP hS dX0_makeWritten_7
abbrev rm0_makeCashed : Room := { frames := 1, cells := 0, slots := 0, locals := 23 }
theorem hd0_makeCashed : yX0_makeCashed.cls = RX0 ∧ yX0_makeCashed.cls ≠ "java/lang/invoke/MethodHandle" ∧ yX0_makeCashed.cls ≠ "java/lang/invoke/VarHandle" ∧ (parseMethodDescriptor yX0_makeCashed.desc).map (fun d => d.parameters.length) = some 1 := by decide +kernel
set_option maxHeartbeats 4000000 in
set_option maxRecDepth 100000 in
theorem K0_makeCashed (l : Launch) (D : va_G) (cI cZ cS cJ : ClassId) (aB aF aZ aK aM : Nat) (bh : Int32) (bF : Nat → Int32) (bZ : Nat → Int32) (bK : Nat → Int32) (bM : Nat → Int32) (x1 : Int32) (z_bK : Nat → Int32) (z_bM : Nat → Int32) (hF : f0_makeCashed bK bM x1 = some (z_bK, z_bM)) : Met l yX0_makeCashed wsX0_makeCashed rm0_makeCashed (uP D (gT cI cZ cS cJ) (W0 cI aB aF aZ aK aM bh bF bZ bK bM) [.ref aB, .int x1]) (uQ D none (uA (W0 cI aB aF aZ aK aM bh bF bZ bK bM)) (W0 cI aB aF aZ aK aM bh bF bZ z_bK z_bM)) 0 0 (uA (W0 cI aB aF aZ aK aM bh bF bZ bK bM)) := by
  refine Met.ofW (cc := cX0_makeCashed) (maxL := 2) (ret := none) (by decide) rfl ?_
  intro p e s m args below meth c s₁ B hml hv
  obtain ⟨ha, hK, hP, hD0⟩ := hv
  have hx := B.exec
  have hb := B.bytes
  have hr := B.returns
  have hlocks := B.notSynchronized
  have hts : ∀ w ∈ lw_all, w.before args s = true := fun w h => atoms_spec (ws := wsX0_makeCashed) B.pre w (List.mem_cons_of_mem _ h)
  have hown : s.vm.findClass RX0 = some m.cls := findClass_of_methodNamed B.named
  have S : CallFix p m c cX0_makeCashed 2 s args lw_all RX0 := ⟨hx, hb, hml, hown, hts⟩
  have hD := hD0.own
  generalize uA (W0 cI aB aF aZ aK aM bh bF bZ bK bM) = A0 at hD ⊢
  have hS : va_S A0 s.heap s.heap [] := va_S.rf
  have hl := lv_entry ([.ref aB, .int x1] : List Value) (n := 2) (Nat.le_of_ble_eq_true rfl)
  refine W.eq (g2 := F0 m 0 ((lg_sl ([.ref aB, .int x1] : List Value) ++ List.replicate (2 - (lg_sl ([.ref aB, .int x1] : List Value)).length) Slot.unset).toArray) []) (by rw [ha]; exact lg_entry_eq _ _ _) ?_
  generalize (lg_sl ([.ref aB, .int x1] : List Value) ++ List.replicate (2 - (lg_sl ([.ref aB, .int x1] : List Value)).length) Slot.unset).toArray = ls at hl ⊢
  have hl : lv_has ls 2 [(0, .ref aB), (1, .int x1)] := hl
  rw [f0_makeCashed] at hF
  show uW p l e wsX0_makeCashed rm0_makeCashed s m args below meth c D none A0 (W0 cI aB aF aZ aK aM bh bF bZ z_bK z_bM) s.heap [] (F0 m 0 ls [])
  refine lv_aload_n hx hb dX0_makeCashed_0 rfl (lv_at hl 0 rfl) ?_
  refine lv_iload_n hx hb dX0_makeCashed_1 rfl (lv_at hl 1 rfl) ?_
  refine lv_iconst hx hb dX0_makeCashed_2 kc_iconst_2 ?_
  refine lv_aload_n hx hb dX0_makeCashed_3 rfl (lv_at hl 0 rfl) ?_
  refine lv_iload_n hx hb dX0_makeCashed_4 rfl (lv_at hl 1 rfl) ?_
  obtain ⟨q2, h1, hF⟩ := bd1_at hF
  refine rcall (va_runV (As := [.int x1]) (rest := [.int (2 : Int32), .int x1, .ref aB]) S (K0_amountAt l D cI cZ cS cJ aB aF aZ aK aM bh bF bZ bK bM x1 q2 h1) (cwV 1 hts (gd_V wd_370 wd_371 wd_372 wd_25 wd_373) rfl rfl rfl hd0_amountAt ⟨Nat.le_of_ble_eq_true rfl, Nat.le_of_ble_eq_true rfl⟩) (rPreV hK hP (ci := 0) (q := (RX0, TX0, 5)) rfl rfl) rfl rfl hl.1 rfl (lv_room (Nat.le_of_ble_eq_true rfl)) dX0_makeCashed_5 ⟨(Nat.zero_le _), (Nat.zero_le _)⟩) ?_
  obtain ⟨u4, u5, h3, hF⟩ := bd2_at hF
  refine ucallv (ws' := (W0 cI aB aF aZ aK aM bh bF bZ u4 u5)) (va_runV (As := [.int x1, .int (2 : Int32), .int q2]) (rest := []) S (K0_setCell l D cI cZ cS cJ aB aF aZ aK aM bh bF bZ bK bM x1 (2 : Int32) q2 u4 u5 h3) (cwV 3 hts (gd_V wd_307 wd_309 wd_3 wd_25 wd_310) rfl rfl rfl hd0_setCell ⟨Nat.le_of_ble_eq_true rfl, Nat.le_of_ble_eq_true rfl⟩) (uPreV hK hP hD (ci := 0) (q := (RX0, TX0, 5)) rfl rfl) rfl rfl hl.1 rfl (lv_room (Nat.le_of_ble_eq_true rfl)) dX0_makeCashed_8 ⟨(Nat.zero_le _), (Nat.zero_le _)⟩) hS hP hD [0, 1, 2, 3, 4] rfl rfl rfl rfl (fun H locs hP hD hS => ?_)
  cases hF
  exact uretv hx hb hr hlocks hP hS dX0_makeCashed_11
abbrev rm0_makeVoid : Room := { frames := 1, cells := 0, slots := 0, locals := 23 }
theorem hd0_makeVoid : yX0_makeVoid.cls = RX0 ∧ yX0_makeVoid.cls ≠ "java/lang/invoke/MethodHandle" ∧ yX0_makeVoid.cls ≠ "java/lang/invoke/VarHandle" ∧ (parseMethodDescriptor yX0_makeVoid.desc).map (fun d => d.parameters.length) = some 1 := by decide +kernel
set_option maxHeartbeats 4000000 in
set_option maxRecDepth 100000 in
theorem K0_makeVoid (l : Launch) (D : va_G) (cI cZ cS cJ : ClassId) (aB aF aZ aK aM : Nat) (bh : Int32) (bF : Nat → Int32) (bZ : Nat → Int32) (bK : Nat → Int32) (bM : Nat → Int32) (x1 : Int32) (r : Int32) (z_bK : Nat → Int32) (z_bM : Nat → Int32) (hF : f0_makeVoid bK bM x1 = some (r, z_bK, z_bM)) : Met l yX0_makeVoid wsX0_makeVoid rm0_makeVoid (uP D (gT cI cZ cS cJ) (W0 cI aB aF aZ aK aM bh bF bZ bK bM) [.ref aB, .int x1]) (uQ D (some (.int r)) (uA (W0 cI aB aF aZ aK aM bh bF bZ bK bM)) (W0 cI aB aF aZ aK aM bh bF bZ z_bK z_bM)) 0 0 (uA (W0 cI aB aF aZ aK aM bh bF bZ bK bM)) := by
  refine Met.ofW (cc := cX0_makeVoid) (maxL := 3) (ret := (some .int)) (by decide) rfl ?_
  intro p e s m args below meth c s₁ B hml hv
  obtain ⟨ha, hK, hP, hD0⟩ := hv
  have hx := B.exec
  have hb := B.bytes
  have hr := B.returns
  have hlocks := B.notSynchronized
  have hts : ∀ w ∈ lw_all, w.before args s = true := fun w h => atoms_spec (ws := wsX0_makeVoid) B.pre w (List.mem_cons_of_mem _ h)
  have hown : s.vm.findClass RX0 = some m.cls := findClass_of_methodNamed B.named
  have S : CallFix p m c cX0_makeVoid 3 s args lw_all RX0 := ⟨hx, hb, hml, hown, hts⟩
  have hD := hD0.own
  generalize uA (W0 cI aB aF aZ aK aM bh bF bZ bK bM) = A0 at hD ⊢
  have hS : va_S A0 s.heap s.heap [] := va_S.rf
  have hl := lv_entry ([.ref aB, .int x1] : List Value) (n := 3) (Nat.le_of_ble_eq_true rfl)
  refine W.eq (g2 := F0 m 0 ((lg_sl ([.ref aB, .int x1] : List Value) ++ List.replicate (3 - (lg_sl ([.ref aB, .int x1] : List Value)).length) Slot.unset).toArray) []) (by rw [ha]; exact lg_entry_eq _ _ _) ?_
  generalize (lg_sl ([.ref aB, .int x1] : List Value) ++ List.replicate (3 - (lg_sl ([.ref aB, .int x1] : List Value)).length) Slot.unset).toArray = ls at hl ⊢
  have hl : lv_has ls 3 [(0, .ref aB), (1, .int x1)] := hl
  clear ha
  have W_17 : ∀ (bK : Nat → Int32) (bM : Nat → Int32) (x1 : Int32), ∀ (H : Heap) (locs : List Loc), va_P D vwCl (W0 cI aB aF aZ aK aM bh bF bZ bK bM) H → va_D A0 (W0 cI aB aF aZ aK aM bh bF bZ bK bM) → va_S A0 s.heap H locs → ∀ (ls : Array Slot), lv_has ls 3 [(0, .ref aB), (1, .int x1)] → f0_makeVoid_j17 bK bM x1 = some (r, z_bK, z_bM) → uW p l e wsX0_makeVoid rm0_makeVoid s m args below meth c D (some (.int r)) A0 (W0 cI aB aF aZ aK aM bh bF bZ z_bK z_bM) H locs (F0 m 17 ls []) := by
    intro bK bM x1  H locs hP hD hS ls hl hF
    rw [f0_makeVoid_j17] at hF
    refine lv_aload_n hx hb dX0_makeVoid_17 rfl (lv_at hl 0 rfl) ?_
    refine lv_iload_n hx hb dX0_makeVoid_18 rfl (lv_at hl 1 rfl) ?_
    refine lv_iconst hx hb dX0_makeVoid_19 kc_iconst_3 ?_
    refine lv_iconst hx hb dX0_makeVoid_20 kc_iconst_0 ?_
    obtain ⟨u6, u7, h5, hF⟩ := bd2_at hF
    refine ucallv (ws' := (W0 cI aB aF aZ aK aM bh bF bZ u6 u7)) (va_runV (As := [.int x1, .int (3 : Int32), .int (0 : Int32)]) (rest := []) S (K0_setCell l D cI cZ cS cJ aB aF aZ aK aM bh bF bZ bK bM x1 (3 : Int32) (0 : Int32) u6 u7 h5) (cwV 3 hts (gd_V wd_307 wd_309 wd_3 wd_25 wd_310) rfl rfl rfl hd0_setCell ⟨Nat.le_of_ble_eq_true rfl, Nat.le_of_ble_eq_true rfl⟩) (uPreV hK hP hD (ci := 0) (q := (RX0, TX0, 5)) rfl rfl) rfl rfl hl.1 rfl (lv_room (Nat.le_of_ble_eq_true rfl)) dX0_makeVoid_21 ⟨(Nat.zero_le _), (Nat.zero_le _)⟩) hS hP hD [0, 1, 2, 3, 4] rfl rfl rfl rfl (fun H locs hP hD hS => ?_)
    refine lv_iconst hx hb dX0_makeVoid_24 kc_iconst_1 ?_
    cases hF
    exact ureti hx hb hr hlocks hP hS dX0_makeVoid_25
  rw [f0_makeVoid] at hF
  show uW p l e wsX0_makeVoid rm0_makeVoid s m args below meth c D (some (.int r)) A0 (W0 cI aB aF aZ aK aM bh bF bZ z_bK z_bM) s.heap [] (F0 m 0 ls [])
  refine lv_aload_n hx hb dX0_makeVoid_0 rfl (lv_at hl 0 rfl) ?_
  refine lv_iload_n hx hb dX0_makeVoid_1 rfl (lv_at hl 1 rfl) ?_
  obtain ⟨q2, h1, hF⟩ := bd1_at hF
  refine rcall (va_runV (As := [.int x1]) (rest := []) S (K0_kindAt l D cI cZ cS cJ aB aF aZ aK aM bh bF bZ bK bM x1 q2 h1) (cwV 1 hts (gd_V wd_431 wd_324 wd_325 wd_25 wd_326) rfl rfl rfl hd0_kindAt ⟨Nat.le_of_ble_eq_true rfl, Nat.le_of_ble_eq_true rfl⟩) (rPreV hK hP (ci := 0) (q := (RX0, TX0, 5)) rfl rfl) rfl rfl hl.1 rfl (lv_room (Nat.le_of_ble_eq_true rfl)) dX0_makeVoid_2 ⟨(Nat.zero_le _), (Nat.zero_le _)⟩) ?_
  refine lv_istore_n (lv' := [(2, .int q2), (0, .ref aB), (1, .int x1)]) hx hb dX0_makeVoid_5 rfl hl (by decide) rfl (fun ls hl => ?_)
  refine lv_iload_n hx hb dX0_makeVoid_6 rfl (lv_at hl 0 rfl) ?_
  refine lv_if_eq (tgt := 17) hx hb dX0_makeVoid_7 (by decide) (fun c3 => ?_) (fun c3 => ?_)
  · have hF := ite_t c3 hF
    exact W_17 bK bM x1  _ _ hP hD hS ls (lv_sub hl [1, 2] rfl) hF
  · have hF := ite_f c3 hF
    refine lv_iload_n hx hb dX0_makeVoid_10 rfl (lv_at hl 0 rfl) ?_
    refine lv_iconst hx hb dX0_makeVoid_11 kc_iconst_1 ?_
    refine lv_icmp_eq (tgt := 17) hx hb dX0_makeVoid_12 (by decide) (fun c4 => ?_) (fun c4 => ?_)
    · have hF := ite_t c4 hF
      exact W_17 bK bM x1  _ _ hP hD hS ls (lv_sub hl [1, 2] rfl) hF
    · have hF := ite_f c4 hF
      refine lv_iconst hx hb dX0_makeVoid_15 kc_iconst_0 ?_
      cases hF
      exact ureti hx hb hr hlocks hP hS dX0_makeVoid_16
abbrev rm0_makeRunVoid : Room := { frames := 2, cells := 0, slots := 0, locals := 45 }
theorem hd0_makeRunVoid : yX0_makeRunVoid.cls = RX0 ∧ yX0_makeRunVoid.cls ≠ "java/lang/invoke/MethodHandle" ∧ yX0_makeRunVoid.cls ≠ "java/lang/invoke/VarHandle" ∧ (parseMethodDescriptor yX0_makeRunVoid.desc).map (fun d => d.parameters.length) = some 2 := by decide +kernel
set_option maxHeartbeats 4000000 in
set_option maxRecDepth 100000 in
theorem K0_makeRunVoid (l : Launch) (D : va_G) (cI cZ cS cJ : ClassId) (aB aF aZ aK aM : Nat) (bh : Int32) (bF : Nat → Int32) (bZ : Nat → Int32) (bK : Nat → Int32) (bM : Nat → Int32) (x1 : Int32) (x2 : Int32) (r : Int32) (z_bK : Nat → Int32) (z_bM : Nat → Int32) (hF : f0_makeRunVoid bh bF bZ bK bM x1 x2 = some (r, z_bK, z_bM)) : Met l yX0_makeRunVoid wsX0_makeRunVoid rm0_makeRunVoid (uP D (gT cI cZ cS cJ) (W0 cI aB aF aZ aK aM bh bF bZ bK bM) [.ref aB, .int x1, .int x2]) (uQ D (some (.int r)) (uA (W0 cI aB aF aZ aK aM bh bF bZ bK bM)) (W0 cI aB aF aZ aK aM bh bF bZ z_bK z_bM)) 0 0 (uA (W0 cI aB aF aZ aK aM bh bF bZ bK bM)) := by
  refine Met.ofW (cc := cX0_makeRunVoid) (maxL := 8) (ret := (some .int)) (by decide) rfl ?_
  intro p e s m args below meth c s₁ B hml hv
  obtain ⟨ha, hK, hP, hD0⟩ := hv
  have hx := B.exec
  have hb := B.bytes
  have hr := B.returns
  have hlocks := B.notSynchronized
  have hts : ∀ w ∈ lw_all, w.before args s = true := fun w h => atoms_spec (ws := wsX0_makeRunVoid) B.pre w (List.mem_cons_of_mem _ h)
  have hown : s.vm.findClass RX0 = some m.cls := findClass_of_methodNamed B.named
  have S : CallFix p m c cX0_makeRunVoid 8 s args lw_all RX0 := ⟨hx, hb, hml, hown, hts⟩
  have hD := hD0.own
  generalize uA (W0 cI aB aF aZ aK aM bh bF bZ bK bM) = A0 at hD ⊢
  have hS : va_S A0 s.heap s.heap [] := va_S.rf
  have hl := lv_entry ([.ref aB, .int x1, .int x2] : List Value) (n := 8) (Nat.le_of_ble_eq_true rfl)
  refine W.eq (g2 := F0 m 0 ((lg_sl ([.ref aB, .int x1, .int x2] : List Value) ++ List.replicate (8 - (lg_sl ([.ref aB, .int x1, .int x2] : List Value)).length) Slot.unset).toArray) []) (by rw [ha]; exact lg_entry_eq _ _ _) ?_
  generalize (lg_sl ([.ref aB, .int x1, .int x2] : List Value) ++ List.replicate (8 - (lg_sl ([.ref aB, .int x1, .int x2] : List Value)).length) Slot.unset).toArray = ls at hl ⊢
  have hl : lv_has ls 8 [(0, .ref aB), (1, .int x1), (2, .int x2)] := hl
  clear ha
  have W_47 : ∀ (x1 : Int32) (x2 : Int32) (x4 : Int32) (x5 : Int32) (x6 : Int32) (k5 : Int32 → Int32 → (Nat → Int32) → (Nat → Int32) → Option (Int32 × (Nat → Int32) × (Nat → Int32))) (hk5 : ∀ (x3 : Int32) (x4 : Int32) (bK : Nat → Int32) (bM : Nat → Int32), ∀ (H : Heap) (locs : List Loc), va_P D vwCl (W0 cI aB aF aZ aK aM bh bF bZ bK bM) H → va_D A0 (W0 cI aB aF aZ aK aM bh bF bZ bK bM) → va_S A0 s.heap H locs → ∀ (ls : Array Slot), lv_has ls 8 [(0, .ref aB), (1, .int x1), (2, .int x2), (3, .int x3), (4, .int x4)] → k5 x3 x4 bK bM = some (r, z_bK, z_bM) → uW p l e wsX0_makeRunVoid rm0_makeRunVoid s m args below meth c D (some (.int r)) A0 (W0 cI aB aF aZ aK aM bh bF bZ z_bK z_bM) H locs (F0 m 5 ls [])) (n : Nat) (x3 : Int32) (x7 : Int32) (bK : Nat → Int32) (bM : Nat → Int32), ∀ (H : Heap) (locs : List Loc), va_P D vwCl (W0 cI aB aF aZ aK aM bh bF bZ bK bM) H → va_D A0 (W0 cI aB aF aZ aK aM bh bF bZ bK bM) → va_S A0 s.heap H locs → ∀ (ls : Array Slot), lv_has ls 8 [(0, .ref aB), (1, .int x1), (2, .int x2), (3, .int x3), (4, .int x4), (5, .int x5), (6, .int x6), (7, .int x7)] → f0_makeRunVoid_l47 k5 bh bF bZ x1 x2 x4 x5 x6 n x3 x7 bK bM = some (r, z_bK, z_bM) → uW p l e wsX0_makeRunVoid rm0_makeRunVoid s m args below meth c D (some (.int r)) A0 (W0 cI aB aF aZ aK aM bh bF bZ z_bK z_bM) H locs (F0 m 47 ls []) := by
    intro x1 x2 x4 x5 x6 k5 hk5 n
    induction n with
    | zero =>
      intro x3 x7 bK bM H locs hP hD hS ls hl hF
      rw [f0_makeRunVoid_l47] at hF
      cases hF
    | succ n ih =>
      intro x3 x7 bK bM H locs hP hD hS ls hl hF
      rw [f0_makeRunVoid_l47] at hF
      refine lv_iload hx hb dX0_makeRunVoid_47 (lv_at hl 7 rfl) ?_
      refine lv_iload hx hb dX0_makeRunVoid_49 (lv_at hl 6 rfl) ?_
      refine lv_icmp_gt (tgt := 78) hx hb dX0_makeRunVoid_51 (by decide) (fun c8 => ?_) (fun c8 => ?_)
      · have hF := ite_t c8 hF
        refine lv_iinc (v := (x4 + 1)) (lv' := [(4, .int (x4 + 1)), (0, .ref aB), (1, .int x1), (2, .int x2), (3, .int x3), (5, .int x5), (6, .int x6), (7, .int x7)]) hx hb dX0_makeRunVoid_78 hl (k := 4) rfl rfl (by decide) rfl (fun ls hl => ?_)
        refine lv_goto (tgt := 5) hx hb dX0_makeRunVoid_81 (by decide) ?_
        exact hk5 x3 (x4 + 1) bK bM _ _ hP hD hS ls (lv_sub hl [1, 2, 3, 4, 0] rfl) hF
      · have hF := ite_f c8 hF
        refine lv_iload_n hx hb dX0_makeRunVoid_54 rfl (lv_at hl 3 rfl) ?_
        refine lv_aload_n hx hb dX0_makeRunVoid_55 rfl (lv_at hl 0 rfl) ?_
        refine lv_iload hx hb dX0_makeRunVoid_56 (lv_at hl 4 rfl) ?_
        refine lv_bipush hx hb dX0_makeRunVoid_58 kc_bipush_40 ?_
        refine lv_imul hx hb dX0_makeRunVoid_60 ?_
        refine lv_iload hx hb dX0_makeRunVoid_61 (lv_at hl 7 rfl) ?_
        refine lv_iadd hx hb dX0_makeRunVoid_63 ?_
        refine lv_iload hx hb dX0_makeRunVoid_64 (lv_at hl 5 rfl) ?_
        refine lv_isub hx hb dX0_makeRunVoid_66 ?_
        obtain ⟨q10, u11, u12, h9, hF⟩ := bd3_at hF
        refine ucalli (ws' := (W0 cI aB aF aZ aK aM bh bF bZ u11 u12)) (va_runV (As := [.int (((x4 * (40 : Int32)) + x7) - x5)]) (rest := [.int x3]) S (K0_makeVoid l D cI cZ cS cJ aB aF aZ aK aM bh bF bZ bK bM (((x4 * (40 : Int32)) + x7) - x5) q10 u11 u12 h9) (cwV 1 hts (gd_V wd_489 wd_491 wd_10 wd_25 wd_492) rfl rfl rfl hd0_makeVoid ⟨Nat.le_of_ble_eq_true rfl, Nat.le_of_ble_eq_true rfl⟩) (uPreV hK hP hD (ci := 0) (q := (RX0, TX0, 5)) rfl rfl) rfl rfl hl.1 rfl (lv_room (Nat.le_of_ble_eq_true rfl)) dX0_makeRunVoid_67 ⟨(Nat.zero_le _), (Nat.zero_le _)⟩) hS hP hD [0, 1, 2, 3, 4] rfl rfl rfl rfl (fun H locs hP hD hS => ?_)
        refine lv_iadd hx hb dX0_makeRunVoid_70 ?_
        refine lv_istore_n (lv' := [(3, .int (x3 + q10)), (0, .ref aB), (1, .int x1), (2, .int x2), (4, .int x4), (5, .int x5), (6, .int x6), (7, .int x7)]) hx hb dX0_makeRunVoid_71 rfl hl (by decide) rfl (fun ls hl => ?_)
        refine lv_iinc (v := (x7 + 1)) (lv' := [(7, .int (x7 + 1)), (3, .int (x3 + q10)), (0, .ref aB), (1, .int x1), (2, .int x2), (4, .int x4), (5, .int x5), (6, .int x6)]) hx hb dX0_makeRunVoid_72 hl (k := 7) rfl rfl (by decide) rfl (fun ls hl => ?_)
        refine lv_goto (tgt := 47) hx hb dX0_makeRunVoid_75 (by decide) ?_
        exact ih (x3 + q10) (x7 + 1) u11 u12 _ _ hP hD hS ls (lv_sub hl [2, 3, 4, 1, 5, 6, 7, 0] rfl) hF
  have W_5 : ∀ (x1 : Int32) (x2 : Int32) (n : Nat) (x3 : Int32) (x4 : Int32) (bK : Nat → Int32) (bM : Nat → Int32), ∀ (H : Heap) (locs : List Loc), va_P D vwCl (W0 cI aB aF aZ aK aM bh bF bZ bK bM) H → va_D A0 (W0 cI aB aF aZ aK aM bh bF bZ bK bM) → va_S A0 s.heap H locs → ∀ (ls : Array Slot), lv_has ls 8 [(0, .ref aB), (1, .int x1), (2, .int x2), (3, .int x3), (4, .int x4)] → f0_makeRunVoid_l5 bh bF bZ x1 x2 n x3 x4 bK bM = some (r, z_bK, z_bM) → uW p l e wsX0_makeRunVoid rm0_makeRunVoid s m args below meth c D (some (.int r)) A0 (W0 cI aB aF aZ aK aM bh bF bZ z_bK z_bM) H locs (F0 m 5 ls []) := by
    intro x1 x2  n
    induction n with
    | zero =>
      intro x3 x4 bK bM H locs hP hD hS ls hl hF
      rw [f0_makeRunVoid_l5] at hF
      cases hF
    | succ n ih =>
      intro x3 x4 bK bM H locs hP hD hS ls hl hF
      rw [f0_makeRunVoid_l5] at hF
      refine lv_iload hx hb dX0_makeRunVoid_5 (lv_at hl 4 rfl) ?_
      refine lv_aload_n hx hb dX0_makeRunVoid_7 rfl (lv_at hl 0 rfl) ?_
      refine va_get (D := D) (ci := 0) (v := .int bh) (C := RX0) (T := TX0) (N := 5) hx hb hts i_X0 hown hK.1 hP 0 rfl rfl 4 (by decide) (hts _ wd_74) (fun _ h9 => h9) rfl dX0_makeRunVoid_8 ?_
      refine lv_icmp_ge (tgt := 84) hx hb dX0_makeRunVoid_11 (by decide) (fun c1 => ?_) (fun c1 => ?_)
      · have hF := ite_t c1 hF
        refine lv_iload_n hx hb dX0_makeRunVoid_84 rfl (lv_at hl 3 rfl) ?_
        cases hF
        exact ureti hx hb hr hlocks hP hS dX0_makeRunVoid_85
      · have hF := ite_f c1 hF
        refine lv_aload_n hx hb dX0_makeRunVoid_14 rfl (lv_at hl 0 rfl) ?_
        refine lv_iload hx hb dX0_makeRunVoid_15 (lv_at hl 4 rfl) ?_
        obtain ⟨q3, h2, hF⟩ := bd1_at hF
        refine rcall (va_runV (As := [.int x4]) (rest := []) S (K0_firstOf l D cI cZ cS cJ aB aF aZ aK aM bh bF bZ bK bM x4 q3 h2) (cwV 1 hts (gd_V wd_165 wd_166 wd_167 wd_25 wd_168) rfl rfl rfl hd0_firstOf ⟨Nat.le_of_ble_eq_true rfl, Nat.le_of_ble_eq_true rfl⟩) (rPreV hK hP (ci := 0) (q := (RX0, TX0, 5)) rfl rfl) rfl rfl hl.1 rfl (lv_room (Nat.le_of_ble_eq_true rfl)) dX0_makeRunVoid_17 ⟨(Nat.zero_le _), (Nat.zero_le _)⟩) ?_
        refine lv_istore (lv' := [(5, .int q3), (0, .ref aB), (1, .int x1), (2, .int x2), (3, .int x3), (4, .int x4)]) hx hb dX0_makeRunVoid_20 hl (by decide) rfl (fun ls hl => ?_)
        refine lv_iload_n hx hb dX0_makeRunVoid_22 rfl (lv_at hl 3 rfl) ?_
        refine lv_iload hx hb dX0_makeRunVoid_23 (lv_at hl 0 rfl) ?_
        refine lv_aload_n hx hb dX0_makeRunVoid_25 rfl (lv_at hl 1 rfl) ?_
        refine lv_iload hx hb dX0_makeRunVoid_26 (lv_at hl 5 rfl) ?_
        obtain ⟨q5, h4, hF⟩ := bd1_at hF
        refine rcall (va_runV (As := [.int x4]) (rest := [.int q3, .int x2]) S (K0_sizeOf l D cI cZ cS cJ aB aF aZ aK aM bh bF bZ bK bM x4 q5 h4) (cwV 1 hts (gd_V wd_169 wd_170 wd_171 wd_25 wd_172) rfl rfl rfl hd0_sizeOf ⟨Nat.le_of_ble_eq_true rfl, Nat.le_of_ble_eq_true rfl⟩) (rPreV hK hP (ci := 0) (q := (RX0, TX0, 5)) rfl rfl) rfl rfl hl.1 rfl (lv_room (Nat.le_of_ble_eq_true rfl)) dX0_makeRunVoid_28 ⟨(Nat.zero_le _), (Nat.zero_le _)⟩) ?_
        refine lv_iadd hx hb dX0_makeRunVoid_31 ?_
        refine lv_iconst hx hb dX0_makeRunVoid_32 kc_iconst_1 ?_
        refine lv_isub hx hb dX0_makeRunVoid_33 ?_
        refine va_mmin hx hb (hml.trans hl.1.symm) hown (hts _ wd_483) (hts _ wd_484) (hts _ wd_34) (hts _ wd_485) (Nat.le_of_ble_eq_true rfl) (Nat.le_of_ble_eq_true rfl) (Nat.zero_le _) (Nat.zero_le _) dX0_makeRunVoid_34 ?_
        refine lv_topi (fun t6 e7 => ?_)
        have hF := lt_at e7 hF
        refine lv_istore (lv' := [(6, .int t6), (5, .int q3), (0, .ref aB), (1, .int x1), (2, .int x2), (3, .int x3), (4, .int x4)]) hx hb dX0_makeRunVoid_37 hl (by decide) rfl (fun ls hl => ?_)
        refine lv_iload_n hx hb dX0_makeRunVoid_39 rfl (lv_at hl 3 rfl) ?_
        refine lv_iload hx hb dX0_makeRunVoid_40 (lv_at hl 1 rfl) ?_
        refine va_mmax hx hb (hml.trans hl.1.symm) hown (hts _ wd_486) (hts _ wd_487) (hts _ wd_34) (hts _ wd_488) (Nat.le_of_ble_eq_true rfl) (Nat.le_of_ble_eq_true rfl) (Nat.zero_le _) (Nat.zero_le _) dX0_makeRunVoid_42 ?_
        refine lv_istore (lv' := [(7, .int (if x1 < q3 then q3 else x1)), (6, .int t6), (5, .int q3), (0, .ref aB), (1, .int x1), (2, .int x2), (3, .int x3), (4, .int x4)]) hx hb dX0_makeRunVoid_45 hl (by decide) rfl (fun ls hl => ?_)
        exact W_47 x1 x2 x4 q3 t6 (f0_makeRunVoid_l5 bh bF bZ x1 x2 n) ih fu x3 (if x1 < q3 then q3 else x1) bK bM _ _ hP hD hS ls (lv_sub hl [3, 4, 5, 6, 7, 2, 1, 0] rfl) hF
  rw [f0_makeRunVoid] at hF
  show uW p l e wsX0_makeRunVoid rm0_makeRunVoid s m args below meth c D (some (.int r)) A0 (W0 cI aB aF aZ aK aM bh bF bZ z_bK z_bM) s.heap [] (F0 m 0 ls [])
  refine lv_iconst hx hb dX0_makeRunVoid_0 kc_iconst_0 ?_
  refine lv_istore_n (lv' := [(3, .int (0 : Int32)), (0, .ref aB), (1, .int x1), (2, .int x2)]) hx hb dX0_makeRunVoid_1 rfl hl (by decide) rfl (fun ls hl => ?_)
  refine lv_iconst hx hb dX0_makeRunVoid_2 kc_iconst_0 ?_
  refine lv_istore (lv' := [(4, .int (0 : Int32)), (3, .int (0 : Int32)), (0, .ref aB), (1, .int x1), (2, .int x2)]) hx hb dX0_makeRunVoid_3 hl (by decide) rfl (fun ls hl => ?_)
  exact W_5 x1 x2  fu (0 : Int32) (0 : Int32) bK bM _ _ hP hD hS ls (lv_sub hl [2, 3, 4, 1, 0] rfl) hF
abbrev rm0_sameKindFrom : Room := { frames := 1, cells := 0, slots := 0, locals := 21 }
theorem hd0_sameKindFrom : yX0_sameKindFrom.cls = RX0 ∧ yX0_sameKindFrom.cls ≠ "java/lang/invoke/MethodHandle" ∧ yX0_sameKindFrom.cls ≠ "java/lang/invoke/VarHandle" ∧ (parseMethodDescriptor yX0_sameKindFrom.desc).map (fun d => d.parameters.length) = some 1 := by decide +kernel
set_option maxHeartbeats 4000000 in
set_option maxRecDepth 100000 in
theorem K0_sameKindFrom (l : Launch) (D : va_G) (cI cZ cS cJ : ClassId) (aB aF aZ aK aM : Nat) (bh : Int32) (bF : Nat → Int32) (bZ : Nat → Int32) (bK : Nat → Int32) (bM : Nat → Int32) (x1 : Int32) (r : Int32) (hF : f0_sameKindFrom bZ bK x1 = some (r)) : Met l yX0_sameKindFrom wsX0_sameKindFrom rm0_sameKindFrom (rP D (gT cI cZ cS cJ) (W0 cI aB aF aZ aK aM bh bF bZ bK bM) [.ref aB, .int x1]) (rQ (.int r)) 0 0 (fun _ => False) := by
  refine Met.ofW (cc := cX0_sameKindFrom) (maxL := 7) (ret := (some .int)) (by decide) rfl ?_
  intro p e s m args below meth c s₁ B hml hv
  obtain ⟨ha, hK, hP⟩ := hv
  have hx := B.exec
  have hb := B.bytes
  have hr := B.returns
  have hlocks := B.notSynchronized
  have hts : ∀ w ∈ lw_all, w.before args s = true := fun w h => atoms_spec (ws := wsX0_sameKindFrom) B.pre w (List.mem_cons_of_mem _ h)
  have hown : s.vm.findClass RX0 = some m.cls := findClass_of_methodNamed B.named
  have S : CallFix p m c cX0_sameKindFrom 7 s args lw_all RX0 := ⟨hx, hb, hml, hown, hts⟩
  have hl := lv_entry ([.ref aB, .int x1] : List Value) (n := 7) (Nat.le_of_ble_eq_true rfl)
  refine W.eq (g2 := F0 m 0 ((lg_sl ([.ref aB, .int x1] : List Value) ++ List.replicate (7 - (lg_sl ([.ref aB, .int x1] : List Value)).length) Slot.unset).toArray) []) (by rw [ha]; exact lg_entry_eq _ _ _) ?_
  generalize (lg_sl ([.ref aB, .int x1] : List Value) ++ List.replicate (7 - (lg_sl ([.ref aB, .int x1] : List Value)).length) Slot.unset).toArray = ls at hl ⊢
  have hl : lv_has ls 7 [(0, .ref aB), (1, .int x1)] := hl
  clear ha
  have W_29 : ∀ (x3 : Int32) (x4 : Int32) (n : Nat) (x5 : Int32) (x6 : Int32), ∀ (ls : Array Slot), lv_has ls 7 [(0, .ref aB), (3, .int x3), (4, .int x4), (5, .int x5), (6, .int x6)] → f0_sameKindFrom_l29 bZ bK x3 x4 n x5 x6 = some (r) → rW p l e wsX0_sameKindFrom rm0_sameKindFrom s m args below meth c (.int r) (F0 m 29 ls []) := by
    intro x3 x4  n
    induction n with
    | zero =>
      intro x5 x6 ls hl hF
      rw [f0_sameKindFrom_l29] at hF
      cases hF
    | succ n ih =>
      intro x5 x6 ls hl hF
      rw [f0_sameKindFrom_l29] at hF
      refine lv_iload hx hb dX0_sameKindFrom_29 (lv_at hl 4 rfl) ?_
      refine lv_iload_n hx hb dX0_sameKindFrom_31 rfl (lv_at hl 1 rfl) ?_
      refine lv_icmp_ge (tgt := 55) hx hb dX0_sameKindFrom_32 (by decide) (fun c5 => ?_) (fun c5 => ?_)
      · have hF := ite_t c5 hF
        refine lv_iload hx hb dX0_sameKindFrom_55 (lv_at hl 3 rfl) ?_
        exact rret hF hx hb hr hlocks dX0_sameKindFrom_57
      · have hF := ite_f c5 hF
        refine lv_aload_n hx hb dX0_sameKindFrom_35 rfl (lv_at hl 0 rfl) ?_
        refine lv_iload hx hb dX0_sameKindFrom_36 (lv_at hl 4 rfl) ?_
        obtain ⟨q7, h6, hF⟩ := bd1_at hF
        refine rcall (va_runV (As := [.int x6]) (rest := []) S (K0_kindAt l D cI cZ cS cJ aB aF aZ aK aM bh bF bZ bK bM x6 q7 h6) (cwV 1 hts (gd_V wd_431 wd_324 wd_325 wd_25 wd_326) rfl rfl rfl hd0_kindAt ⟨Nat.le_of_ble_eq_true rfl, Nat.le_of_ble_eq_true rfl⟩) (rPreV hK hP (ci := 0) (q := (RX0, TX0, 5)) rfl rfl) rfl rfl hl.1 rfl (lv_room (Nat.le_of_ble_eq_true rfl)) dX0_sameKindFrom_38 ⟨(Nat.zero_le _), (Nat.zero_le _)⟩) ?_
        refine lv_iload hx hb dX0_sameKindFrom_41 (lv_at hl 2 rfl) ?_
        refine lv_icmp_ne (tgt := 55) hx hb dX0_sameKindFrom_43 (by decide) (fun c8 => ?_) (fun c8 => ?_)
        · have hF := ite_f c8 hF
          refine lv_iload hx hb dX0_sameKindFrom_55 (lv_at hl 3 rfl) ?_
          exact rret hF hx hb hr hlocks dX0_sameKindFrom_57
        · have hF := ite_t c8 hF
          refine lv_iinc (v := (x5 + 1)) (lv' := [(5, .int (x5 + 1)), (0, .ref aB), (3, .int x3), (4, .int x4), (6, .int x6)]) hx hb dX0_sameKindFrom_46 hl (k := 3) rfl rfl (by decide) rfl (fun ls hl => ?_)
          refine lv_iinc (v := (x6 + 1)) (lv' := [(6, .int (x6 + 1)), (5, .int (x5 + 1)), (0, .ref aB), (3, .int x3), (4, .int x4)]) hx hb dX0_sameKindFrom_49 hl (k := 4) rfl rfl (by decide) rfl (fun ls hl => ?_)
          refine lv_goto (tgt := 29) hx hb dX0_sameKindFrom_52 (by decide) ?_
          exact ih (x5 + 1) (x6 + 1) ls (lv_sub hl [2, 3, 4, 1, 0] rfl) hF
  rw [f0_sameKindFrom] at hF
  show rW p l e wsX0_sameKindFrom rm0_sameKindFrom s m args below meth c (.int r) (F0 m 0 ls [])
  refine lv_iload_n hx hb dX0_sameKindFrom_0 rfl (lv_at hl 1 rfl) ?_
  refine lv_bipush hx hb dX0_sameKindFrom_1 kc_bipush_40 ?_
  refine lv_idiv hx hb dX0_sameKindFrom_3 (by decide) ?_
  refine lv_istore_n (lv' := [(2, .int (x1 / (40 : Int32))), (0, .ref aB), (1, .int x1)]) hx hb dX0_sameKindFrom_4 rfl hl (by decide) rfl (fun ls hl => ?_)
  refine lv_iload_n hx hb dX0_sameKindFrom_5 rfl (lv_at hl 0 rfl) ?_
  refine lv_bipush hx hb dX0_sameKindFrom_6 kc_bipush_40 ?_
  refine lv_imul hx hb dX0_sameKindFrom_8 ?_
  refine lv_aload_n hx hb dX0_sameKindFrom_9 rfl (lv_at hl 1 rfl) ?_
  refine lv_iload_n hx hb dX0_sameKindFrom_10 rfl (lv_at hl 0 rfl) ?_
  obtain ⟨q2, h1, hF⟩ := bd1_at hF
  refine rcall (va_runV (As := [.int (x1 / (40 : Int32))]) (rest := [.int ((x1 / (40 : Int32)) * (40 : Int32))]) S (K0_sizeOf l D cI cZ cS cJ aB aF aZ aK aM bh bF bZ bK bM (x1 / (40 : Int32)) q2 h1) (cwV 1 hts (gd_V wd_169 wd_170 wd_171 wd_25 wd_172) rfl rfl rfl hd0_sizeOf ⟨Nat.le_of_ble_eq_true rfl, Nat.le_of_ble_eq_true rfl⟩) (rPreV hK hP (ci := 0) (q := (RX0, TX0, 5)) rfl rfl) rfl rfl hl.1 rfl (lv_room (Nat.le_of_ble_eq_true rfl)) dX0_sameKindFrom_11 ⟨(Nat.zero_le _), (Nat.zero_le _)⟩) ?_
  refine lv_iadd hx hb dX0_sameKindFrom_14 ?_
  refine lv_istore_n (lv' := [(3, .int (((x1 / (40 : Int32)) * (40 : Int32)) + q2)), (2, .int (x1 / (40 : Int32))), (0, .ref aB), (1, .int x1)]) hx hb dX0_sameKindFrom_15 rfl hl (by decide) rfl (fun ls hl => ?_)
  refine lv_aload_n hx hb dX0_sameKindFrom_16 rfl (lv_at hl 2 rfl) ?_
  refine lv_iload_n hx hb dX0_sameKindFrom_17 rfl (lv_at hl 3 rfl) ?_
  obtain ⟨q4, h3, hF⟩ := bd1_at hF
  refine rcall (va_runV (As := [.int x1]) (rest := []) S (K0_kindAt l D cI cZ cS cJ aB aF aZ aK aM bh bF bZ bK bM x1 q4 h3) (cwV 1 hts (gd_V wd_431 wd_324 wd_325 wd_25 wd_326) rfl rfl rfl hd0_kindAt ⟨Nat.le_of_ble_eq_true rfl, Nat.le_of_ble_eq_true rfl⟩) (rPreV hK hP (ci := 0) (q := (RX0, TX0, 5)) rfl rfl) rfl rfl hl.1 rfl (lv_room (Nat.le_of_ble_eq_true rfl)) dX0_sameKindFrom_18 ⟨(Nat.zero_le _), (Nat.zero_le _)⟩) ?_
  refine lv_istore (lv' := [(4, .int q4), (3, .int (((x1 / (40 : Int32)) * (40 : Int32)) + q2)), (2, .int (x1 / (40 : Int32))), (0, .ref aB), (1, .int x1)]) hx hb dX0_sameKindFrom_21 hl (by decide) rfl (fun ls hl => ?_)
  refine lv_iconst hx hb dX0_sameKindFrom_23 kc_iconst_0 ?_
  refine lv_istore (lv' := [(5, .int (0 : Int32)), (4, .int q4), (3, .int (((x1 / (40 : Int32)) * (40 : Int32)) + q2)), (2, .int (x1 / (40 : Int32))), (0, .ref aB), (1, .int x1)]) hx hb dX0_sameKindFrom_24 hl (by decide) rfl (fun ls hl => ?_)
  refine lv_iload_n hx hb dX0_sameKindFrom_26 rfl (lv_at hl 5 rfl) ?_
  refine lv_istore (lv' := [(6, .int x1), (5, .int (0 : Int32)), (4, .int q4), (3, .int (((x1 / (40 : Int32)) * (40 : Int32)) + q2)), (2, .int (x1 / (40 : Int32))), (0, .ref aB), (1, .int x1)]) hx hb dX0_sameKindFrom_27 hl (by decide) rfl (fun ls hl => ?_)
  exact W_29 (((x1 / (40 : Int32)) * (40 : Int32)) + q2) q4  fu (0 : Int32) x1 ls (lv_sub hl [5, 3, 2, 1, 0] rfl) hF
abbrev rm0_chequesOf : Room := { frames := 1, cells := 0, slots := 0, locals := 21 }
theorem hd0_chequesOf : yX0_chequesOf.cls = RX0 ∧ yX0_chequesOf.cls ≠ "java/lang/invoke/MethodHandle" ∧ yX0_chequesOf.cls ≠ "java/lang/invoke/VarHandle" ∧ (parseMethodDescriptor yX0_chequesOf.desc).map (fun d => d.parameters.length) = some 2 := by decide +kernel
set_option maxHeartbeats 4000000 in
set_option maxRecDepth 100000 in
theorem K0_chequesOf (l : Launch) (D : va_G) (cI cZ cS cJ : ClassId) (aB aF aZ aK aM : Nat) (bh : Int32) (bF : Nat → Int32) (bZ : Nat → Int32) (bK : Nat → Int32) (bM : Nat → Int32) (x1 : Int32) (x2 : Int32) (r : Int32) (hF : f0_chequesOf bZ bK x1 x2 = some (r)) : Met l yX0_chequesOf wsX0_chequesOf rm0_chequesOf (rP D (gT cI cZ cS cJ) (W0 cI aB aF aZ aK aM bh bF bZ bK bM) [.ref aB, .int x1, .int x2]) (rQ (.int r)) 0 0 (fun _ => False) := by
  refine Met.ofW (cc := cX0_chequesOf) (maxL := 6) (ret := (some .int)) (by decide) rfl ?_
  intro p e s m args below meth c s₁ B hml hv
  obtain ⟨ha, hK, hP⟩ := hv
  have hx := B.exec
  have hb := B.bytes
  have hr := B.returns
  have hlocks := B.notSynchronized
  have hts : ∀ w ∈ lw_all, w.before args s = true := fun w h => atoms_spec (ws := wsX0_chequesOf) B.pre w (List.mem_cons_of_mem _ h)
  have hown : s.vm.findClass RX0 = some m.cls := findClass_of_methodNamed B.named
  have S : CallFix p m c cX0_chequesOf 6 s args lw_all RX0 := ⟨hx, hb, hml, hown, hts⟩
  have hl := lv_entry ([.ref aB, .int x1, .int x2] : List Value) (n := 6) (Nat.le_of_ble_eq_true rfl)
  refine W.eq (g2 := F0 m 0 ((lg_sl ([.ref aB, .int x1, .int x2] : List Value) ++ List.replicate (6 - (lg_sl ([.ref aB, .int x1, .int x2] : List Value)).length) Slot.unset).toArray) []) (by rw [ha]; exact lg_entry_eq _ _ _) ?_
  generalize (lg_sl ([.ref aB, .int x1, .int x2] : List Value) ++ List.replicate (6 - (lg_sl ([.ref aB, .int x1, .int x2] : List Value)).length) Slot.unset).toArray = ls at hl ⊢
  have hl : lv_has ls 6 [(0, .ref aB), (1, .int x1), (2, .int x2)] := hl
  clear ha
  have W_12 : ∀ (x1 : Int32) (x2 : Int32) (x4 : Int32) (n : Nat) (x3 : Int32) (x5 : Int32), ∀ (ls : Array Slot), lv_has ls 6 [(0, .ref aB), (1, .int x1), (2, .int x2), (3, .int x3), (4, .int x4), (5, .int x5)] → f0_chequesOf_l12 bZ bK x1 x2 x4 n x3 x5 = some (r) → rW p l e wsX0_chequesOf rm0_chequesOf s m args below meth c (.int r) (F0 m 12 ls []) := by
    intro x1 x2 x4  n
    induction n with
    | zero =>
      intro x3 x5 ls hl hF
      rw [f0_chequesOf_l12] at hF
      cases hF
    | succ n ih =>
      intro x3 x5 ls hl hF
      rw [f0_chequesOf_l12] at hF
      refine lv_iload hx hb dX0_chequesOf_12 (lv_at hl 5 rfl) ?_
      refine lv_iload hx hb dX0_chequesOf_14 (lv_at hl 4 rfl) ?_
      refine lv_icmp_ge (tgt := 43) hx hb dX0_chequesOf_16 (by decide) (fun c3 => ?_) (fun c3 => ?_)
      · have hF := ite_t c3 hF
        refine lv_iload_n hx hb dX0_chequesOf_43 rfl (lv_at hl 3 rfl) ?_
        exact rret hF hx hb hr hlocks dX0_chequesOf_44
      · have hF := ite_f c3 hF
        refine lv_aload_n hx hb dX0_chequesOf_19 rfl (lv_at hl 0 rfl) ?_
        refine lv_iload_n hx hb dX0_chequesOf_20 rfl (lv_at hl 1 rfl) ?_
        refine lv_bipush hx hb dX0_chequesOf_21 kc_bipush_40 ?_
        refine lv_imul hx hb dX0_chequesOf_23 ?_
        refine lv_iload hx hb dX0_chequesOf_24 (lv_at hl 5 rfl) ?_
        refine lv_iadd hx hb dX0_chequesOf_26 ?_
        obtain ⟨q5, h4, hF⟩ := bd1_at hF
        refine rcall (va_runV (As := [.int ((x1 * (40 : Int32)) + x5)]) (rest := []) S (K0_kindAt l D cI cZ cS cJ aB aF aZ aK aM bh bF bZ bK bM ((x1 * (40 : Int32)) + x5) q5 h4) (cwV 1 hts (gd_V wd_431 wd_324 wd_325 wd_25 wd_326) rfl rfl rfl hd0_kindAt ⟨Nat.le_of_ble_eq_true rfl, Nat.le_of_ble_eq_true rfl⟩) (rPreV hK hP (ci := 0) (q := (RX0, TX0, 5)) rfl rfl) rfl rfl hl.1 rfl (lv_room (Nat.le_of_ble_eq_true rfl)) dX0_chequesOf_27 ⟨(Nat.zero_le _), (Nat.zero_le _)⟩) ?_
        refine lv_iload_n hx hb dX0_chequesOf_30 rfl (lv_at hl 2 rfl) ?_
        refine lv_icmp_ne (tgt := 37) hx hb dX0_chequesOf_31 (by decide) (fun c6 => ?_) (fun c6 => ?_)
        · rw [if_neg c6] at hF
          refine lv_iinc (v := (x5 + 1)) (lv' := [(5, .int (x5 + 1)), (0, .ref aB), (1, .int x1), (2, .int x2), (3, .int x3), (4, .int x4)]) hx hb dX0_chequesOf_37 hl (k := 5) rfl rfl (by decide) rfl (fun ls hl => ?_)
          refine lv_goto (tgt := 12) hx hb dX0_chequesOf_40 (by decide) ?_
          exact ih x3 (x5 + 1) ls (lv_sub hl [1, 2, 3, 4, 5, 0] rfl) hF
        · rw [if_pos c6] at hF
          refine lv_iinc (v := (x3 + 1)) (lv' := [(3, .int (x3 + 1)), (0, .ref aB), (1, .int x1), (2, .int x2), (4, .int x4), (5, .int x5)]) hx hb dX0_chequesOf_34 hl (k := 3) rfl rfl (by decide) rfl (fun ls hl => ?_)
          refine lv_iinc (v := (x5 + 1)) (lv' := [(5, .int (x5 + 1)), (3, .int (x3 + 1)), (0, .ref aB), (1, .int x1), (2, .int x2), (4, .int x4)]) hx hb dX0_chequesOf_37 hl (k := 5) rfl rfl (by decide) rfl (fun ls hl => ?_)
          refine lv_goto (tgt := 12) hx hb dX0_chequesOf_40 (by decide) ?_
          exact ih (x3 + 1) (x5 + 1) ls (lv_sub hl [2, 3, 4, 1, 5, 0] rfl) hF
  rw [f0_chequesOf] at hF
  show rW p l e wsX0_chequesOf rm0_chequesOf s m args below meth c (.int r) (F0 m 0 ls [])
  refine lv_iconst hx hb dX0_chequesOf_0 kc_iconst_0 ?_
  refine lv_istore_n (lv' := [(3, .int (0 : Int32)), (0, .ref aB), (1, .int x1), (2, .int x2)]) hx hb dX0_chequesOf_1 rfl hl (by decide) rfl (fun ls hl => ?_)
  refine lv_aload_n hx hb dX0_chequesOf_2 rfl (lv_at hl 1 rfl) ?_
  refine lv_iload_n hx hb dX0_chequesOf_3 rfl (lv_at hl 2 rfl) ?_
  obtain ⟨q2, h1, hF⟩ := bd1_at hF
  refine rcall (va_runV (As := [.int x1]) (rest := []) S (K0_sizeOf l D cI cZ cS cJ aB aF aZ aK aM bh bF bZ bK bM x1 q2 h1) (cwV 1 hts (gd_V wd_169 wd_170 wd_171 wd_25 wd_172) rfl rfl rfl hd0_sizeOf ⟨Nat.le_of_ble_eq_true rfl, Nat.le_of_ble_eq_true rfl⟩) (rPreV hK hP (ci := 0) (q := (RX0, TX0, 5)) rfl rfl) rfl rfl hl.1 rfl (lv_room (Nat.le_of_ble_eq_true rfl)) dX0_chequesOf_4 ⟨(Nat.zero_le _), (Nat.zero_le _)⟩) ?_
  refine lv_istore (lv' := [(4, .int q2), (3, .int (0 : Int32)), (0, .ref aB), (1, .int x1), (2, .int x2)]) hx hb dX0_chequesOf_7 hl (by decide) rfl (fun ls hl => ?_)
  refine lv_iconst hx hb dX0_chequesOf_9 kc_iconst_0 ?_
  refine lv_istore (lv' := [(5, .int (0 : Int32)), (4, .int q2), (3, .int (0 : Int32)), (0, .ref aB), (1, .int x1), (2, .int x2)]) hx hb dX0_chequesOf_10 hl (by decide) rfl (fun ls hl => ?_)
  exact W_12 x1 x2 q2  fu (0 : Int32) (0 : Int32) ls (lv_sub hl [3, 4, 5, 2, 1, 0] rfl) hF
abbrev rm0_amountsOf : Room := { frames := 1, cells := 0, slots := 0, locals := 21 }
theorem hd0_amountsOf : yX0_amountsOf.cls = RX0 ∧ yX0_amountsOf.cls ≠ "java/lang/invoke/MethodHandle" ∧ yX0_amountsOf.cls ≠ "java/lang/invoke/VarHandle" ∧ (parseMethodDescriptor yX0_amountsOf.desc).map (fun d => d.parameters.length) = some 2 := by decide +kernel
set_option maxHeartbeats 4000000 in
set_option maxRecDepth 100000 in
theorem K0_amountsOf (l : Launch) (D : va_G) (cI cZ cS cJ : ClassId) (aB aF aZ aK aM : Nat) (bh : Int32) (bF : Nat → Int32) (bZ : Nat → Int32) (bK : Nat → Int32) (bM : Nat → Int32) (x1 : Int32) (x2 : Int32) (r : Int32) (hF : f0_amountsOf bZ bK bM x1 x2 = some (r)) : Met l yX0_amountsOf wsX0_amountsOf rm0_amountsOf (rP D (gT cI cZ cS cJ) (W0 cI aB aF aZ aK aM bh bF bZ bK bM) [.ref aB, .int x1, .int x2]) (rQ (.int r)) 0 0 (fun _ => False) := by
  refine Met.ofW (cc := cX0_amountsOf) (maxL := 7) (ret := (some .int)) (by decide) rfl ?_
  intro p e s m args below meth c s₁ B hml hv
  obtain ⟨ha, hK, hP⟩ := hv
  have hx := B.exec
  have hb := B.bytes
  have hr := B.returns
  have hlocks := B.notSynchronized
  have hts : ∀ w ∈ lw_all, w.before args s = true := fun w h => atoms_spec (ws := wsX0_amountsOf) B.pre w (List.mem_cons_of_mem _ h)
  have hown : s.vm.findClass RX0 = some m.cls := findClass_of_methodNamed B.named
  have S : CallFix p m c cX0_amountsOf 7 s args lw_all RX0 := ⟨hx, hb, hml, hown, hts⟩
  have hl := lv_entry ([.ref aB, .int x1, .int x2] : List Value) (n := 7) (Nat.le_of_ble_eq_true rfl)
  refine W.eq (g2 := F0 m 0 ((lg_sl ([.ref aB, .int x1, .int x2] : List Value) ++ List.replicate (7 - (lg_sl ([.ref aB, .int x1, .int x2] : List Value)).length) Slot.unset).toArray) []) (by rw [ha]; exact lg_entry_eq _ _ _) ?_
  generalize (lg_sl ([.ref aB, .int x1, .int x2] : List Value) ++ List.replicate (7 - (lg_sl ([.ref aB, .int x1, .int x2] : List Value)).length) Slot.unset).toArray = ls at hl ⊢
  have hl : lv_has ls 7 [(0, .ref aB), (1, .int x1), (2, .int x2)] := hl
  clear ha
  have W_12 : ∀ (x1 : Int32) (x2 : Int32) (x4 : Int32) (n : Nat) (x3 : Int32) (x5 : Int32), ∀ (ls : Array Slot), lv_has ls 7 [(0, .ref aB), (1, .int x1), (2, .int x2), (3, .int x3), (4, .int x4), (5, .int x5)] → f0_amountsOf_l12 bZ bK bM x1 x2 x4 n x3 x5 = some (r) → rW p l e wsX0_amountsOf rm0_amountsOf s m args below meth c (.int r) (F0 m 12 ls []) := by
    intro x1 x2 x4  n
    induction n with
    | zero =>
      intro x3 x5 ls hl hF
      rw [f0_amountsOf_l12] at hF
      cases hF
    | succ n ih =>
      intro x3 x5 ls hl hF
      rw [f0_amountsOf_l12] at hF
      refine lv_iload hx hb dX0_amountsOf_12 (lv_at hl 5 rfl) ?_
      refine lv_iload hx hb dX0_amountsOf_14 (lv_at hl 4 rfl) ?_
      refine lv_icmp_ge (tgt := 53) hx hb dX0_amountsOf_16 (by decide) (fun c3 => ?_) (fun c3 => ?_)
      · have hF := ite_t c3 hF
        refine lv_iload_n hx hb dX0_amountsOf_53 rfl (lv_at hl 3 rfl) ?_
        exact rret hF hx hb hr hlocks dX0_amountsOf_54
      · have hF := ite_f c3 hF
        refine lv_iload_n hx hb dX0_amountsOf_19 rfl (lv_at hl 1 rfl) ?_
        refine lv_bipush hx hb dX0_amountsOf_20 kc_bipush_40 ?_
        refine lv_imul hx hb dX0_amountsOf_22 ?_
        refine lv_iload hx hb dX0_amountsOf_23 (lv_at hl 5 rfl) ?_
        refine lv_iadd hx hb dX0_amountsOf_25 ?_
        refine lv_istore (lv' := [(6, .int ((x1 * (40 : Int32)) + x5)), (0, .ref aB), (1, .int x1), (2, .int x2), (3, .int x3), (4, .int x4), (5, .int x5)]) hx hb dX0_amountsOf_26 hl (by decide) rfl (fun ls hl => ?_)
        refine lv_aload_n hx hb dX0_amountsOf_28 rfl (lv_at hl 1 rfl) ?_
        refine lv_iload hx hb dX0_amountsOf_29 (lv_at hl 0 rfl) ?_
        obtain ⟨q5, h4, hF⟩ := bd1_at hF
        refine rcall (va_runV (As := [.int ((x1 * (40 : Int32)) + x5)]) (rest := []) S (K0_kindAt l D cI cZ cS cJ aB aF aZ aK aM bh bF bZ bK bM ((x1 * (40 : Int32)) + x5) q5 h4) (cwV 1 hts (gd_V wd_431 wd_324 wd_325 wd_25 wd_326) rfl rfl rfl hd0_kindAt ⟨Nat.le_of_ble_eq_true rfl, Nat.le_of_ble_eq_true rfl⟩) (rPreV hK hP (ci := 0) (q := (RX0, TX0, 5)) rfl rfl) rfl rfl hl.1 rfl (lv_room (Nat.le_of_ble_eq_true rfl)) dX0_amountsOf_31 ⟨(Nat.zero_le _), (Nat.zero_le _)⟩) ?_
        refine lv_iload_n hx hb dX0_amountsOf_34 rfl (lv_at hl 3 rfl) ?_
        refine lv_icmp_ne (tgt := 47) hx hb dX0_amountsOf_35 (by decide) (fun c6 => ?_) (fun c6 => ?_)
        · have hF := ite_f c6 hF
          refine lv_iinc (v := (x5 + 1)) (lv' := [(5, .int (x5 + 1)), (6, .int ((x1 * (40 : Int32)) + x5)), (0, .ref aB), (1, .int x1), (2, .int x2), (3, .int x3), (4, .int x4)]) hx hb dX0_amountsOf_47 hl (k := 6) rfl rfl (by decide) rfl (fun ls hl => ?_)
          refine lv_goto (tgt := 12) hx hb dX0_amountsOf_50 (by decide) ?_
          exact ih x3 (x5 + 1) ls (lv_sub hl [2, 3, 4, 5, 6, 0] rfl) hF
        · have hF := ite_t c6 hF
          refine lv_iload_n hx hb dX0_amountsOf_38 rfl (lv_at hl 4 rfl) ?_
          refine lv_aload_n hx hb dX0_amountsOf_39 rfl (lv_at hl 1 rfl) ?_
          refine lv_iload hx hb dX0_amountsOf_40 (lv_at hl 0 rfl) ?_
          obtain ⟨q8, h7, hF⟩ := bd1_at hF
          refine rcall (va_runV (As := [.int ((x1 * (40 : Int32)) + x5)]) (rest := [.int x3]) S (K0_amountAt l D cI cZ cS cJ aB aF aZ aK aM bh bF bZ bK bM ((x1 * (40 : Int32)) + x5) q8 h7) (cwV 1 hts (gd_V wd_370 wd_371 wd_372 wd_25 wd_373) rfl rfl rfl hd0_amountAt ⟨Nat.le_of_ble_eq_true rfl, Nat.le_of_ble_eq_true rfl⟩) (rPreV hK hP (ci := 0) (q := (RX0, TX0, 5)) rfl rfl) rfl rfl hl.1 rfl (lv_room (Nat.le_of_ble_eq_true rfl)) dX0_amountsOf_42 ⟨(Nat.zero_le _), (Nat.zero_le _)⟩) ?_
          refine lv_iadd hx hb dX0_amountsOf_45 ?_
          refine lv_istore_n (lv' := [(3, .int (x3 + q8)), (6, .int ((x1 * (40 : Int32)) + x5)), (0, .ref aB), (1, .int x1), (2, .int x2), (4, .int x4), (5, .int x5)]) hx hb dX0_amountsOf_46 rfl hl (by decide) rfl (fun ls hl => ?_)
          refine lv_iinc (v := (x5 + 1)) (lv' := [(5, .int (x5 + 1)), (3, .int (x3 + q8)), (6, .int ((x1 * (40 : Int32)) + x5)), (0, .ref aB), (1, .int x1), (2, .int x2), (4, .int x4)]) hx hb dX0_amountsOf_47 hl (k := 6) rfl rfl (by decide) rfl (fun ls hl => ?_)
          refine lv_goto (tgt := 12) hx hb dX0_amountsOf_50 (by decide) ?_
          exact ih (x3 + q8) (x5 + 1) ls (lv_sub hl [3, 4, 5, 1, 6, 0] rfl) hF
  rw [f0_amountsOf] at hF
  show rW p l e wsX0_amountsOf rm0_amountsOf s m args below meth c (.int r) (F0 m 0 ls [])
  refine lv_iconst hx hb dX0_amountsOf_0 kc_iconst_0 ?_
  refine lv_istore_n (lv' := [(3, .int (0 : Int32)), (0, .ref aB), (1, .int x1), (2, .int x2)]) hx hb dX0_amountsOf_1 rfl hl (by decide) rfl (fun ls hl => ?_)
  refine lv_aload_n hx hb dX0_amountsOf_2 rfl (lv_at hl 1 rfl) ?_
  refine lv_iload_n hx hb dX0_amountsOf_3 rfl (lv_at hl 2 rfl) ?_
  obtain ⟨q2, h1, hF⟩ := bd1_at hF
  refine rcall (va_runV (As := [.int x1]) (rest := []) S (K0_sizeOf l D cI cZ cS cJ aB aF aZ aK aM bh bF bZ bK bM x1 q2 h1) (cwV 1 hts (gd_V wd_169 wd_170 wd_171 wd_25 wd_172) rfl rfl rfl hd0_sizeOf ⟨Nat.le_of_ble_eq_true rfl, Nat.le_of_ble_eq_true rfl⟩) (rPreV hK hP (ci := 0) (q := (RX0, TX0, 5)) rfl rfl) rfl rfl hl.1 rfl (lv_room (Nat.le_of_ble_eq_true rfl)) dX0_amountsOf_4 ⟨(Nat.zero_le _), (Nat.zero_le _)⟩) ?_
  refine lv_istore (lv' := [(4, .int q2), (3, .int (0 : Int32)), (0, .ref aB), (1, .int x1), (2, .int x2)]) hx hb dX0_amountsOf_7 hl (by decide) rfl (fun ls hl => ?_)
  refine lv_iconst hx hb dX0_amountsOf_9 kc_iconst_0 ?_
  refine lv_istore (lv' := [(5, .int (0 : Int32)), (4, .int q2), (3, .int (0 : Int32)), (0, .ref aB), (1, .int x1), (2, .int x2)]) hx hb dX0_amountsOf_10 hl (by decide) rfl (fun ls hl => ?_)
  exact W_12 x1 x2 q2  fu (0 : Int32) (0 : Int32) ls (lv_sub hl [3, 4, 5, 2, 1, 0] rfl) hF
abbrev rm0_firstBlankOf : Room := { frames := 1, cells := 0, slots := 0, locals := 21 }
theorem hd0_firstBlankOf : yX0_firstBlankOf.cls = RX0 ∧ yX0_firstBlankOf.cls ≠ "java/lang/invoke/MethodHandle" ∧ yX0_firstBlankOf.cls ≠ "java/lang/invoke/VarHandle" ∧ (parseMethodDescriptor yX0_firstBlankOf.desc).map (fun d => d.parameters.length) = some 1 := by decide +kernel
set_option maxHeartbeats 4000000 in
set_option maxRecDepth 100000 in
theorem K0_firstBlankOf (l : Launch) (D : va_G) (cI cZ cS cJ : ClassId) (aB aF aZ aK aM : Nat) (bh : Int32) (bF : Nat → Int32) (bZ : Nat → Int32) (bK : Nat → Int32) (bM : Nat → Int32) (x1 : Int32) (r : Int32) (hF : f0_firstBlankOf bF bZ bK x1 = some (r)) : Met l yX0_firstBlankOf wsX0_firstBlankOf rm0_firstBlankOf (rP D (gT cI cZ cS cJ) (W0 cI aB aF aZ aK aM bh bF bZ bK bM) [.ref aB, .int x1]) (rQ (.int r)) 0 0 (fun _ => False) := by
  refine Met.ofW (cc := cX0_firstBlankOf) (maxL := 4) (ret := (some .int)) (by decide) rfl ?_
  intro p e s m args below meth c s₁ B hml hv
  obtain ⟨ha, hK, hP⟩ := hv
  have hx := B.exec
  have hb := B.bytes
  have hr := B.returns
  have hlocks := B.notSynchronized
  have hts : ∀ w ∈ lw_all, w.before args s = true := fun w h => atoms_spec (ws := wsX0_firstBlankOf) B.pre w (List.mem_cons_of_mem _ h)
  have hown : s.vm.findClass RX0 = some m.cls := findClass_of_methodNamed B.named
  have S : CallFix p m c cX0_firstBlankOf 4 s args lw_all RX0 := ⟨hx, hb, hml, hown, hts⟩
  have hl := lv_entry ([.ref aB, .int x1] : List Value) (n := 4) (Nat.le_of_ble_eq_true rfl)
  refine W.eq (g2 := F0 m 0 ((lg_sl ([.ref aB, .int x1] : List Value) ++ List.replicate (4 - (lg_sl ([.ref aB, .int x1] : List Value)).length) Slot.unset).toArray) []) (by rw [ha]; exact lg_entry_eq _ _ _) ?_
  generalize (lg_sl ([.ref aB, .int x1] : List Value) ++ List.replicate (4 - (lg_sl ([.ref aB, .int x1] : List Value)).length) Slot.unset).toArray = ls at hl ⊢
  have hl : lv_has ls 4 [(0, .ref aB), (1, .int x1)] := hl
  clear ha
  have W_8 : ∀ (x1 : Int32) (x2 : Int32) (n : Nat) (x3 : Int32), ∀ (ls : Array Slot), lv_has ls 4 [(0, .ref aB), (1, .int x1), (2, .int x2), (3, .int x3)] → f0_firstBlankOf_l8 bF bZ bK x1 x2 n x3 = some (r) → rW p l e wsX0_firstBlankOf rm0_firstBlankOf s m args below meth c (.int r) (F0 m 8 ls []) := by
    intro x1 x2  n
    induction n with
    | zero =>
      intro x3 ls hl hF
      rw [f0_firstBlankOf_l8] at hF
      cases hF
    | succ n ih =>
      intro x3 ls hl hF
      rw [f0_firstBlankOf_l8] at hF
      refine lv_iload_n hx hb dX0_firstBlankOf_8 rfl (lv_at hl 3 rfl) ?_
      refine lv_iload_n hx hb dX0_firstBlankOf_9 rfl (lv_at hl 2 rfl) ?_
      refine lv_icmp_ge (tgt := 40) hx hb dX0_firstBlankOf_10 (by decide) (fun c3 => ?_) (fun c3 => ?_)
      · have hF := ite_t c3 hF
        refine lv_iconst hx hb dX0_firstBlankOf_40 kc_iconst_m1 ?_
        exact rret hF hx hb hr hlocks dX0_firstBlankOf_41
      · have hF := ite_f c3 hF
        refine lv_aload_n hx hb dX0_firstBlankOf_13 rfl (lv_at hl 0 rfl) ?_
        refine lv_iload_n hx hb dX0_firstBlankOf_14 rfl (lv_at hl 1 rfl) ?_
        refine lv_bipush hx hb dX0_firstBlankOf_15 kc_bipush_40 ?_
        refine lv_imul hx hb dX0_firstBlankOf_17 ?_
        refine lv_iload_n hx hb dX0_firstBlankOf_18 rfl (lv_at hl 3 rfl) ?_
        refine lv_iadd hx hb dX0_firstBlankOf_19 ?_
        obtain ⟨q5, h4, hF⟩ := bd1_at hF
        refine rcall (va_runV (As := [.int ((x1 * (40 : Int32)) + x3)]) (rest := []) S (K0_kindAt l D cI cZ cS cJ aB aF aZ aK aM bh bF bZ bK bM ((x1 * (40 : Int32)) + x3) q5 h4) (cwV 1 hts (gd_V wd_431 wd_324 wd_325 wd_25 wd_326) rfl rfl rfl hd0_kindAt ⟨Nat.le_of_ble_eq_true rfl, Nat.le_of_ble_eq_true rfl⟩) (rPreV hK hP (ci := 0) (q := (RX0, TX0, 5)) rfl rfl) rfl rfl hl.1 rfl (lv_room (Nat.le_of_ble_eq_true rfl)) dX0_firstBlankOf_20 ⟨(Nat.zero_le _), (Nat.zero_le _)⟩) ?_
        refine lv_if_ne (tgt := 34) hx hb dX0_firstBlankOf_23 (by decide) (fun c6 => ?_) (fun c6 => ?_)
        · have hF := ite_f c6 hF
          refine lv_iinc (v := (x3 + 1)) (lv' := [(3, .int (x3 + 1)), (0, .ref aB), (1, .int x1), (2, .int x2)]) hx hb dX0_firstBlankOf_34 hl (k := 3) rfl rfl (by decide) rfl (fun ls hl => ?_)
          refine lv_goto (tgt := 8) hx hb dX0_firstBlankOf_37 (by decide) ?_
          exact ih (x3 + 1) ls (lv_sub hl [1, 2, 3, 0] rfl) hF
        · have hF := ite_t c6 hF
          refine lv_aload_n hx hb dX0_firstBlankOf_26 rfl (lv_at hl 0 rfl) ?_
          refine lv_iload_n hx hb dX0_firstBlankOf_27 rfl (lv_at hl 1 rfl) ?_
          obtain ⟨q8, h7, hF⟩ := bd1_at hF
          refine rcall (va_runV (As := [.int x1]) (rest := []) S (K0_firstOf l D cI cZ cS cJ aB aF aZ aK aM bh bF bZ bK bM x1 q8 h7) (cwV 1 hts (gd_V wd_165 wd_166 wd_167 wd_25 wd_168) rfl rfl rfl hd0_firstOf ⟨Nat.le_of_ble_eq_true rfl, Nat.le_of_ble_eq_true rfl⟩) (rPreV hK hP (ci := 0) (q := (RX0, TX0, 5)) rfl rfl) rfl rfl hl.1 rfl (lv_room (Nat.le_of_ble_eq_true rfl)) dX0_firstBlankOf_28 ⟨(Nat.zero_le _), (Nat.zero_le _)⟩) ?_
          refine lv_iload_n hx hb dX0_firstBlankOf_31 rfl (lv_at hl 3 rfl) ?_
          refine lv_iadd hx hb dX0_firstBlankOf_32 ?_
          exact rret hF hx hb hr hlocks dX0_firstBlankOf_33
  rw [f0_firstBlankOf] at hF
  show rW p l e wsX0_firstBlankOf rm0_firstBlankOf s m args below meth c (.int r) (F0 m 0 ls [])
  refine lv_aload_n hx hb dX0_firstBlankOf_0 rfl (lv_at hl 0 rfl) ?_
  refine lv_iload_n hx hb dX0_firstBlankOf_1 rfl (lv_at hl 1 rfl) ?_
  obtain ⟨q2, h1, hF⟩ := bd1_at hF
  refine rcall (va_runV (As := [.int x1]) (rest := []) S (K0_sizeOf l D cI cZ cS cJ aB aF aZ aK aM bh bF bZ bK bM x1 q2 h1) (cwV 1 hts (gd_V wd_169 wd_170 wd_171 wd_25 wd_172) rfl rfl rfl hd0_sizeOf ⟨Nat.le_of_ble_eq_true rfl, Nat.le_of_ble_eq_true rfl⟩) (rPreV hK hP (ci := 0) (q := (RX0, TX0, 5)) rfl rfl) rfl rfl hl.1 rfl (lv_room (Nat.le_of_ble_eq_true rfl)) dX0_firstBlankOf_2 ⟨(Nat.zero_le _), (Nat.zero_le _)⟩) ?_
  refine lv_istore_n (lv' := [(2, .int q2), (0, .ref aB), (1, .int x1)]) hx hb dX0_firstBlankOf_5 rfl hl (by decide) rfl (fun ls hl => ?_)
  refine lv_iconst hx hb dX0_firstBlankOf_6 kc_iconst_0 ?_
  refine lv_istore_n (lv' := [(3, .int (0 : Int32)), (2, .int q2), (0, .ref aB), (1, .int x1)]) hx hb dX0_firstBlankOf_7 rfl hl (by decide) rfl (fun ls hl => ?_)
  exact W_8 x1 q2  fu (0 : Int32) ls (lv_sub hl [2, 3, 1, 0] rfl) hF
abbrev rm0_numberOf : Room := { frames := 2, cells := 0, slots := 0, locals := 47 }
theorem hd0_numberOf : yX0_numberOf.cls = RX0 ∧ yX0_numberOf.cls ≠ "java/lang/invoke/MethodHandle" ∧ yX0_numberOf.cls ≠ "java/lang/invoke/VarHandle" ∧ (parseMethodDescriptor yX0_numberOf.desc).map (fun d => d.parameters.length) = some 2 := by decide +kernel
set_option maxHeartbeats 4000000 in
set_option maxRecDepth 100000 in
theorem K0_numberOf (l : Launch) (D : va_G) (cI cZ cS cJ : ClassId) (aB aF aZ aK aM : Nat) (bh : Int32) (bF : Nat → Int32) (bZ : Nat → Int32) (bK : Nat → Int32) (bM : Nat → Int32) (x1 : Int32) (x2 : Int32) (r : Int32) (hF : f0_numberOf bF bZ bK bM x1 x2 = some (r)) : Met l yX0_numberOf wsX0_numberOf rm0_numberOf (rP D (gT cI cZ cS cJ) (W0 cI aB aF aZ aK aM bh bF bZ bK bM) [.ref aB, .int x1, .int x2]) (rQ (.int r)) 0 0 (fun _ => False) := by
  refine Met.ofW (cc := cX0_numberOf) (maxL := 3) (ret := (some .int)) (by decide) rfl ?_
  intro p e s m args below meth c s₁ B hml hv
  obtain ⟨ha, hK, hP⟩ := hv
  have hx := B.exec
  have hb := B.bytes
  have hr := B.returns
  have hlocks := B.notSynchronized
  have hts : ∀ w ∈ lw_all, w.before args s = true := fun w h => atoms_spec (ws := wsX0_numberOf) B.pre w (List.mem_cons_of_mem _ h)
  have hown : s.vm.findClass RX0 = some m.cls := findClass_of_methodNamed B.named
  have S : CallFix p m c cX0_numberOf 3 s args lw_all RX0 := ⟨hx, hb, hml, hown, hts⟩
  have hl := lv_entry ([.ref aB, .int x1, .int x2] : List Value) (n := 3) (Nat.le_of_ble_eq_true rfl)
  refine W.eq (g2 := F0 m 0 ((lg_sl ([.ref aB, .int x1, .int x2] : List Value) ++ List.replicate (3 - (lg_sl ([.ref aB, .int x1, .int x2] : List Value)).length) Slot.unset).toArray) []) (by rw [ha]; exact lg_entry_eq _ _ _) ?_
  generalize (lg_sl ([.ref aB, .int x1, .int x2] : List Value) ++ List.replicate (3 - (lg_sl ([.ref aB, .int x1, .int x2] : List Value)).length) Slot.unset).toArray = ls at hl ⊢
  have hl : lv_has ls 3 [(0, .ref aB), (1, .int x1), (2, .int x2)] := hl
  rw [f0_numberOf] at hF
  show rW p l e wsX0_numberOf rm0_numberOf s m args below meth c (.int r) (F0 m 0 ls [])
  refine lv_iload_n hx hb dX0_numberOf_0 rfl (lv_at hl 2 rfl) ?_
  by_cases c1 : x2 = (0 : Int32)
  · have hF := ite_t c1 hF
    refine lv_tableIn (tgt := 52) hx hb dX0_numberOf_1 (by rw [c1]; decide) (by rw [c1]; decide) (by rw [c1]; rfl) (by decide) ?_
    refine lv_aload_n hx hb dX0_numberOf_52 rfl (lv_at hl 0 rfl) ?_
    refine lv_iload_n hx hb dX0_numberOf_53 rfl (lv_at hl 1 rfl) ?_
    obtain ⟨q3, h2, hF⟩ := bd1_at hF
    refine rcall (va_runV (As := [.int x1]) (rest := []) S (K0_firstOf l D cI cZ cS cJ aB aF aZ aK aM bh bF bZ bK bM x1 q3 h2) (cwV 1 hts (gd_V wd_165 wd_166 wd_167 wd_25 wd_168) rfl rfl rfl hd0_firstOf ⟨Nat.le_of_ble_eq_true rfl, Nat.le_of_ble_eq_true rfl⟩) (rPreV hK hP (ci := 0) (q := (RX0, TX0, 5)) rfl rfl) rfl rfl hl.1 rfl (lv_room (Nat.le_of_ble_eq_true rfl)) dX0_numberOf_54 ⟨(Nat.zero_le _), (Nat.zero_le _)⟩) ?_
    exact rret hF hx hb hr hlocks dX0_numberOf_57
  have hF := ite_f c1 hF
  by_cases c4 : x2 = (1 : Int32)
  · have hF := ite_t c4 hF
    refine lv_tableIn (tgt := 58) hx hb dX0_numberOf_1 (by rw [c4]; decide) (by rw [c4]; decide) (by rw [c4]; rfl) (by decide) ?_
    refine lv_aload_n hx hb dX0_numberOf_58 rfl (lv_at hl 0 rfl) ?_
    refine lv_iload_n hx hb dX0_numberOf_59 rfl (lv_at hl 1 rfl) ?_
    obtain ⟨q6, h5, hF⟩ := bd1_at hF
    refine rcall (va_runV (As := [.int x1]) (rest := []) S (K0_sizeOf l D cI cZ cS cJ aB aF aZ aK aM bh bF bZ bK bM x1 q6 h5) (cwV 1 hts (gd_V wd_169 wd_170 wd_171 wd_25 wd_172) rfl rfl rfl hd0_sizeOf ⟨Nat.le_of_ble_eq_true rfl, Nat.le_of_ble_eq_true rfl⟩) (rPreV hK hP (ci := 0) (q := (RX0, TX0, 5)) rfl rfl) rfl rfl hl.1 rfl (lv_room (Nat.le_of_ble_eq_true rfl)) dX0_numberOf_60 ⟨(Nat.zero_le _), (Nat.zero_le _)⟩) ?_
    exact rret hF hx hb hr hlocks dX0_numberOf_63
  have hF := ite_f c4 hF
  by_cases c7 : x2 = (2 : Int32)
  · have hF := ite_t c7 hF
    refine lv_tableIn (tgt := 84) hx hb dX0_numberOf_1 (by rw [c7]; decide) (by rw [c7]; decide) (by rw [c7]; rfl) (by decide) ?_
    refine lv_aload_n hx hb dX0_numberOf_84 rfl (lv_at hl 0 rfl) ?_
    refine lv_iload_n hx hb dX0_numberOf_85 rfl (lv_at hl 1 rfl) ?_
    refine lv_iload_n hx hb dX0_numberOf_86 rfl (lv_at hl 2 rfl) ?_
    refine lv_iconst hx hb dX0_numberOf_87 kc_iconst_2 ?_
    refine lv_isub hx hb dX0_numberOf_88 ?_
    obtain ⟨q21, h20, hF⟩ := bd1_at hF
    refine rcall (va_runV (As := [.int x1, .int (x2 - (2 : Int32))]) (rest := []) S (K0_chequesOf l D cI cZ cS cJ aB aF aZ aK aM bh bF bZ bK bM x1 (x2 - (2 : Int32)) q21 h20) (cwV 2 hts (gd_V wd_436 wd_438 wd_9 wd_25 wd_439) rfl rfl rfl hd0_chequesOf ⟨Nat.le_of_ble_eq_true rfl, Nat.le_of_ble_eq_true rfl⟩) (rPreV hK hP (ci := 0) (q := (RX0, TX0, 5)) rfl rfl) rfl rfl hl.1 rfl (lv_room (Nat.le_of_ble_eq_true rfl)) dX0_numberOf_89 ⟨(Nat.zero_le _), (Nat.zero_le _)⟩) ?_
    exact rret hF hx hb hr hlocks dX0_numberOf_92
  have hF := ite_f c7 hF
  by_cases c8 : x2 = (3 : Int32)
  · have hF := ite_t c8 hF
    refine lv_tableIn (tgt := 84) hx hb dX0_numberOf_1 (by rw [c8]; decide) (by rw [c8]; decide) (by rw [c8]; rfl) (by decide) ?_
    refine lv_aload_n hx hb dX0_numberOf_84 rfl (lv_at hl 0 rfl) ?_
    refine lv_iload_n hx hb dX0_numberOf_85 rfl (lv_at hl 1 rfl) ?_
    refine lv_iload_n hx hb dX0_numberOf_86 rfl (lv_at hl 2 rfl) ?_
    refine lv_iconst hx hb dX0_numberOf_87 kc_iconst_2 ?_
    refine lv_isub hx hb dX0_numberOf_88 ?_
    obtain ⟨q21, h20, hF⟩ := bd1_at hF
    refine rcall (va_runV (As := [.int x1, .int (x2 - (2 : Int32))]) (rest := []) S (K0_chequesOf l D cI cZ cS cJ aB aF aZ aK aM bh bF bZ bK bM x1 (x2 - (2 : Int32)) q21 h20) (cwV 2 hts (gd_V wd_436 wd_438 wd_9 wd_25 wd_439) rfl rfl rfl hd0_chequesOf ⟨Nat.le_of_ble_eq_true rfl, Nat.le_of_ble_eq_true rfl⟩) (rPreV hK hP (ci := 0) (q := (RX0, TX0, 5)) rfl rfl) rfl rfl hl.1 rfl (lv_room (Nat.le_of_ble_eq_true rfl)) dX0_numberOf_89 ⟨(Nat.zero_le _), (Nat.zero_le _)⟩) ?_
    exact rret hF hx hb hr hlocks dX0_numberOf_92
  have hF := ite_f c8 hF
  by_cases c9 : x2 = (4 : Int32)
  · have hF := ite_t c9 hF
    refine lv_tableIn (tgt := 84) hx hb dX0_numberOf_1 (by rw [c9]; decide) (by rw [c9]; decide) (by rw [c9]; rfl) (by decide) ?_
    refine lv_aload_n hx hb dX0_numberOf_84 rfl (lv_at hl 0 rfl) ?_
    refine lv_iload_n hx hb dX0_numberOf_85 rfl (lv_at hl 1 rfl) ?_
    refine lv_iload_n hx hb dX0_numberOf_86 rfl (lv_at hl 2 rfl) ?_
    refine lv_iconst hx hb dX0_numberOf_87 kc_iconst_2 ?_
    refine lv_isub hx hb dX0_numberOf_88 ?_
    obtain ⟨q21, h20, hF⟩ := bd1_at hF
    refine rcall (va_runV (As := [.int x1, .int (x2 - (2 : Int32))]) (rest := []) S (K0_chequesOf l D cI cZ cS cJ aB aF aZ aK aM bh bF bZ bK bM x1 (x2 - (2 : Int32)) q21 h20) (cwV 2 hts (gd_V wd_436 wd_438 wd_9 wd_25 wd_439) rfl rfl rfl hd0_chequesOf ⟨Nat.le_of_ble_eq_true rfl, Nat.le_of_ble_eq_true rfl⟩) (rPreV hK hP (ci := 0) (q := (RX0, TX0, 5)) rfl rfl) rfl rfl hl.1 rfl (lv_room (Nat.le_of_ble_eq_true rfl)) dX0_numberOf_89 ⟨(Nat.zero_le _), (Nat.zero_le _)⟩) ?_
    exact rret hF hx hb hr hlocks dX0_numberOf_92
  have hF := ite_f c9 hF
  by_cases c10 : x2 = (5 : Int32)
  · have hF := ite_t c10 hF
    refine lv_tableIn (tgt := 84) hx hb dX0_numberOf_1 (by rw [c10]; decide) (by rw [c10]; decide) (by rw [c10]; rfl) (by decide) ?_
    refine lv_aload_n hx hb dX0_numberOf_84 rfl (lv_at hl 0 rfl) ?_
    refine lv_iload_n hx hb dX0_numberOf_85 rfl (lv_at hl 1 rfl) ?_
    refine lv_iload_n hx hb dX0_numberOf_86 rfl (lv_at hl 2 rfl) ?_
    refine lv_iconst hx hb dX0_numberOf_87 kc_iconst_2 ?_
    refine lv_isub hx hb dX0_numberOf_88 ?_
    obtain ⟨q21, h20, hF⟩ := bd1_at hF
    refine rcall (va_runV (As := [.int x1, .int (x2 - (2 : Int32))]) (rest := []) S (K0_chequesOf l D cI cZ cS cJ aB aF aZ aK aM bh bF bZ bK bM x1 (x2 - (2 : Int32)) q21 h20) (cwV 2 hts (gd_V wd_436 wd_438 wd_9 wd_25 wd_439) rfl rfl rfl hd0_chequesOf ⟨Nat.le_of_ble_eq_true rfl, Nat.le_of_ble_eq_true rfl⟩) (rPreV hK hP (ci := 0) (q := (RX0, TX0, 5)) rfl rfl) rfl rfl hl.1 rfl (lv_room (Nat.le_of_ble_eq_true rfl)) dX0_numberOf_89 ⟨(Nat.zero_le _), (Nat.zero_le _)⟩) ?_
    exact rret hF hx hb hr hlocks dX0_numberOf_92
  have hF := ite_f c10 hF
  by_cases c11 : x2 = (6 : Int32)
  · have hF := ite_t c11 hF
    refine lv_tableIn (tgt := 64) hx hb dX0_numberOf_1 (by rw [c11]; decide) (by rw [c11]; decide) (by rw [c11]; rfl) (by decide) ?_
    refine lv_aload_n hx hb dX0_numberOf_64 rfl (lv_at hl 0 rfl) ?_
    refine lv_iload_n hx hb dX0_numberOf_65 rfl (lv_at hl 1 rfl) ?_
    refine lv_iconst hx hb dX0_numberOf_66 kc_iconst_1 ?_
    obtain ⟨q13, h12, hF⟩ := bd1_at hF
    refine rcall (va_runV (As := [.int x1, .int (1 : Int32)]) (rest := []) S (K0_amountsOf l D cI cZ cS cJ aB aF aZ aK aM bh bF bZ bK bM x1 (1 : Int32) q13 h12) (cwV 2 hts (gd_V wd_427 wd_429 wd_7 wd_25 wd_430) rfl rfl rfl hd0_amountsOf ⟨Nat.le_of_ble_eq_true rfl, Nat.le_of_ble_eq_true rfl⟩) (rPreV hK hP (ci := 0) (q := (RX0, TX0, 5)) rfl rfl) rfl rfl hl.1 rfl (lv_room (Nat.le_of_ble_eq_true rfl)) dX0_numberOf_67 ⟨(Nat.zero_le _), (Nat.zero_le _)⟩) ?_
    exact rret hF hx hb hr hlocks dX0_numberOf_70
  have hF := ite_f c11 hF
  by_cases c14 : x2 = (7 : Int32)
  · have hF := ite_t c14 hF
    refine lv_tableIn (tgt := 71) hx hb dX0_numberOf_1 (by rw [c14]; decide) (by rw [c14]; decide) (by rw [c14]; rfl) (by decide) ?_
    refine lv_aload_n hx hb dX0_numberOf_71 rfl (lv_at hl 0 rfl) ?_
    refine lv_iload_n hx hb dX0_numberOf_72 rfl (lv_at hl 1 rfl) ?_
    refine lv_iconst hx hb dX0_numberOf_73 kc_iconst_2 ?_
    obtain ⟨q16, h15, hF⟩ := bd1_at hF
    refine rcall (va_runV (As := [.int x1, .int (2 : Int32)]) (rest := []) S (K0_amountsOf l D cI cZ cS cJ aB aF aZ aK aM bh bF bZ bK bM x1 (2 : Int32) q16 h15) (cwV 2 hts (gd_V wd_427 wd_429 wd_7 wd_25 wd_430) rfl rfl rfl hd0_amountsOf ⟨Nat.le_of_ble_eq_true rfl, Nat.le_of_ble_eq_true rfl⟩) (rPreV hK hP (ci := 0) (q := (RX0, TX0, 5)) rfl rfl) rfl rfl hl.1 rfl (lv_room (Nat.le_of_ble_eq_true rfl)) dX0_numberOf_74 ⟨(Nat.zero_le _), (Nat.zero_le _)⟩) ?_
    exact rret hF hx hb hr hlocks dX0_numberOf_77
  have hF := ite_f c14 hF
  by_cases c17 : x2 = (8 : Int32)
  · have hF := ite_t c17 hF
    refine lv_tableIn (tgt := 78) hx hb dX0_numberOf_1 (by rw [c17]; decide) (by rw [c17]; decide) (by rw [c17]; rfl) (by decide) ?_
    refine lv_aload_n hx hb dX0_numberOf_78 rfl (lv_at hl 0 rfl) ?_
    refine lv_iload_n hx hb dX0_numberOf_79 rfl (lv_at hl 1 rfl) ?_
    obtain ⟨q19, h18, hF⟩ := bd1_at hF
    refine rcall (va_runV (As := [.int x1]) (rest := []) S (K0_firstBlankOf l D cI cZ cS cJ aB aF aZ aK aM bh bF bZ bK bM x1 q19 h18) (cwV 1 hts (gd_V wd_432 wd_434 wd_8 wd_25 wd_435) rfl rfl rfl hd0_firstBlankOf ⟨Nat.le_of_ble_eq_true rfl, Nat.le_of_ble_eq_true rfl⟩) (rPreV hK hP (ci := 0) (q := (RX0, TX0, 5)) rfl rfl) rfl rfl hl.1 rfl (lv_room (Nat.le_of_ble_eq_true rfl)) dX0_numberOf_80 ⟨(Nat.zero_le _), (Nat.zero_le _)⟩) ?_
    exact rret hF hx hb hr hlocks dX0_numberOf_83
  have hF := ite_f c17 hF
  refine lv_tableOut (tgt := 84) hx hb dX0_numberOf_1 (by have q0 := ne_ti c1 (show (0 : Int32).toInt = 0 by decide); have q1 := ne_ti c4 (show (1 : Int32).toInt = 1 by decide); have q2 := ne_ti c7 (show (2 : Int32).toInt = 2 by decide); have q3 := ne_ti c8 (show (3 : Int32).toInt = 3 by decide); have q4 := ne_ti c9 (show (4 : Int32).toInt = 4 by decide); have q5 := ne_ti c10 (show (5 : Int32).toInt = 5 by decide); have q6 := ne_ti c11 (show (6 : Int32).toInt = 6 by decide); have q7 := ne_ti c14 (show (7 : Int32).toInt = 7 by decide); have q8 := ne_ti c17 (show (8 : Int32).toInt = 8 by decide); omega) (by decide) ?_
  refine lv_aload_n hx hb dX0_numberOf_84 rfl (lv_at hl 0 rfl) ?_
  refine lv_iload_n hx hb dX0_numberOf_85 rfl (lv_at hl 1 rfl) ?_
  refine lv_iload_n hx hb dX0_numberOf_86 rfl (lv_at hl 2 rfl) ?_
  refine lv_iconst hx hb dX0_numberOf_87 kc_iconst_2 ?_
  refine lv_isub hx hb dX0_numberOf_88 ?_
  obtain ⟨q21, h20, hF⟩ := bd1_at hF
  refine rcall (va_runV (As := [.int x1, .int (x2 - (2 : Int32))]) (rest := []) S (K0_chequesOf l D cI cZ cS cJ aB aF aZ aK aM bh bF bZ bK bM x1 (x2 - (2 : Int32)) q21 h20) (cwV 2 hts (gd_V wd_436 wd_438 wd_9 wd_25 wd_439) rfl rfl rfl hd0_chequesOf ⟨Nat.le_of_ble_eq_true rfl, Nat.le_of_ble_eq_true rfl⟩) (rPreV hK hP (ci := 0) (q := (RX0, TX0, 5)) rfl rfl) rfl rfl hl.1 rfl (lv_room (Nat.le_of_ble_eq_true rfl)) dX0_numberOf_89 ⟨(Nat.zero_le _), (Nat.zero_le _)⟩) ?_
  exact rret hF hx hb hr hlocks dX0_numberOf_92
abbrev rm0_numberOfAll : Room := { frames := 3, cells := 0, slots := 0, locals := 69 }
theorem hd0_numberOfAll : yX0_numberOfAll.cls = RX0 ∧ yX0_numberOfAll.cls ≠ "java/lang/invoke/MethodHandle" ∧ yX0_numberOfAll.cls ≠ "java/lang/invoke/VarHandle" ∧ (parseMethodDescriptor yX0_numberOfAll.desc).map (fun d => d.parameters.length) = some 1 := by decide +kernel
set_option maxHeartbeats 4000000 in
set_option maxRecDepth 100000 in
theorem K0_numberOfAll (l : Launch) (D : va_G) (cI cZ cS cJ : ClassId) (aB aF aZ aK aM : Nat) (bh : Int32) (bF : Nat → Int32) (bZ : Nat → Int32) (bK : Nat → Int32) (bM : Nat → Int32) (x1 : Int32) (r : Int32) (hF : f0_numberOfAll bh bF bZ bK bM x1 = some (r)) : Met l yX0_numberOfAll wsX0_numberOfAll rm0_numberOfAll (rP D (gT cI cZ cS cJ) (W0 cI aB aF aZ aK aM bh bF bZ bK bM) [.ref aB, .int x1]) (rQ (.int r)) 0 0 (fun _ => False) := by
  refine Met.ofW (cc := cX0_numberOfAll) (maxL := 4) (ret := (some .int)) (by decide) rfl ?_
  intro p e s m args below meth c s₁ B hml hv
  obtain ⟨ha, hK, hP⟩ := hv
  have hx := B.exec
  have hb := B.bytes
  have hr := B.returns
  have hlocks := B.notSynchronized
  have hts : ∀ w ∈ lw_all, w.before args s = true := fun w h => atoms_spec (ws := wsX0_numberOfAll) B.pre w (List.mem_cons_of_mem _ h)
  have hown : s.vm.findClass RX0 = some m.cls := findClass_of_methodNamed B.named
  have S : CallFix p m c cX0_numberOfAll 4 s args lw_all RX0 := ⟨hx, hb, hml, hown, hts⟩
  have hl := lv_entry ([.ref aB, .int x1] : List Value) (n := 4) (Nat.le_of_ble_eq_true rfl)
  refine W.eq (g2 := F0 m 0 ((lg_sl ([.ref aB, .int x1] : List Value) ++ List.replicate (4 - (lg_sl ([.ref aB, .int x1] : List Value)).length) Slot.unset).toArray) []) (by rw [ha]; exact lg_entry_eq _ _ _) ?_
  generalize (lg_sl ([.ref aB, .int x1] : List Value) ++ List.replicate (4 - (lg_sl ([.ref aB, .int x1] : List Value)).length) Slot.unset).toArray = ls at hl ⊢
  have hl : lv_has ls 4 [(0, .ref aB), (1, .int x1)] := hl
  clear ha
  have W_4 : ∀ (x1 : Int32) (n : Nat) (x2 : Int32) (x3 : Int32), ∀ (ls : Array Slot), lv_has ls 4 [(0, .ref aB), (1, .int x1), (2, .int x2), (3, .int x3)] → f0_numberOfAll_l4 bh bF bZ bK bM x1 n x2 x3 = some (r) → rW p l e wsX0_numberOfAll rm0_numberOfAll s m args below meth c (.int r) (F0 m 4 ls []) := by
    intro x1  n
    induction n with
    | zero =>
      intro x2 x3 ls hl hF
      rw [f0_numberOfAll_l4] at hF
      cases hF
    | succ n ih =>
      intro x2 x3 ls hl hF
      rw [f0_numberOfAll_l4] at hF
      refine lv_iload_n hx hb dX0_numberOfAll_4 rfl (lv_at hl 3 rfl) ?_
      refine lv_aload_n hx hb dX0_numberOfAll_5 rfl (lv_at hl 0 rfl) ?_
      refine va_get (D := D) (ci := 0) (v := .int bh) (C := RX0) (T := TX0) (N := 5) hx hb hts i_X0 hown hK.1 hP 0 rfl rfl 4 (by decide) (hts _ wd_74) (fun _ h9 => h9) rfl dX0_numberOfAll_6 ?_
      refine lv_icmp_ge (tgt := 27) hx hb dX0_numberOfAll_9 (by decide) (fun c1 => ?_) (fun c1 => ?_)
      · have hF := ite_t c1 hF
        refine lv_iload_n hx hb dX0_numberOfAll_27 rfl (lv_at hl 2 rfl) ?_
        exact rret hF hx hb hr hlocks dX0_numberOfAll_28
      · have hF := ite_f c1 hF
        refine lv_iload_n hx hb dX0_numberOfAll_12 rfl (lv_at hl 2 rfl) ?_
        refine lv_aload_n hx hb dX0_numberOfAll_13 rfl (lv_at hl 0 rfl) ?_
        refine lv_iload_n hx hb dX0_numberOfAll_14 rfl (lv_at hl 3 rfl) ?_
        refine lv_iload_n hx hb dX0_numberOfAll_15 rfl (lv_at hl 1 rfl) ?_
        obtain ⟨q3, h2, hF⟩ := bd1_at hF
        refine rcall (va_runV (As := [.int x3, .int x1]) (rest := [.int x2]) S (K0_numberOf l D cI cZ cS cJ aB aF aZ aK aM bh bF bZ bK bM x3 x1 q3 h2) (cwV 2 hts (gd_V wd_423 wd_424 wd_425 wd_25 wd_426) rfl rfl rfl hd0_numberOf ⟨Nat.le_of_ble_eq_true rfl, Nat.le_of_ble_eq_true rfl⟩) (rPreV hK hP (ci := 0) (q := (RX0, TX0, 5)) rfl rfl) rfl rfl hl.1 rfl (lv_room (Nat.le_of_ble_eq_true rfl)) dX0_numberOfAll_16 ⟨(Nat.zero_le _), (Nat.zero_le _)⟩) ?_
        refine lv_iadd hx hb dX0_numberOfAll_19 ?_
        refine lv_istore_n (lv' := [(2, .int (x2 + q3)), (0, .ref aB), (1, .int x1), (3, .int x3)]) hx hb dX0_numberOfAll_20 rfl hl (by decide) rfl (fun ls hl => ?_)
        refine lv_iinc (v := (x3 + 1)) (lv' := [(3, .int (x3 + 1)), (2, .int (x2 + q3)), (0, .ref aB), (1, .int x1)]) hx hb dX0_numberOfAll_21 hl (k := 3) rfl rfl (by decide) rfl (fun ls hl => ?_)
        refine lv_goto (tgt := 4) hx hb dX0_numberOfAll_24 (by decide) ?_
        exact ih (x2 + q3) (x3 + 1) ls (lv_sub hl [2, 3, 1, 0] rfl) hF
  rw [f0_numberOfAll] at hF
  show rW p l e wsX0_numberOfAll rm0_numberOfAll s m args below meth c (.int r) (F0 m 0 ls [])
  refine lv_iconst hx hb dX0_numberOfAll_0 kc_iconst_0 ?_
  refine lv_istore_n (lv' := [(2, .int (0 : Int32)), (0, .ref aB), (1, .int x1)]) hx hb dX0_numberOfAll_1 rfl hl (by decide) rfl (fun ls hl => ?_)
  refine lv_iconst hx hb dX0_numberOfAll_2 kc_iconst_0 ?_
  refine lv_istore_n (lv' := [(3, .int (0 : Int32)), (2, .int (0 : Int32)), (0, .ref aB), (1, .int x1)]) hx hb dX0_numberOfAll_3 rfl hl (by decide) rfl (fun ls hl => ?_)
  exact W_4 x1  fu (0 : Int32) (0 : Int32) ls (lv_sub hl [2, 3, 1, 0] rfl) hF
abbrev rm0_booksBefore : Room := { frames := 1, cells := 0, slots := 0, locals := 21 }
theorem hd0_booksBefore : yX0_booksBefore.cls = RX0 ∧ yX0_booksBefore.cls ≠ "java/lang/invoke/MethodHandle" ∧ yX0_booksBefore.cls ≠ "java/lang/invoke/VarHandle" ∧ (parseMethodDescriptor yX0_booksBefore.desc).map (fun d => d.parameters.length) = some 1 := by decide +kernel
set_option maxHeartbeats 4000000 in
set_option maxRecDepth 100000 in
theorem K0_booksBefore (l : Launch) (D : va_G) (cI cZ cS cJ : ClassId) (aB aF aZ aK aM : Nat) (bh : Int32) (bF : Nat → Int32) (bZ : Nat → Int32) (bK : Nat → Int32) (bM : Nat → Int32) (x1 : Int32) (r : Int32) (hF : f0_booksBefore bh bF x1 = some (r)) : Met l yX0_booksBefore wsX0_booksBefore rm0_booksBefore (rP D (gT cI cZ cS cJ) (W0 cI aB aF aZ aK aM bh bF bZ bK bM) [.ref aB, .int x1]) (rQ (.int r)) 0 0 (fun _ => False) := by
  refine Met.ofW (cc := cX0_booksBefore) (maxL := 4) (ret := (some .int)) (by decide) rfl ?_
  intro p e s m args below meth c s₁ B hml hv
  obtain ⟨ha, hK, hP⟩ := hv
  have hx := B.exec
  have hb := B.bytes
  have hr := B.returns
  have hlocks := B.notSynchronized
  have hts : ∀ w ∈ lw_all, w.before args s = true := fun w h => atoms_spec (ws := wsX0_booksBefore) B.pre w (List.mem_cons_of_mem _ h)
  have hown : s.vm.findClass RX0 = some m.cls := findClass_of_methodNamed B.named
  have S : CallFix p m c cX0_booksBefore 4 s args lw_all RX0 := ⟨hx, hb, hml, hown, hts⟩
  have hl := lv_entry ([.ref aB, .int x1] : List Value) (n := 4) (Nat.le_of_ble_eq_true rfl)
  refine W.eq (g2 := F0 m 0 ((lg_sl ([.ref aB, .int x1] : List Value) ++ List.replicate (4 - (lg_sl ([.ref aB, .int x1] : List Value)).length) Slot.unset).toArray) []) (by rw [ha]; exact lg_entry_eq _ _ _) ?_
  generalize (lg_sl ([.ref aB, .int x1] : List Value) ++ List.replicate (4 - (lg_sl ([.ref aB, .int x1] : List Value)).length) Slot.unset).toArray = ls at hl ⊢
  have hl : lv_has ls 4 [(0, .ref aB), (1, .int x1)] := hl
  clear ha
  have W_4 : ∀ (x1 : Int32) (n : Nat) (x2 : Int32) (x3 : Int32), ∀ (ls : Array Slot), lv_has ls 4 [(0, .ref aB), (1, .int x1), (2, .int x2), (3, .int x3)] → f0_booksBefore_l4 bh bF x1 n x2 x3 = some (r) → rW p l e wsX0_booksBefore rm0_booksBefore s m args below meth c (.int r) (F0 m 4 ls []) := by
    intro x1  n
    induction n with
    | zero =>
      intro x2 x3 ls hl hF
      rw [f0_booksBefore_l4] at hF
      cases hF
    | succ n ih =>
      intro x2 x3 ls hl hF
      rw [f0_booksBefore_l4] at hF
      refine lv_iload_n hx hb dX0_booksBefore_4 rfl (lv_at hl 3 rfl) ?_
      refine lv_aload_n hx hb dX0_booksBefore_5 rfl (lv_at hl 0 rfl) ?_
      refine va_get (D := D) (ci := 0) (v := .int bh) (C := RX0) (T := TX0) (N := 5) hx hb hts i_X0 hown hK.1 hP 0 rfl rfl 4 (by decide) (hts _ wd_74) (fun _ h9 => h9) rfl dX0_booksBefore_6 ?_
      refine lv_icmp_ge (tgt := 30) hx hb dX0_booksBefore_9 (by decide) (fun c1 => ?_) (fun c1 => ?_)
      · have hF := ite_t c1 hF
        refine lv_iload_n hx hb dX0_booksBefore_30 rfl (lv_at hl 2 rfl) ?_
        exact rret hF hx hb hr hlocks dX0_booksBefore_31
      · have hF := ite_f c1 hF
        refine lv_aload_n hx hb dX0_booksBefore_12 rfl (lv_at hl 0 rfl) ?_
        refine lv_iload_n hx hb dX0_booksBefore_13 rfl (lv_at hl 3 rfl) ?_
        obtain ⟨q3, h2, hF⟩ := bd1_at hF
        refine rcall (va_runV (As := [.int x3]) (rest := []) S (K0_firstOf l D cI cZ cS cJ aB aF aZ aK aM bh bF bZ bK bM x3 q3 h2) (cwV 1 hts (gd_V wd_165 wd_166 wd_167 wd_25 wd_168) rfl rfl rfl hd0_firstOf ⟨Nat.le_of_ble_eq_true rfl, Nat.le_of_ble_eq_true rfl⟩) (rPreV hK hP (ci := 0) (q := (RX0, TX0, 5)) rfl rfl) rfl rfl hl.1 rfl (lv_room (Nat.le_of_ble_eq_true rfl)) dX0_booksBefore_14 ⟨(Nat.zero_le _), (Nat.zero_le _)⟩) ?_
        refine lv_iload_n hx hb dX0_booksBefore_17 rfl (lv_at hl 1 rfl) ?_
        refine lv_icmp_ge (tgt := 24) hx hb dX0_booksBefore_18 (by decide) (fun c4 => ?_) (fun c4 => ?_)
        · rw [if_pos c4] at hF
          refine lv_iinc (v := (x3 + 1)) (lv' := [(3, .int (x3 + 1)), (0, .ref aB), (1, .int x1), (2, .int x2)]) hx hb dX0_booksBefore_24 hl (k := 3) rfl rfl (by decide) rfl (fun ls hl => ?_)
          refine lv_goto (tgt := 4) hx hb dX0_booksBefore_27 (by decide) ?_
          exact ih x2 (x3 + 1) ls (lv_sub hl [1, 2, 3, 0] rfl) hF
        · rw [if_neg c4] at hF
          refine lv_iinc (v := (x2 + 1)) (lv' := [(2, .int (x2 + 1)), (0, .ref aB), (1, .int x1), (3, .int x3)]) hx hb dX0_booksBefore_21 hl (k := 2) rfl rfl (by decide) rfl (fun ls hl => ?_)
          refine lv_iinc (v := (x3 + 1)) (lv' := [(3, .int (x3 + 1)), (2, .int (x2 + 1)), (0, .ref aB), (1, .int x1)]) hx hb dX0_booksBefore_24 hl (k := 3) rfl rfl (by decide) rfl (fun ls hl => ?_)
          refine lv_goto (tgt := 4) hx hb dX0_booksBefore_27 (by decide) ?_
          exact ih (x2 + 1) (x3 + 1) ls (lv_sub hl [2, 3, 1, 0] rfl) hF
  rw [f0_booksBefore] at hF
  show rW p l e wsX0_booksBefore rm0_booksBefore s m args below meth c (.int r) (F0 m 0 ls [])
  refine lv_iconst hx hb dX0_booksBefore_0 kc_iconst_0 ?_
  refine lv_istore_n (lv' := [(2, .int (0 : Int32)), (0, .ref aB), (1, .int x1)]) hx hb dX0_booksBefore_1 rfl hl (by decide) rfl (fun ls hl => ?_)
  refine lv_iconst hx hb dX0_booksBefore_2 kc_iconst_0 ?_
  refine lv_istore_n (lv' := [(3, .int (0 : Int32)), (2, .int (0 : Int32)), (0, .ref aB), (1, .int x1)]) hx hb dX0_booksBefore_3 rfl hl (by decide) rfl (fun ls hl => ?_)
  exact W_4 x1  fu (0 : Int32) (0 : Int32) ls (lv_sub hl [2, 3, 1, 0] rfl) hF
abbrev rm0_bookOfRank : Room := { frames := 2, cells := 0, slots := 0, locals := 44 }
theorem hd0_bookOfRank : yX0_bookOfRank.cls = RX0 ∧ yX0_bookOfRank.cls ≠ "java/lang/invoke/MethodHandle" ∧ yX0_bookOfRank.cls ≠ "java/lang/invoke/VarHandle" ∧ (parseMethodDescriptor yX0_bookOfRank.desc).map (fun d => d.parameters.length) = some 1 := by decide +kernel
set_option maxHeartbeats 4000000 in
set_option maxRecDepth 100000 in
theorem K0_bookOfRank (l : Launch) (D : va_G) (cI cZ cS cJ : ClassId) (aB aF aZ aK aM : Nat) (bh : Int32) (bF : Nat → Int32) (bZ : Nat → Int32) (bK : Nat → Int32) (bM : Nat → Int32) (x1 : Int32) (r : Int32) (hF : f0_bookOfRank bh bF x1 = some (r)) : Met l yX0_bookOfRank wsX0_bookOfRank rm0_bookOfRank (rP D (gT cI cZ cS cJ) (W0 cI aB aF aZ aK aM bh bF bZ bK bM) [.ref aB, .int x1]) (rQ (.int r)) 0 0 (fun _ => False) := by
  refine Met.ofW (cc := cX0_bookOfRank) (maxL := 3) (ret := (some .int)) (by decide) rfl ?_
  intro p e s m args below meth c s₁ B hml hv
  obtain ⟨ha, hK, hP⟩ := hv
  have hx := B.exec
  have hb := B.bytes
  have hr := B.returns
  have hlocks := B.notSynchronized
  have hts : ∀ w ∈ lw_all, w.before args s = true := fun w h => atoms_spec (ws := wsX0_bookOfRank) B.pre w (List.mem_cons_of_mem _ h)
  have hown : s.vm.findClass RX0 = some m.cls := findClass_of_methodNamed B.named
  have S : CallFix p m c cX0_bookOfRank 3 s args lw_all RX0 := ⟨hx, hb, hml, hown, hts⟩
  have hl := lv_entry ([.ref aB, .int x1] : List Value) (n := 3) (Nat.le_of_ble_eq_true rfl)
  refine W.eq (g2 := F0 m 0 ((lg_sl ([.ref aB, .int x1] : List Value) ++ List.replicate (3 - (lg_sl ([.ref aB, .int x1] : List Value)).length) Slot.unset).toArray) []) (by rw [ha]; exact lg_entry_eq _ _ _) ?_
  generalize (lg_sl ([.ref aB, .int x1] : List Value) ++ List.replicate (3 - (lg_sl ([.ref aB, .int x1] : List Value)).length) Slot.unset).toArray = ls at hl ⊢
  have hl : lv_has ls 3 [(0, .ref aB), (1, .int x1)] := hl
  clear ha
  have W_2 : ∀ (x1 : Int32) (n : Nat) (x2 : Int32), ∀ (ls : Array Slot), lv_has ls 3 [(0, .ref aB), (1, .int x1), (2, .int x2)] → f0_bookOfRank_l2 bh bF x1 n x2 = some (r) → rW p l e wsX0_bookOfRank rm0_bookOfRank s m args below meth c (.int r) (F0 m 2 ls []) := by
    intro x1  n
    induction n with
    | zero =>
      intro x2 ls hl hF
      rw [f0_bookOfRank_l2] at hF
      cases hF
    | succ n ih =>
      intro x2 ls hl hF
      rw [f0_bookOfRank_l2] at hF
      refine lv_iload_n hx hb dX0_bookOfRank_2 rfl (lv_at hl 2 rfl) ?_
      refine lv_aload_n hx hb dX0_bookOfRank_3 rfl (lv_at hl 0 rfl) ?_
      refine va_get (D := D) (ci := 0) (v := .int bh) (C := RX0) (T := TX0) (N := 5) hx hb hts i_X0 hown hK.1 hP 0 rfl rfl 4 (by decide) (hts _ wd_74) (fun _ h9 => h9) rfl dX0_bookOfRank_4 ?_
      refine lv_icmp_ge (tgt := 31) hx hb dX0_bookOfRank_7 (by decide) (fun c1 => ?_) (fun c1 => ?_)
      · have hF := ite_t c1 hF
        refine lv_iconst hx hb dX0_bookOfRank_31 kc_iconst_m1 ?_
        exact rret hF hx hb hr hlocks dX0_bookOfRank_32
      · have hF := ite_f c1 hF
        refine lv_aload_n hx hb dX0_bookOfRank_10 rfl (lv_at hl 0 rfl) ?_
        refine lv_aload_n hx hb dX0_bookOfRank_11 rfl (lv_at hl 0 rfl) ?_
        refine lv_iload_n hx hb dX0_bookOfRank_12 rfl (lv_at hl 2 rfl) ?_
        obtain ⟨q3, h2, hF⟩ := bd1_at hF
        refine rcall (va_runV (As := [.int x2]) (rest := [.ref aB]) S (K0_firstOf l D cI cZ cS cJ aB aF aZ aK aM bh bF bZ bK bM x2 q3 h2) (cwV 1 hts (gd_V wd_165 wd_166 wd_167 wd_25 wd_168) rfl rfl rfl hd0_firstOf ⟨Nat.le_of_ble_eq_true rfl, Nat.le_of_ble_eq_true rfl⟩) (rPreV hK hP (ci := 0) (q := (RX0, TX0, 5)) rfl rfl) rfl rfl hl.1 rfl (lv_room (Nat.le_of_ble_eq_true rfl)) dX0_bookOfRank_13 ⟨(Nat.zero_le _), (Nat.zero_le _)⟩) ?_
        obtain ⟨q5, h4, hF⟩ := bd1_at hF
        refine rcall (va_runV (As := [.int q3]) (rest := []) S (K0_booksBefore l D cI cZ cS cJ aB aF aZ aK aM bh bF bZ bK bM q3 q5 h4) (cwV 1 hts (gd_V wd_603 wd_605 wd_19 wd_25 wd_606) rfl rfl rfl hd0_booksBefore ⟨Nat.le_of_ble_eq_true rfl, Nat.le_of_ble_eq_true rfl⟩) (rPreV hK hP (ci := 0) (q := (RX0, TX0, 5)) rfl rfl) rfl rfl hl.1 rfl (lv_room (Nat.le_of_ble_eq_true rfl)) dX0_bookOfRank_16 ⟨(Nat.zero_le _), (Nat.zero_le _)⟩) ?_
        refine lv_iload_n hx hb dX0_bookOfRank_19 rfl (lv_at hl 1 rfl) ?_
        refine lv_icmp_ne (tgt := 25) hx hb dX0_bookOfRank_20 (by decide) (fun c6 => ?_) (fun c6 => ?_)
        · have hF := ite_f c6 hF
          refine lv_iinc (v := (x2 + 1)) (lv' := [(2, .int (x2 + 1)), (0, .ref aB), (1, .int x1)]) hx hb dX0_bookOfRank_25 hl (k := 2) rfl rfl (by decide) rfl (fun ls hl => ?_)
          refine lv_goto (tgt := 2) hx hb dX0_bookOfRank_28 (by decide) ?_
          exact ih (x2 + 1) ls (lv_sub hl [1, 2, 0] rfl) hF
        · have hF := ite_t c6 hF
          refine lv_iload_n hx hb dX0_bookOfRank_23 rfl (lv_at hl 2 rfl) ?_
          exact rret hF hx hb hr hlocks dX0_bookOfRank_24
  rw [f0_bookOfRank] at hF
  show rW p l e wsX0_bookOfRank rm0_bookOfRank s m args below meth c (.int r) (F0 m 0 ls [])
  refine lv_iconst hx hb dX0_bookOfRank_0 kc_iconst_0 ?_
  refine lv_istore_n (lv' := [(2, .int (0 : Int32)), (0, .ref aB), (1, .int x1)]) hx hb dX0_bookOfRank_1 rfl hl (by decide) rfl (fun ls hl => ?_)
  exact W_2 x1  fu (0 : Int32) ls (lv_sub hl [1, 2, 0] rfl) hF
abbrev rm0_serialOfRank : Room := { frames := 3, cells := 0, slots := 0, locals := 66 }
theorem hd0_serialOfRank : yX0_serialOfRank.cls = RX0 ∧ yX0_serialOfRank.cls ≠ "java/lang/invoke/MethodHandle" ∧ yX0_serialOfRank.cls ≠ "java/lang/invoke/VarHandle" ∧ (parseMethodDescriptor yX0_serialOfRank.desc).map (fun d => d.parameters.length) = some 1 := by decide +kernel
set_option maxHeartbeats 4000000 in
set_option maxRecDepth 100000 in
theorem K0_serialOfRank (l : Launch) (D : va_G) (cI cZ cS cJ : ClassId) (aB aF aZ aK aM : Nat) (bh : Int32) (bF : Nat → Int32) (bZ : Nat → Int32) (bK : Nat → Int32) (bM : Nat → Int32) (x1 : Int32) (r : Int32) (hF : f0_serialOfRank bh bF bZ x1 = some (r)) : Met l yX0_serialOfRank wsX0_serialOfRank rm0_serialOfRank (rP D (gT cI cZ cS cJ) (W0 cI aB aF aZ aK aM bh bF bZ bK bM) [.ref aB, .int x1]) (rQ (.int r)) 0 0 (fun _ => False) := by
  refine Met.ofW (cc := cX0_serialOfRank) (maxL := 6) (ret := (some .int)) (by decide) rfl ?_
  intro p e s m args below meth c s₁ B hml hv
  obtain ⟨ha, hK, hP⟩ := hv
  have hx := B.exec
  have hb := B.bytes
  have hr := B.returns
  have hlocks := B.notSynchronized
  have hts : ∀ w ∈ lw_all, w.before args s = true := fun w h => atoms_spec (ws := wsX0_serialOfRank) B.pre w (List.mem_cons_of_mem _ h)
  have hown : s.vm.findClass RX0 = some m.cls := findClass_of_methodNamed B.named
  have S : CallFix p m c cX0_serialOfRank 6 s args lw_all RX0 := ⟨hx, hb, hml, hown, hts⟩
  have hl := lv_entry ([.ref aB, .int x1] : List Value) (n := 6) (Nat.le_of_ble_eq_true rfl)
  refine W.eq (g2 := F0 m 0 ((lg_sl ([.ref aB, .int x1] : List Value) ++ List.replicate (6 - (lg_sl ([.ref aB, .int x1] : List Value)).length) Slot.unset).toArray) []) (by rw [ha]; exact lg_entry_eq _ _ _) ?_
  generalize (lg_sl ([.ref aB, .int x1] : List Value) ++ List.replicate (6 - (lg_sl ([.ref aB, .int x1] : List Value)).length) Slot.unset).toArray = ls at hl ⊢
  have hl : lv_has ls 6 [(0, .ref aB), (1, .int x1)] := hl
  clear ha
  have W_4 : ∀  (n : Nat) (x2 : Int32) (x3 : Int32), ∀ (ls : Array Slot), lv_has ls 6 [(0, .ref aB), (2, .int x2), (3, .int x3)] → f0_serialOfRank_l4 bh bF bZ n x2 x3 = some (r) → rW p l e wsX0_serialOfRank rm0_serialOfRank s m args below meth c (.int r) (F0 m 4 ls []) := by
    intro   n
    induction n with
    | zero =>
      intro x2 x3 ls hl hF
      rw [f0_serialOfRank_l4] at hF
      cases hF
    | succ n ih =>
      intro x2 x3 ls hl hF
      rw [f0_serialOfRank_l4] at hF
      refine lv_iload_n hx hb dX0_serialOfRank_4 rfl (lv_at hl 2 rfl) ?_
      refine lv_aload_n hx hb dX0_serialOfRank_5 rfl (lv_at hl 0 rfl) ?_
      refine va_get (D := D) (ci := 0) (v := .int bh) (C := RX0) (T := TX0) (N := 5) hx hb hts i_X0 hown hK.1 hP 0 rfl rfl 4 (by decide) (hts _ wd_74) (fun _ h9 => h9) rfl dX0_serialOfRank_6 ?_
      refine lv_icmp_ge (tgt := 53) hx hb dX0_serialOfRank_9 (by decide) (fun c1 => ?_) (fun c1 => ?_)
      · have hF := ite_t c1 hF
        refine lv_iconst hx hb dX0_serialOfRank_53 kc_iconst_m1 ?_
        exact rret hF hx hb hr hlocks dX0_serialOfRank_54
      · have hF := ite_f c1 hF
        refine lv_aload_n hx hb dX0_serialOfRank_12 rfl (lv_at hl 0 rfl) ?_
        refine lv_iload_n hx hb dX0_serialOfRank_13 rfl (lv_at hl 2 rfl) ?_
        obtain ⟨q3, h2, hF⟩ := bd1_at hF
        refine rcall (va_runV (As := [.int x3]) (rest := []) S (K0_bookOfRank l D cI cZ cS cJ aB aF aZ aK aM bh bF bZ bK bM x3 q3 h2) (cwV 1 hts (gd_V wd_599 wd_600 wd_601 wd_25 wd_602) rfl rfl rfl hd0_bookOfRank ⟨Nat.le_of_ble_eq_true rfl, Nat.le_of_ble_eq_true rfl⟩) (rPreV hK hP (ci := 0) (q := (RX0, TX0, 5)) rfl rfl) rfl rfl hl.1 rfl (lv_room (Nat.le_of_ble_eq_true rfl)) dX0_serialOfRank_14 ⟨(Nat.zero_le _), (Nat.zero_le _)⟩) ?_
        refine lv_istore (lv' := [(4, .int q3), (0, .ref aB), (2, .int x2), (3, .int x3)]) hx hb dX0_serialOfRank_17 hl (by decide) rfl (fun ls hl => ?_)
        refine lv_aload_n hx hb dX0_serialOfRank_19 rfl (lv_at hl 1 rfl) ?_
        refine lv_iload hx hb dX0_serialOfRank_20 (lv_at hl 0 rfl) ?_
        obtain ⟨q5, h4, hF⟩ := bd1_at hF
        refine rcall (va_runV (As := [.int q3]) (rest := []) S (K0_sizeOf l D cI cZ cS cJ aB aF aZ aK aM bh bF bZ bK bM q3 q5 h4) (cwV 1 hts (gd_V wd_169 wd_170 wd_171 wd_25 wd_172) rfl rfl rfl hd0_sizeOf ⟨Nat.le_of_ble_eq_true rfl, Nat.le_of_ble_eq_true rfl⟩) (rPreV hK hP (ci := 0) (q := (RX0, TX0, 5)) rfl rfl) rfl rfl hl.1 rfl (lv_room (Nat.le_of_ble_eq_true rfl)) dX0_serialOfRank_22 ⟨(Nat.zero_le _), (Nat.zero_le _)⟩) ?_
        refine lv_istore (lv' := [(5, .int q5), (4, .int q3), (0, .ref aB), (2, .int x2), (3, .int x3)]) hx hb dX0_serialOfRank_25 hl (by decide) rfl (fun ls hl => ?_)
        refine lv_iload_n hx hb dX0_serialOfRank_27 rfl (lv_at hl 3 rfl) ?_
        refine lv_iload hx hb dX0_serialOfRank_28 (lv_at hl 0 rfl) ?_
        refine lv_icmp_ge (tgt := 42) hx hb dX0_serialOfRank_30 (by decide) (fun c6 => ?_) (fun c6 => ?_)
        · have hF := ite_t c6 hF
          refine lv_iload_n hx hb dX0_serialOfRank_42 rfl (lv_at hl 3 rfl) ?_
          refine lv_iload hx hb dX0_serialOfRank_43 (lv_at hl 0 rfl) ?_
          refine lv_isub hx hb dX0_serialOfRank_45 ?_
          refine lv_istore_n (lv' := [(2, .int (x2 - q5)), (5, .int q5), (4, .int q3), (0, .ref aB), (3, .int x3)]) hx hb dX0_serialOfRank_46 rfl hl (by decide) rfl (fun ls hl => ?_)
          refine lv_iinc (v := (x3 + 1)) (lv' := [(3, .int (x3 + 1)), (2, .int (x2 - q5)), (5, .int q5), (4, .int q3), (0, .ref aB)]) hx hb dX0_serialOfRank_47 hl (k := 4) rfl rfl (by decide) rfl (fun ls hl => ?_)
          refine lv_goto (tgt := 4) hx hb dX0_serialOfRank_50 (by decide) ?_
          exact ih (x2 - q5) (x3 + 1) ls (lv_sub hl [4, 1, 0] rfl) hF
        · have hF := ite_f c6 hF
          refine lv_aload_n hx hb dX0_serialOfRank_33 rfl (lv_at hl 2 rfl) ?_
          refine lv_iload hx hb dX0_serialOfRank_34 (lv_at hl 1 rfl) ?_
          obtain ⟨q8, h7, hF⟩ := bd1_at hF
          refine rcall (va_runV (As := [.int q3]) (rest := []) S (K0_firstOf l D cI cZ cS cJ aB aF aZ aK aM bh bF bZ bK bM q3 q8 h7) (cwV 1 hts (gd_V wd_165 wd_166 wd_167 wd_25 wd_168) rfl rfl rfl hd0_firstOf ⟨Nat.le_of_ble_eq_true rfl, Nat.le_of_ble_eq_true rfl⟩) (rPreV hK hP (ci := 0) (q := (RX0, TX0, 5)) rfl rfl) rfl rfl hl.1 rfl (lv_room (Nat.le_of_ble_eq_true rfl)) dX0_serialOfRank_36 ⟨(Nat.zero_le _), (Nat.zero_le _)⟩) ?_
          refine lv_iload_n hx hb dX0_serialOfRank_39 rfl (lv_at hl 3 rfl) ?_
          refine lv_iadd hx hb dX0_serialOfRank_40 ?_
          exact rret hF hx hb hr hlocks dX0_serialOfRank_41
  rw [f0_serialOfRank] at hF
  show rW p l e wsX0_serialOfRank rm0_serialOfRank s m args below meth c (.int r) (F0 m 0 ls [])
  refine lv_iload_n hx hb dX0_serialOfRank_0 rfl (lv_at hl 1 rfl) ?_
  refine lv_istore_n (lv' := [(2, .int x1), (0, .ref aB), (1, .int x1)]) hx hb dX0_serialOfRank_1 rfl hl (by decide) rfl (fun ls hl => ?_)
  refine lv_iconst hx hb dX0_serialOfRank_2 kc_iconst_0 ?_
  refine lv_istore_n (lv' := [(3, .int (0 : Int32)), (2, .int x1), (0, .ref aB), (1, .int x1)]) hx hb dX0_serialOfRank_3 rfl hl (by decide) rfl (fun ls hl => ?_)
  exact W_4   fu x1 (0 : Int32) ls (lv_sub hl [2, 1, 0] rfl) hF
abbrev rm0_copyFrom : Room := { frames := 1, cells := 0, slots := 0, locals := 22 }
theorem hd0_copyFrom : yX0_copyFrom.cls = RX0 ∧ yX0_copyFrom.cls ≠ "java/lang/invoke/MethodHandle" ∧ yX0_copyFrom.cls ≠ "java/lang/invoke/VarHandle" ∧ (parseMethodDescriptor yX0_copyFrom.desc).map (fun d => d.parameters.length) = some 1 := by decide +kernel
set_option maxHeartbeats 4000000 in
set_option maxRecDepth 100000 in
theorem K0_copyFrom (l : Launch) (D : va_G) (cI cZ cS cJ : ClassId) (aB aF aZ aK aM aBo aFo aZo aKo aMo : Nat) (bh : Int32) (bF : Nat → Int32) (bZ : Nat → Int32) (bK : Nat → Int32) (bM : Nat → Int32) (bho : Int32) (bFo : Nat → Int32) (bZo : Nat → Int32) (bKo : Nat → Int32) (bMo : Nat → Int32) (z_bh : Int32) (z_bF : Nat → Int32) (z_bZ : Nat → Int32) (z_bK : Nat → Int32) (z_bM : Nat → Int32) (hF : f0_copyFrom bh bF bZ bK bM bho bFo bZo bKo bMo = some (z_bh, z_bF, z_bZ, z_bK, z_bM)) : Met l yX0_copyFrom wsX0_copyFrom rm0_copyFrom (uP D (gT cI cZ cS cJ) (W00 cI aB aF aZ aK aM aBo aFo aZo aKo aMo bh bF bZ bK bM bho bFo bZo bKo bMo) [.ref aB, .ref aBo]) (uQ D none (uA (W00 cI aB aF aZ aK aM aBo aFo aZo aKo aMo bh bF bZ bK bM bho bFo bZo bKo bMo)) (W00 cI aB aF aZ aK aM aBo aFo aZo aKo aMo z_bh z_bF z_bZ z_bK z_bM bho bFo bZo bKo bMo)) 0 0 (uA (W00 cI aB aF aZ aK aM aBo aFo aZo aKo aMo bh bF bZ bK bM bho bFo bZo bKo bMo)) := by
  refine Met.ofW (cc := cX0_copyFrom) (maxL := 2) (ret := none) (by decide) rfl ?_
  intro p e s m args below meth c s₁ B hml hv
  obtain ⟨ha, hK, hP, hD0⟩ := hv
  have hx := B.exec
  have hb := B.bytes
  have hr := B.returns
  have hlocks := B.notSynchronized
  have hts : ∀ w ∈ lw_all, w.before args s = true := fun w h => atoms_spec (ws := wsX0_copyFrom) B.pre w (List.mem_cons_of_mem _ h)
  have hown : s.vm.findClass RX0 = some m.cls := findClass_of_methodNamed B.named
  have S : CallFix p m c cX0_copyFrom 2 s args lw_all RX0 := ⟨hx, hb, hml, hown, hts⟩
  have hD := hD0.own
  generalize uA (W00 cI aB aF aZ aK aM aBo aFo aZo aKo aMo bh bF bZ bK bM bho bFo bZo bKo bMo) = A0 at hD ⊢
  have hS : va_S A0 s.heap s.heap [] := va_S.rf
  have hl := lv_entry ([.ref aB, .ref aBo] : List Value) (n := 2) (Nat.le_of_ble_eq_true rfl)
  refine W.eq (g2 := F0 m 0 ((lg_sl ([.ref aB, .ref aBo] : List Value) ++ List.replicate (2 - (lg_sl ([.ref aB, .ref aBo] : List Value)).length) Slot.unset).toArray) []) (by rw [ha]; exact lg_entry_eq _ _ _) ?_
  generalize (lg_sl ([.ref aB, .ref aBo] : List Value) ++ List.replicate (2 - (lg_sl ([.ref aB, .ref aBo] : List Value)).length) Slot.unset).toArray = ls at hl ⊢
  have hl : lv_has ls 2 [(0, .ref aB), (1, .ref aBo)] := hl
  rw [f0_copyFrom] at hF
  show uW p l e wsX0_copyFrom rm0_copyFrom s m args below meth c D none A0 (W00 cI aB aF aZ aK aM aBo aFo aZo aKo aMo z_bh z_bF z_bZ z_bK z_bM bho bFo bZo bKo bMo) s.heap [] (F0 m 0 ls [])
  refine lv_aload_n hx hb dX0_copyFrom_0 rfl (lv_at hl 1 rfl) ?_
  refine va_get (D := D) (ci := 0) (v := .ref aFo) (C := RX0) (T := TX0) (N := 5) hx hb hts i_X0 hown hK.1 hP 5 rfl rfl 0 (by decide) (hts _ wd_70) (fun _ h9 => h9) rfl dX0_copyFrom_1 ?_
  refine lv_aload_n hx hb dX0_copyFrom_4 rfl (lv_at hl 0 rfl) ?_
  refine va_get (D := D) (ci := 0) (v := .ref aF) (C := RX0) (T := TX0) (N := 5) hx hb hts i_X0 hown hK.1 hP 0 rfl rfl 0 (by decide) (hts _ wd_70) (fun _ h9 => h9) rfl dX0_copyFrom_5 ?_
  obtain ⟨u2, h1, hF⟩ := bd1_at hF
  refine ucallv (ws' := (W00 cI aB aF aZ aK aM aBo aFo aZo aKo aMo bh u2 bZ bK bM bho bFo bZo bKo bMo)) (va_runSN (As := [.ref aFo, .ref aF]) (rest := []) S (K5_copyRowE l D cI cZ cS cJ aFo aF 6 6 bFo bF u2 h1) ⟨va_cnB 2 hts (gd_all wd_297) rfl rfl rfl hK.2.2.1 (hts _ wd_22) hdn5_copyRow ⟨Nat.le_of_ble_eq_true rfl, Nat.le_of_ble_eq_true rfl⟩, (hts _ wd_296), trivial⟩ (uPreS hK (hP.sub (ws' := (WC cI aFo aF 6 6 bFo bF)) [6, 1] rfl) (hD.sub (ws' := (WC cI aFo aF 6 6 bFo bF)) [6, 1] (by decide) rfl)) rfl rfl hl.1 rfl (lv_room (Nat.le_of_ble_eq_true rfl)) dX0_copyFrom_8 ⟨(Nat.zero_le _), (Nat.zero_le _)⟩) hS hP hD [6, 1] rfl rfl rfl rfl (fun H locs hP hD hS => ?_)
  refine lv_aload_n hx hb dX0_copyFrom_11 rfl (lv_at hl 1 rfl) ?_
  refine va_get (D := D) (ci := 0) (v := .ref aZo) (C := RX0) (T := TX0) (N := 5) hx hb hts i_X0 hown hK.1 hP 5 rfl rfl 1 (by decide) (hts _ wd_71) (fun _ h9 => h9) rfl dX0_copyFrom_12 ?_
  refine lv_aload_n hx hb dX0_copyFrom_15 rfl (lv_at hl 0 rfl) ?_
  refine va_get (D := D) (ci := 0) (v := .ref aZ) (C := RX0) (T := TX0) (N := 5) hx hb hts i_X0 hown hK.1 hP 0 rfl rfl 1 (by decide) (hts _ wd_71) (fun _ h9 => h9) rfl dX0_copyFrom_16 ?_
  obtain ⟨u4, h3, hF⟩ := bd1_at hF
  refine ucallv (ws' := (W00 cI aB aF aZ aK aM aBo aFo aZo aKo aMo bh u2 u4 bK bM bho bFo bZo bKo bMo)) (va_runSN (As := [.ref aZo, .ref aZ]) (rest := []) S (K5_copyRowE l D cI cZ cS cJ aZo aZ 6 6 bZo bZ u4 h3) ⟨va_cnB 2 hts (gd_all wd_297) rfl rfl rfl hK.2.2.1 (hts _ wd_22) hdn5_copyRow ⟨Nat.le_of_ble_eq_true rfl, Nat.le_of_ble_eq_true rfl⟩, (hts _ wd_296), trivial⟩ (uPreS hK (hP.sub (ws' := (WC cI aZo aZ 6 6 bZo bZ)) [7, 2] rfl) (hD.sub (ws' := (WC cI aZo aZ 6 6 bZo bZ)) [7, 2] (by decide) rfl)) rfl rfl hl.1 rfl (lv_room (Nat.le_of_ble_eq_true rfl)) dX0_copyFrom_19 ⟨(Nat.zero_le _), (Nat.zero_le _)⟩) hS hP hD [7, 2] rfl rfl rfl rfl (fun H locs hP hD hS => ?_)
  refine lv_aload_n hx hb dX0_copyFrom_22 rfl (lv_at hl 1 rfl) ?_
  refine va_get (D := D) (ci := 0) (v := .ref aKo) (C := RX0) (T := TX0) (N := 5) hx hb hts i_X0 hown hK.1 hP 5 rfl rfl 2 (by decide) (hts _ wd_72) (fun _ h9 => h9) rfl dX0_copyFrom_23 ?_
  refine lv_aload_n hx hb dX0_copyFrom_26 rfl (lv_at hl 0 rfl) ?_
  refine va_get (D := D) (ci := 0) (v := .ref aK) (C := RX0) (T := TX0) (N := 5) hx hb hts i_X0 hown hK.1 hP 0 rfl rfl 2 (by decide) (hts _ wd_72) (fun _ h9 => h9) rfl dX0_copyFrom_27 ?_
  obtain ⟨u6, h5, hF⟩ := bd1_at hF
  refine ucallv (ws' := (W00 cI aB aF aZ aK aM aBo aFo aZo aKo aMo bh u2 u4 u6 bM bho bFo bZo bKo bMo)) (va_runSN (As := [.ref aKo, .ref aK]) (rest := []) S (K5_copyRowE l D cI cZ cS cJ aKo aK 240 240 bKo bK u6 h5) ⟨va_cnB 2 hts (gd_all wd_297) rfl rfl rfl hK.2.2.1 (hts _ wd_22) hdn5_copyRow ⟨Nat.le_of_ble_eq_true rfl, Nat.le_of_ble_eq_true rfl⟩, (hts _ wd_296), trivial⟩ (uPreS hK (hP.sub (ws' := (WC cI aKo aK 240 240 bKo bK)) [8, 3] rfl) (hD.sub (ws' := (WC cI aKo aK 240 240 bKo bK)) [8, 3] (by decide) rfl)) rfl rfl hl.1 rfl (lv_room (Nat.le_of_ble_eq_true rfl)) dX0_copyFrom_30 ⟨(Nat.zero_le _), (Nat.zero_le _)⟩) hS hP hD [8, 3] rfl rfl rfl rfl (fun H locs hP hD hS => ?_)
  refine lv_aload_n hx hb dX0_copyFrom_33 rfl (lv_at hl 1 rfl) ?_
  refine va_get (D := D) (ci := 0) (v := .ref aMo) (C := RX0) (T := TX0) (N := 5) hx hb hts i_X0 hown hK.1 hP 5 rfl rfl 3 (by decide) (hts _ wd_73) (fun _ h9 => h9) rfl dX0_copyFrom_34 ?_
  refine lv_aload_n hx hb dX0_copyFrom_37 rfl (lv_at hl 0 rfl) ?_
  refine va_get (D := D) (ci := 0) (v := .ref aM) (C := RX0) (T := TX0) (N := 5) hx hb hts i_X0 hown hK.1 hP 0 rfl rfl 3 (by decide) (hts _ wd_73) (fun _ h9 => h9) rfl dX0_copyFrom_38 ?_
  obtain ⟨u8, h7, hF⟩ := bd1_at hF
  refine ucallv (ws' := (W00 cI aB aF aZ aK aM aBo aFo aZo aKo aMo bh u2 u4 u6 u8 bho bFo bZo bKo bMo)) (va_runSN (As := [.ref aMo, .ref aM]) (rest := []) S (K5_copyRowE l D cI cZ cS cJ aMo aM 240 240 bMo bM u8 h7) ⟨va_cnB 2 hts (gd_all wd_297) rfl rfl rfl hK.2.2.1 (hts _ wd_22) hdn5_copyRow ⟨Nat.le_of_ble_eq_true rfl, Nat.le_of_ble_eq_true rfl⟩, (hts _ wd_296), trivial⟩ (uPreS hK (hP.sub (ws' := (WC cI aMo aM 240 240 bMo bM)) [9, 4] rfl) (hD.sub (ws' := (WC cI aMo aM 240 240 bMo bM)) [9, 4] (by decide) rfl)) rfl rfl hl.1 rfl (lv_room (Nat.le_of_ble_eq_true rfl)) dX0_copyFrom_41 ⟨(Nat.zero_le _), (Nat.zero_le _)⟩) hS hP hD [9, 4] rfl rfl rfl rfl (fun H locs hP hD hS => ?_)
  refine lv_aload_n hx hb dX0_copyFrom_44 rfl (lv_at hl 0 rfl) ?_
  refine lv_aload_n hx hb dX0_copyFrom_45 rfl (lv_at hl 1 rfl) ?_
  refine va_get (D := D) (ci := 0) (v := .int bho) (C := RX0) (T := TX0) (N := 5) hx hb hts i_X0 hown hK.1 hP 5 rfl rfl 4 (by decide) (hts _ wd_74) (fun _ h9 => h9) rfl dX0_copyFrom_46 ?_
  refine va_put (D := D) (ci := 0) (v := .int bho) (ty := .int) (C := RX0) (T := TX0) (N := 5) hx hb hts i_X0 tyX0 tyX0_ok nmX0 hown hK.1 hP hD hS 0 rfl rfl 4 (by decide) (hts _ wd_74) (fun _ h9 => h9) rfl (by decide +kernel) rfl rfl (Nat.le_of_ble_eq_true rfl) dX0_copyFrom_49 (fun H locs hP hD hS => ?_)
  have hP : va_P D vwCl (W00 cI aB aF aZ aK aM aBo aFo aZo aKo aMo bho u2 u4 u6 u8 bho bFo bZo bKo bMo) H := hP
  have hD : va_D A0 (W00 cI aB aF aZ aK aM aBo aFo aZo aKo aMo bho u2 u4 u6 u8 bho bFo bZo bKo bMo) := hD
  cases hF
  exact uretv hx hb hr hlocks hP hS dX0_copyFrom_52
