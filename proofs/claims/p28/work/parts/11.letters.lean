abbrev rm2_weightAt : Room := { frames := 0, cells := 0, slots := 0, locals := 0 }
theorem hd2_weightAt : yX2_weightAt.cls = RX2 ∧ yX2_weightAt.cls ≠ "java/lang/invoke/MethodHandle" ∧ yX2_weightAt.cls ≠ "java/lang/invoke/VarHandle" ∧ (parseMethodDescriptor yX2_weightAt.desc).map (fun d => d.parameters.length) = some 1 := by decide +kernel
set_option maxHeartbeats 4000000 in
set_option maxRecDepth 100000 in
theorem K2_weightAt (l : Launch) (D : va_G) (cI cZ cS cJ : ClassId) (aL aW : Nat) (wm : Int32) (wW : Nat → Int32) (x1 : Int32) (r : Int32) (hF : f2_weightAt wW x1 = some (r)) : Met l yX2_weightAt wsX2_weightAt rm2_weightAt (rP D (gT cI cZ cS cJ) (W2 cI aL aW wm wW) [.ref aL, .int x1]) (rQ (.int r)) 0 0 (fun _ => False) := by
  refine Met.ofW (cc := cX2_weightAt) (maxL := 2) (ret := (some .int)) (by decide) rfl ?_
  intro p e s m args below meth c s₁ B hml hv
  obtain ⟨ha, hK, hP⟩ := hv
  have hx := B.exec
  have hb := B.bytes
  have hr := B.returns
  have hlocks := B.notSynchronized
  have hts : ∀ w ∈ lw_all, w.before args s = true := fun w h => atoms_spec (ws := wsX2_weightAt) B.pre w (List.mem_cons_of_mem _ h)
  have hown : s.vm.findClass RX2 = some m.cls := findClass_of_methodNamed B.named
  have S : CallFix p m c cX2_weightAt 2 s args lw_all RX2 := ⟨hx, hb, hml, hown, hts⟩
  have hl := lv_entry ([.ref aL, .int x1] : List Value) (n := 2) (Nat.le_of_ble_eq_true rfl)
  refine W.eq (g2 := F0 m 0 ((lg_sl ([.ref aL, .int x1] : List Value) ++ List.replicate (2 - (lg_sl ([.ref aL, .int x1] : List Value)).length) Slot.unset).toArray) []) (by rw [ha]; exact lg_entry_eq _ _ _) ?_
  generalize (lg_sl ([.ref aL, .int x1] : List Value) ++ List.replicate (2 - (lg_sl ([.ref aL, .int x1] : List Value)).length) Slot.unset).toArray = ls at hl ⊢
  have hl : lv_has ls 2 [(0, .ref aL), (1, .int x1)] := hl
  rw [f2_weightAt] at hF
  show rW p l e wsX2_weightAt rm2_weightAt s m args below meth c (.int r) (F0 m 0 ls [])
  refine lv_iload_n hx hb dX2_weightAt_0 rfl (lv_at hl 1 rfl) ?_
  refine lv_if_lt (tgt := 22) hx hb dX2_weightAt_1 (by decide) (fun c1 => ?_) (fun c1 => ?_)
  · rw [if_pos c1] at hF
    refine lv_iconst hx hb dX2_weightAt_22 kc_iconst_0 ?_
    exact rret hF hx hb hr hlocks dX2_weightAt_23
  · rw [if_neg c1] at hF
    refine lv_iload_n hx hb dX2_weightAt_4 rfl (lv_at hl 1 rfl) ?_
    refine lv_aload_n hx hb dX2_weightAt_5 rfl (lv_at hl 0 rfl) ?_
    refine va_get (D := D) (ci := 2) (v := .ref aW) (C := RX2) (T := TX2) (N := 2) hx hb hts i_X2 hown hK.1 hP 0 rfl rfl 0 (by decide) (hts _ wd_55) (fun _ h9 => h9) rfl dX2_weightAt_6 ?_
    refine va_alen (v := (6 : Int32)) hx hb hK.1 hP 1 0 rfl rfl rfl dX2_weightAt_9 ?_
    refine lv_icmp_ge (tgt := 22) hx hb dX2_weightAt_10 (by decide) (fun c2 => ?_) (fun c2 => ?_)
    · rw [if_pos c2] at hF
      refine lv_iconst hx hb dX2_weightAt_22 kc_iconst_0 ?_
      exact rret hF hx hb hr hlocks dX2_weightAt_23
    · rw [if_neg c2] at hF
      refine lv_aload_n hx hb dX2_weightAt_13 rfl (lv_at hl 0 rfl) ?_
      refine va_get (D := D) (ci := 2) (v := .ref aW) (C := RX2) (T := TX2) (N := 2) hx hb hts i_X2 hown hK.1 hP 0 rfl rfl 0 (by decide) (hts _ wd_55) (fun _ h9 => h9) rfl dX2_weightAt_14 ?_
      refine lv_iload_n hx hb dX2_weightAt_17 rfl (lv_at hl 1 rfl) ?_
      refine va_iald hx hb hK.1 hP 1 0 rfl rfl (inb_path (N := 6) (n := 6) (by decide) c1 c2) dX2_weightAt_18 ?_
      refine lv_goto (tgt := 23) hx hb dX2_weightAt_19 (by decide) ?_
      exact rret hF hx hb hr hlocks dX2_weightAt_23
abbrev rm2_restOf : Room := { frames := 0, cells := 0, slots := 0, locals := 0 }
theorem hd2_restOf : yX2_restOf.cls = RX2 ∧ yX2_restOf.cls ≠ "java/lang/invoke/MethodHandle" ∧ yX2_restOf.cls ≠ "java/lang/invoke/VarHandle" ∧ (parseMethodDescriptor yX2_restOf.desc).map (fun d => d.parameters.length) = some 1 := by decide +kernel
set_option maxHeartbeats 4000000 in
set_option maxRecDepth 100000 in
theorem K2_restOf (l : Launch) (D : va_G) (cI cZ cS cJ : ClassId) (aL aW : Nat) (wm : Int32) (wW : Nat → Int32) (x1 : Int32) (r : Int32) (hF : f2_restOf wm x1 = some (r)) : Met l yX2_restOf wsX2_restOf rm2_restOf (rP D (gT cI cZ cS cJ) (W2 cI aL aW wm wW) [.ref aL, .int x1]) (rQ (.int r)) 0 0 (fun _ => False) := by
  refine Met.ofW (cc := cX2_restOf) (maxL := 3) (ret := (some .int)) (by decide) rfl ?_
  intro p e s m args below meth c s₁ B hml hv
  obtain ⟨ha, hK, hP⟩ := hv
  have hx := B.exec
  have hb := B.bytes
  have hr := B.returns
  have hlocks := B.notSynchronized
  have hts : ∀ w ∈ lw_all, w.before args s = true := fun w h => atoms_spec (ws := wsX2_restOf) B.pre w (List.mem_cons_of_mem _ h)
  have hown : s.vm.findClass RX2 = some m.cls := findClass_of_methodNamed B.named
  have S : CallFix p m c cX2_restOf 3 s args lw_all RX2 := ⟨hx, hb, hml, hown, hts⟩
  have hl := lv_entry ([.ref aL, .int x1] : List Value) (n := 3) (Nat.le_of_ble_eq_true rfl)
  refine W.eq (g2 := F0 m 0 ((lg_sl ([.ref aL, .int x1] : List Value) ++ List.replicate (3 - (lg_sl ([.ref aL, .int x1] : List Value)).length) Slot.unset).toArray) []) (by rw [ha]; exact lg_entry_eq _ _ _) ?_
  generalize (lg_sl ([.ref aL, .int x1] : List Value) ++ List.replicate (3 - (lg_sl ([.ref aL, .int x1] : List Value)).length) Slot.unset).toArray = ls at hl ⊢
  have hl : lv_has ls 3 [(0, .ref aL), (1, .int x1)] := hl
  rw [f2_restOf] at hF
  show rW p l e wsX2_restOf rm2_restOf s m args below meth c (.int r) (F0 m 0 ls [])
  refine lv_aload_n hx hb dX2_restOf_0 rfl (lv_at hl 0 rfl) ?_
  refine va_get (D := D) (ci := 2) (v := .int wm) (C := RX2) (T := TX2) (N := 2) hx hb hts i_X2 hown hK.1 hP 0 rfl rfl 1 (by decide) (hts _ wd_56) (fun _ h9 => h9) rfl dX2_restOf_1 ?_
  refine lv_iconst hx hb dX2_restOf_4 kc_iconst_1 ?_
  refine lv_icmp_ge (tgt := 10) hx hb dX2_restOf_5 (by decide) (fun c1 => ?_) (fun c1 => ?_)
  · have hF := ite_t c1 hF
    refine lv_iload_n hx hb dX2_restOf_10 rfl (lv_at hl 1 rfl) ?_
    refine lv_aload_n hx hb dX2_restOf_11 rfl (lv_at hl 0 rfl) ?_
    refine va_get (D := D) (ci := 2) (v := .int wm) (C := RX2) (T := TX2) (N := 2) hx hb hts i_X2 hown hK.1 hP 0 rfl rfl 1 (by decide) (hts _ wd_56) (fun _ h9 => h9) rfl dX2_restOf_12 ?_
    obtain ⟨g2, hF⟩ := gd_at hF
    refine lv_irem hx hb dX2_restOf_15 g2 ?_
    refine lv_istore_n (lv' := [(2, .int (x1 - x1 / wm * wm)), (0, .ref aL), (1, .int x1)]) hx hb dX2_restOf_16 rfl hl (by decide) rfl (fun ls hl => ?_)
    refine lv_iload_n hx hb dX2_restOf_17 rfl (lv_at hl 0 rfl) ?_
    refine lv_if_ge (tgt := 30) hx hb dX2_restOf_18 (by decide) (fun c3 => ?_) (fun c3 => ?_)
    · rw [if_pos c3] at hF
      refine lv_iload_n hx hb dX2_restOf_30 rfl (lv_at hl 0 rfl) ?_
      exact rret hF hx hb hr hlocks dX2_restOf_31
    · rw [if_neg c3] at hF
      refine lv_iload_n hx hb dX2_restOf_21 rfl (lv_at hl 0 rfl) ?_
      refine lv_aload_n hx hb dX2_restOf_22 rfl (lv_at hl 1 rfl) ?_
      refine va_get (D := D) (ci := 2) (v := .int wm) (C := RX2) (T := TX2) (N := 2) hx hb hts i_X2 hown hK.1 hP 0 rfl rfl 1 (by decide) (hts _ wd_56) (fun _ h9 => h9) rfl dX2_restOf_23 ?_
      refine lv_iadd hx hb dX2_restOf_26 ?_
      refine lv_goto (tgt := 31) hx hb dX2_restOf_27 (by decide) ?_
      exact rret hF hx hb hr hlocks dX2_restOf_31
  · have hF := ite_f c1 hF
    refine lv_iconst hx hb dX2_restOf_8 kc_iconst_0 ?_
    exact rret hF hx hb hr hlocks dX2_restOf_9
abbrev rm2_letterOf : Room := { frames := 1, cells := 0, slots := 0, locals := 22 }
theorem hd2_letterOf : yX2_letterOf.cls = RX2 ∧ yX2_letterOf.cls ≠ "java/lang/invoke/MethodHandle" ∧ yX2_letterOf.cls ≠ "java/lang/invoke/VarHandle" ∧ (parseMethodDescriptor yX2_letterOf.desc).map (fun d => d.parameters.length) = some 1 := by decide +kernel
set_option maxHeartbeats 4000000 in
set_option maxRecDepth 100000 in
theorem K2_letterOf (l : Launch) (D : va_G) (cI cZ cS cJ : ClassId) (aL aW : Nat) (wm : Int32) (wW : Nat → Int32) (x1 : Int32) (r : Int32) (hF : f2_letterOf wm wW x1 = some (r)) : Met l yX2_letterOf wsX2_letterOf rm2_letterOf (rP D (gT cI cZ cS cJ) (W2 cI aL aW wm wW) [.ref aL, .int x1]) (rQ (.int r)) 0 0 (fun _ => False) := by
  refine Met.ofW (cc := cX2_letterOf) (maxL := 5) (ret := (some .int)) (by decide) rfl ?_
  intro p e s m args below meth c s₁ B hml hv
  obtain ⟨ha, hK, hP⟩ := hv
  have hx := B.exec
  have hb := B.bytes
  have hr := B.returns
  have hlocks := B.notSynchronized
  have hts : ∀ w ∈ lw_all, w.before args s = true := fun w h => atoms_spec (ws := wsX2_letterOf) B.pre w (List.mem_cons_of_mem _ h)
  have hown : s.vm.findClass RX2 = some m.cls := findClass_of_methodNamed B.named
  have S : CallFix p m c cX2_letterOf 5 s args lw_all RX2 := ⟨hx, hb, hml, hown, hts⟩
  have hl := lv_entry ([.ref aL, .int x1] : List Value) (n := 5) (Nat.le_of_ble_eq_true rfl)
  refine W.eq (g2 := F0 m 0 ((lg_sl ([.ref aL, .int x1] : List Value) ++ List.replicate (5 - (lg_sl ([.ref aL, .int x1] : List Value)).length) Slot.unset).toArray) []) (by rw [ha]; exact lg_entry_eq _ _ _) ?_
  generalize (lg_sl ([.ref aL, .int x1] : List Value) ++ List.replicate (5 - (lg_sl ([.ref aL, .int x1] : List Value)).length) Slot.unset).toArray = ls at hl ⊢
  have hl : lv_has ls 5 [(0, .ref aL), (1, .int x1)] := hl
  clear ha
  have W_7 : ∀  (n : Nat) (x2 : Int32) (x3 : Int32) (x4 : Int32), ∀ (ls : Array Slot), lv_has ls 5 [(0, .ref aL), (2, .int x2), (3, .int x3), (4, .int x4)] → f2_letterOf_l7 wm wW n x2 x3 x4 = some (r) → rW p l e wsX2_letterOf rm2_letterOf s m args below meth c (.int r) (F0 m 7 ls []) := by
    intro   n
    induction n with
    | zero =>
      intro x2 x3 x4 ls hl hF
      rw [f2_letterOf_l7] at hF
      cases hF
    | succ n ih =>
      intro x2 x3 x4 ls hl hF
      rw [f2_letterOf_l7] at hF
      refine lv_iload hx hb dX2_letterOf_7 (lv_at hl 3 rfl) ?_
      refine lv_if_lt (tgt := 37) hx hb dX2_letterOf_9 (by decide) (fun c1 => ?_) (fun c1 => ?_)
      · have hF := ite_t c1 hF
        refine lv_aload_n hx hb dX2_letterOf_37 rfl (lv_at hl 0 rfl) ?_
        refine lv_iload_n hx hb dX2_letterOf_38 rfl (lv_at hl 1 rfl) ?_
        obtain ⟨q3, h2, hF⟩ := bd1_at hF
        refine rcall (va_runV (As := [.int x2]) (rest := []) S (K2_restOf l D cI cZ cS cJ aL aW wm wW x2 q3 h2) (cwV 1 hts (gd_V wd_339 wd_341 wd_5 wd_24 wd_342) rfl rfl rfl hd2_restOf ⟨Nat.le_of_ble_eq_true rfl, Nat.le_of_ble_eq_true rfl⟩) (rPreV hK hP (ci := 2) (q := (RX2, TX2, 2)) rfl rfl) rfl rfl hl.1 rfl (lv_room (Nat.le_of_ble_eq_true rfl)) dX2_letterOf_39 ⟨(Nat.zero_le _), (Nat.zero_le _)⟩) ?_
        exact rret hF hx hb hr hlocks dX2_letterOf_42
      · have hF := ite_f c1 hF
        refine lv_iload_n hx hb dX2_letterOf_12 rfl (lv_at hl 1 rfl) ?_
        refine lv_aload_n hx hb dX2_letterOf_13 rfl (lv_at hl 0 rfl) ?_
        refine lv_iload hx hb dX2_letterOf_14 (lv_at hl 3 rfl) ?_
        obtain ⟨q5, h4, hF⟩ := bd1_at hF
        refine rcall (va_runV (As := [.int x4]) (rest := [.int x2]) S (K2_weightAt l D cI cZ cS cJ aL aW wm wW x4 q5 h4) (cwV 1 hts (gd_V wd_335 wd_336 wd_337 wd_24 wd_338) rfl rfl rfl hd2_weightAt ⟨Nat.le_of_ble_eq_true rfl, Nat.le_of_ble_eq_true rfl⟩) (rPreV hK hP (ci := 2) (q := (RX2, TX2, 2)) rfl rfl) rfl rfl hl.1 rfl (lv_room (Nat.le_of_ble_eq_true rfl)) dX2_letterOf_16 ⟨(Nat.zero_le _), (Nat.zero_le _)⟩) ?_
        refine lv_iload_n hx hb dX2_letterOf_19 rfl (lv_at hl 2 rfl) ?_
        refine lv_bipush hx hb dX2_letterOf_20 kc_bipush_10 ?_
        refine lv_irem hx hb dX2_letterOf_22 (by decide) ?_
        refine lv_imul hx hb dX2_letterOf_23 ?_
        refine lv_iadd hx hb dX2_letterOf_24 ?_
        refine lv_topi (fun t6 e7 => ?_)
        have hF := lt_at e7 hF
        refine lv_istore_n (lv' := [(2, .int t6), (0, .ref aL), (3, .int x3), (4, .int x4)]) hx hb dX2_letterOf_25 rfl hl (by decide) rfl (fun ls hl => ?_)
        refine lv_iload_n hx hb dX2_letterOf_26 rfl (lv_at hl 2 rfl) ?_
        refine lv_bipush hx hb dX2_letterOf_27 kc_bipush_10 ?_
        refine lv_idiv hx hb dX2_letterOf_29 (by decide) ?_
        refine lv_istore_n (lv' := [(3, .int (x3 / (10 : Int32))), (2, .int t6), (0, .ref aL), (4, .int x4)]) hx hb dX2_letterOf_30 rfl hl (by decide) rfl (fun ls hl => ?_)
        refine lv_iinc (v := (x4 + (-1))) (lv' := [(4, .int (x4 + (-1))), (3, .int (x3 / (10 : Int32))), (2, .int t6), (0, .ref aL)]) hx hb dX2_letterOf_31 hl (k := 3) rfl rfl (by decide) rfl (fun ls hl => ?_)
        refine lv_goto (tgt := 7) hx hb dX2_letterOf_34 (by decide) ?_
        exact ih t6 (x3 / (10 : Int32)) (x4 + (-1)) ls (lv_sub hl [3, 2, 1, 0] rfl) hF
  rw [f2_letterOf] at hF
  show rW p l e wsX2_letterOf rm2_letterOf s m args below meth c (.int r) (F0 m 0 ls [])
  refine lv_iconst hx hb dX2_letterOf_0 kc_iconst_0 ?_
  refine lv_istore_n (lv' := [(2, .int (0 : Int32)), (0, .ref aL), (1, .int x1)]) hx hb dX2_letterOf_1 rfl hl (by decide) rfl (fun ls hl => ?_)
  refine lv_iload_n hx hb dX2_letterOf_2 rfl (lv_at hl 2 rfl) ?_
  refine lv_istore_n (lv' := [(3, .int x1), (2, .int (0 : Int32)), (0, .ref aL), (1, .int x1)]) hx hb dX2_letterOf_3 rfl hl (by decide) rfl (fun ls hl => ?_)
  refine lv_iconst hx hb dX2_letterOf_4 kc_iconst_5 ?_
  refine lv_istore (lv' := [(4, .int (5 : Int32)), (3, .int x1), (2, .int (0 : Int32)), (0, .ref aL), (1, .int x1)]) hx hb dX2_letterOf_5 hl (by decide) rfl (fun ls hl => ?_)
  exact W_7   fu (0 : Int32) x1 (5 : Int32) ls (lv_sub hl [3, 2, 1, 0] rfl) hF
abbrev rm2_setWeight : Room := { frames := 0, cells := 0, slots := 0, locals := 0 }
theorem hd2_setWeight : yX2_setWeight.cls = RX2 ∧ yX2_setWeight.cls ≠ "java/lang/invoke/MethodHandle" ∧ yX2_setWeight.cls ≠ "java/lang/invoke/VarHandle" ∧ (parseMethodDescriptor yX2_setWeight.desc).map (fun d => d.parameters.length) = some 2 := by decide +kernel
set_option maxHeartbeats 4000000 in
set_option maxRecDepth 100000 in
theorem K2_setWeight (l : Launch) (D : va_G) (cI cZ cS cJ : ClassId) (aL aW : Nat) (wm : Int32) (wW : Nat → Int32) (x1 : Int32) (x2 : Int32) (z_wW : Nat → Int32) (hF : f2_setWeight wW x1 x2 = some (z_wW)) : Met l yX2_setWeight wsX2_setWeight rm2_setWeight (uP D (gT cI cZ cS cJ) (W2 cI aL aW wm wW) [.ref aL, .int x1, .int x2]) (uQ D none (uA (W2 cI aL aW wm wW)) (W2 cI aL aW wm z_wW)) 0 0 (uA (W2 cI aL aW wm wW)) := by
  refine Met.ofW (cc := cX2_setWeight) (maxL := 3) (ret := none) (by decide) rfl ?_
  intro p e s m args below meth c s₁ B hml hv
  obtain ⟨ha, hK, hP, hD0⟩ := hv
  have hx := B.exec
  have hb := B.bytes
  have hr := B.returns
  have hlocks := B.notSynchronized
  have hts : ∀ w ∈ lw_all, w.before args s = true := fun w h => atoms_spec (ws := wsX2_setWeight) B.pre w (List.mem_cons_of_mem _ h)
  have hown : s.vm.findClass RX2 = some m.cls := findClass_of_methodNamed B.named
  have S : CallFix p m c cX2_setWeight 3 s args lw_all RX2 := ⟨hx, hb, hml, hown, hts⟩
  have hD := hD0.own
  generalize uA (W2 cI aL aW wm wW) = A0 at hD ⊢
  have hS : va_S A0 s.heap s.heap [] := va_S.rf
  have hl := lv_entry ([.ref aL, .int x1, .int x2] : List Value) (n := 3) (Nat.le_of_ble_eq_true rfl)
  refine W.eq (g2 := F0 m 0 ((lg_sl ([.ref aL, .int x1, .int x2] : List Value) ++ List.replicate (3 - (lg_sl ([.ref aL, .int x1, .int x2] : List Value)).length) Slot.unset).toArray) []) (by rw [ha]; exact lg_entry_eq _ _ _) ?_
  generalize (lg_sl ([.ref aL, .int x1, .int x2] : List Value) ++ List.replicate (3 - (lg_sl ([.ref aL, .int x1, .int x2] : List Value)).length) Slot.unset).toArray = ls at hl ⊢
  have hl : lv_has ls 3 [(0, .ref aL), (1, .int x1), (2, .int x2)] := hl
  rw [f2_setWeight] at hF
  show uW p l e wsX2_setWeight rm2_setWeight s m args below meth c D none A0 (W2 cI aL aW wm z_wW) s.heap [] (F0 m 0 ls [])
  refine lv_iload_n hx hb dX2_setWeight_0 rfl (lv_at hl 1 rfl) ?_
  refine lv_if_lt (tgt := 20) hx hb dX2_setWeight_1 (by decide) (fun c1 => ?_) (fun c1 => ?_)
  · rw [if_pos c1] at hF
    cases hF
    exact uretv hx hb hr hlocks hP hS dX2_setWeight_20
  · rw [if_neg c1] at hF
    refine lv_iload_n hx hb dX2_setWeight_4 rfl (lv_at hl 1 rfl) ?_
    refine lv_aload_n hx hb dX2_setWeight_5 rfl (lv_at hl 0 rfl) ?_
    refine va_get (D := D) (ci := 2) (v := .ref aW) (C := RX2) (T := TX2) (N := 2) hx hb hts i_X2 hown hK.1 hP 0 rfl rfl 0 (by decide) (hts _ wd_55) (fun _ h9 => h9) rfl dX2_setWeight_6 ?_
    refine va_alen (v := (6 : Int32)) hx hb hK.1 hP 1 0 rfl rfl rfl dX2_setWeight_9 ?_
    refine lv_icmp_ge (tgt := 20) hx hb dX2_setWeight_10 (by decide) (fun c2 => ?_) (fun c2 => ?_)
    · rw [if_pos c2] at hF
      cases hF
      exact uretv hx hb hr hlocks hP hS dX2_setWeight_20
    · rw [if_neg c2] at hF
      refine lv_aload_n hx hb dX2_setWeight_13 rfl (lv_at hl 0 rfl) ?_
      refine va_get (D := D) (ci := 2) (v := .ref aW) (C := RX2) (T := TX2) (N := 2) hx hb hts i_X2 hown hK.1 hP 0 rfl rfl 0 (by decide) (hts _ wd_55) (fun _ h9 => h9) rfl dX2_setWeight_14 ?_
      refine lv_iload_n hx hb dX2_setWeight_17 rfl (lv_at hl 1 rfl) ?_
      refine lv_iload_n hx hb dX2_setWeight_18 rfl (lv_at hl 2 rfl) ?_
      refine va_iast hx hb hK.1 hP hD hS 1 0 rfl rfl (inb_path (N := 6) (n := 6) (by decide) c1 c2) dX2_setWeight_19 (fun H locs hP hD hS => ?_)
      have hP : va_P D vwCl (W2 cI aL aW wm (upd wW x1.toNatClampNeg x2)) H := hP
      have hD : va_D A0 (W2 cI aL aW wm (upd wW x1.toNatClampNeg x2)) := hD
      cases hF
      exact uretv hx hb hr hlocks hP hS dX2_setWeight_20
abbrev rm2_factorAt : Room := { frames := 1, cells := 0, slots := 0, locals := 21 }
theorem hd2_factorAt : yX2_factorAt.cls = RX2 ∧ yX2_factorAt.cls ≠ "java/lang/invoke/MethodHandle" ∧ yX2_factorAt.cls ≠ "java/lang/invoke/VarHandle" ∧ (parseMethodDescriptor yX2_factorAt.desc).map (fun d => d.parameters.length) = some 2 := by decide +kernel
set_option maxHeartbeats 4000000 in
set_option maxRecDepth 100000 in
theorem K2_factorAt (l : Launch) (D : va_G) (cI cZ cS cJ : ClassId) (aL aW : Nat) (wm : Int32) (wW : Nat → Int32) (x1 : Int32) (x2 : Int32) (r : Int32) (hF : f2_factorAt wW x1 x2 = some (r)) : Met l yX2_factorAt wsX2_factorAt rm2_factorAt (rP D (gT cI cZ cS cJ) (W2 cI aL aW wm wW) [.ref aL, .int x1, .int x2]) (rQ (.int r)) 0 0 (fun _ => False) := by
  refine Met.ofW (cc := cX2_factorAt) (maxL := 4) (ret := (some .int)) (by decide) rfl ?_
  intro p e s m args below meth c s₁ B hml hv
  obtain ⟨ha, hK, hP⟩ := hv
  have hx := B.exec
  have hb := B.bytes
  have hr := B.returns
  have hlocks := B.notSynchronized
  have hts : ∀ w ∈ lw_all, w.before args s = true := fun w h => atoms_spec (ws := wsX2_factorAt) B.pre w (List.mem_cons_of_mem _ h)
  have hown : s.vm.findClass RX2 = some m.cls := findClass_of_methodNamed B.named
  have S : CallFix p m c cX2_factorAt 4 s args lw_all RX2 := ⟨hx, hb, hml, hown, hts⟩
  have hl := lv_entry ([.ref aL, .int x1, .int x2] : List Value) (n := 4) (Nat.le_of_ble_eq_true rfl)
  refine W.eq (g2 := F0 m 0 ((lg_sl ([.ref aL, .int x1, .int x2] : List Value) ++ List.replicate (4 - (lg_sl ([.ref aL, .int x1, .int x2] : List Value)).length) Slot.unset).toArray) []) (by rw [ha]; exact lg_entry_eq _ _ _) ?_
  generalize (lg_sl ([.ref aL, .int x1, .int x2] : List Value) ++ List.replicate (4 - (lg_sl ([.ref aL, .int x1, .int x2] : List Value)).length) Slot.unset).toArray = ls at hl ⊢
  have hl : lv_has ls 4 [(0, .ref aL), (1, .int x1), (2, .int x2)] := hl
  rw [f2_factorAt] at hF
  show rW p l e wsX2_factorAt rm2_factorAt s m args below meth c (.int r) (F0 m 0 ls [])
  refine lv_aload_n hx hb dX2_factorAt_0 rfl (lv_at hl 0 rfl) ?_
  refine lv_iload_n hx hb dX2_factorAt_1 rfl (lv_at hl 1 rfl) ?_
  obtain ⟨q2, h1, hF⟩ := bd1_at hF
  refine rcall (va_runV (As := [.int x1]) (rest := []) S (K2_weightAt l D cI cZ cS cJ aL aW wm wW x1 q2 h1) (cwV 1 hts (gd_V wd_335 wd_336 wd_337 wd_24 wd_338) rfl rfl rfl hd2_weightAt ⟨Nat.le_of_ble_eq_true rfl, Nat.le_of_ble_eq_true rfl⟩) (rPreV hK hP (ci := 2) (q := (RX2, TX2, 2)) rfl rfl) rfl rfl hl.1 rfl (lv_room (Nat.le_of_ble_eq_true rfl)) dX2_factorAt_2 ⟨(Nat.zero_le _), (Nat.zero_le _)⟩) ?_
  refine lv_istore_n (lv' := [(3, .int q2), (0, .ref aL), (1, .int x1), (2, .int x2)]) hx hb dX2_factorAt_5 rfl hl (by decide) rfl (fun ls hl => ?_)
  refine lv_iload_n hx hb dX2_factorAt_6 rfl (lv_at hl 3 rfl) ?_
  refine lv_iconst hx hb dX2_factorAt_7 kc_iconst_1 ?_
  refine lv_icmp_ne (tgt := 23) hx hb dX2_factorAt_8 (by decide) (fun c3 => ?_) (fun c3 => ?_)
  · have hF := ite_f c3 hF
    refine lv_iload_n hx hb dX2_factorAt_23 rfl (lv_at hl 0 rfl) ?_
    exact rret hF hx hb hr hlocks dX2_factorAt_24
  · have hF := ite_t c3 hF
    refine lv_iload_n hx hb dX2_factorAt_11 rfl (lv_at hl 0 rfl) ?_
    refine lv_aload_n hx hb dX2_factorAt_12 rfl (lv_at hl 1 rfl) ?_
    refine lv_iload_n hx hb dX2_factorAt_13 rfl (lv_at hl 2 rfl) ?_
    refine lv_iconst hx hb dX2_factorAt_14 kc_iconst_1 ?_
    refine lv_iadd hx hb dX2_factorAt_15 ?_
    obtain ⟨q5, h4, hF⟩ := bd1_at hF
    refine rcall (va_runV (As := [.int (x1 + (1 : Int32))]) (rest := [.int q2]) S (K2_weightAt l D cI cZ cS cJ aL aW wm wW (x1 + (1 : Int32)) q5 h4) (cwV 1 hts (gd_V wd_335 wd_336 wd_337 wd_24 wd_338) rfl rfl rfl hd2_weightAt ⟨Nat.le_of_ble_eq_true rfl, Nat.le_of_ble_eq_true rfl⟩) (rPreV hK hP (ci := 2) (q := (RX2, TX2, 2)) rfl rfl) rfl rfl hl.1 rfl (lv_room (Nat.le_of_ble_eq_true rfl)) dX2_factorAt_16 ⟨(Nat.zero_le _), (Nat.zero_le _)⟩) ?_
    refine lv_isub hx hb dX2_factorAt_19 ?_
    refine lv_goto (tgt := 24) hx hb dX2_factorAt_20 (by decide) ?_
    exact rret hF hx hb hr hlocks dX2_factorAt_24
abbrev rm2_isHidden : Room := { frames := 1, cells := 0, slots := 0, locals := 22 }
theorem hd2_isHidden : yX2_isHidden.cls = RX2 ∧ yX2_isHidden.cls ≠ "java/lang/invoke/MethodHandle" ∧ yX2_isHidden.cls ≠ "java/lang/invoke/VarHandle" ∧ (parseMethodDescriptor yX2_isHidden.desc).map (fun d => d.parameters.length) = some 2 := by decide +kernel
set_option maxHeartbeats 4000000 in
set_option maxRecDepth 100000 in
theorem K2_isHidden (l : Launch) (D : va_G) (cI cZ cS cJ : ClassId) (aL aW : Nat) (wm : Int32) (wW : Nat → Int32) (x1 : Int32) (x2 : Int32) (r : Int32) (hF : f2_isHidden wm x1 x2 = some (r)) : Met l yX2_isHidden wsX2_isHidden rm2_isHidden (rP D (gT cI cZ cS cJ) (W2 cI aL aW wm wW) [.ref aL, .int x1, .int x2]) (rQ (.int r)) 0 0 (fun _ => False) := by
  refine Met.ofW (cc := cX2_isHidden) (maxL := 3) (ret := (some .boolean)) (by decide) rfl ?_
  intro p e s m args below meth c s₁ B hml hv
  obtain ⟨ha, hK, hP⟩ := hv
  have hx := B.exec
  have hb := B.bytes
  have hr := B.returns
  have hlocks := B.notSynchronized
  have hts : ∀ w ∈ lw_all, w.before args s = true := fun w h => atoms_spec (ws := wsX2_isHidden) B.pre w (List.mem_cons_of_mem _ h)
  have hown : s.vm.findClass RX2 = some m.cls := findClass_of_methodNamed B.named
  have S : CallFix p m c cX2_isHidden 3 s args lw_all RX2 := ⟨hx, hb, hml, hown, hts⟩
  have hl := lv_entry ([.ref aL, .int x1, .int x2] : List Value) (n := 3) (Nat.le_of_ble_eq_true rfl)
  refine W.eq (g2 := F0 m 0 ((lg_sl ([.ref aL, .int x1, .int x2] : List Value) ++ List.replicate (3 - (lg_sl ([.ref aL, .int x1, .int x2] : List Value)).length) Slot.unset).toArray) []) (by rw [ha]; exact lg_entry_eq _ _ _) ?_
  generalize (lg_sl ([.ref aL, .int x1, .int x2] : List Value) ++ List.replicate (3 - (lg_sl ([.ref aL, .int x1, .int x2] : List Value)).length) Slot.unset).toArray = ls at hl ⊢
  have hl : lv_has ls 3 [(0, .ref aL), (1, .int x1), (2, .int x2)] := hl
  rw [f2_isHidden] at hF
  show rW p l e wsX2_isHidden rm2_isHidden s m args below meth c (.int r) (F0 m 0 ls [])
  refine lv_aload_n hx hb dX2_isHidden_0 rfl (lv_at hl 0 rfl) ?_
  refine lv_iload_n hx hb dX2_isHidden_1 rfl (lv_at hl 1 rfl) ?_
  refine lv_iload_n hx hb dX2_isHidden_2 rfl (lv_at hl 2 rfl) ?_
  refine lv_imul hx hb dX2_isHidden_3 ?_
  obtain ⟨q2, h1, hF⟩ := bd1_at hF
  refine rcall (va_runV (As := [.int (x1 * x2)]) (rest := []) S (K2_restOf l D cI cZ cS cJ aL aW wm wW (x1 * x2) q2 h1) (cwV 1 hts (gd_V wd_339 wd_341 wd_5 wd_24 wd_342) rfl rfl rfl hd2_restOf ⟨Nat.le_of_ble_eq_true rfl, Nat.le_of_ble_eq_true rfl⟩) (rPreV hK hP (ci := 2) (q := (RX2, TX2, 2)) rfl rfl) rfl rfl hl.1 rfl (lv_room (Nat.le_of_ble_eq_true rfl)) dX2_isHidden_4 ⟨(Nat.zero_le _), (Nat.zero_le _)⟩) ?_
  refine lv_if_ne (tgt := 14) hx hb dX2_isHidden_7 (by decide) (fun c3 => ?_) (fun c3 => ?_)
  · rw [if_neg c3] at hF
    refine lv_iconst hx hb dX2_isHidden_14 kc_iconst_0 ?_
    exact rretz (by decide) hF hx hb hr hlocks dX2_isHidden_15
  · rw [if_pos c3] at hF
    refine lv_iconst hx hb dX2_isHidden_10 kc_iconst_1 ?_
    refine lv_goto (tgt := 15) hx hb dX2_isHidden_11 (by decide) ?_
    exact rretz (by decide) hF hx hb hr hlocks dX2_isHidden_15
abbrev rm2_hiddenPairsTried : Room := { frames := 1, cells := 0, slots := 0, locals := 22 }
theorem hd2_hiddenPairsTried : yX2_hiddenPairsTried.cls = RX2 ∧ yX2_hiddenPairsTried.cls ≠ "java/lang/invoke/MethodHandle" ∧ yX2_hiddenPairsTried.cls ≠ "java/lang/invoke/VarHandle" ∧ (parseMethodDescriptor yX2_hiddenPairsTried.desc).map (fun d => d.parameters.length) = some 1 := by decide +kernel
set_option maxHeartbeats 4000000 in
set_option maxRecDepth 100000 in
theorem K2_hiddenPairsTried (l : Launch) (D : va_G) (cI cZ cS cJ : ClassId) (aL aW : Nat) (wm : Int32) (wW : Nat → Int32) (x1 : Int32) (r : Int32) (hF : f2_hiddenPairsTried wm x1 = some (r)) : Met l yX2_hiddenPairsTried wsX2_hiddenPairsTried rm2_hiddenPairsTried (rP D (gT cI cZ cS cJ) (W2 cI aL aW wm wW) [.ref aL, .int x1]) (rQ (.int r)) 0 0 (fun _ => False) := by
  refine Met.ofW (cc := cX2_hiddenPairsTried) (maxL := 5) (ret := (some .int)) (by decide) rfl ?_
  intro p e s m args below meth c s₁ B hml hv
  obtain ⟨ha, hK, hP⟩ := hv
  have hx := B.exec
  have hb := B.bytes
  have hr := B.returns
  have hlocks := B.notSynchronized
  have hts : ∀ w ∈ lw_all, w.before args s = true := fun w h => atoms_spec (ws := wsX2_hiddenPairsTried) B.pre w (List.mem_cons_of_mem _ h)
  have hown : s.vm.findClass RX2 = some m.cls := findClass_of_methodNamed B.named
  have S : CallFix p m c cX2_hiddenPairsTried 5 s args lw_all RX2 := ⟨hx, hb, hml, hown, hts⟩
  have hl := lv_entry ([.ref aL, .int x1] : List Value) (n := 5) (Nat.le_of_ble_eq_true rfl)
  refine W.eq (g2 := F0 m 0 ((lg_sl ([.ref aL, .int x1] : List Value) ++ List.replicate (5 - (lg_sl ([.ref aL, .int x1] : List Value)).length) Slot.unset).toArray) []) (by rw [ha]; exact lg_entry_eq _ _ _) ?_
  generalize (lg_sl ([.ref aL, .int x1] : List Value) ++ List.replicate (5 - (lg_sl ([.ref aL, .int x1] : List Value)).length) Slot.unset).toArray = ls at hl ⊢
  have hl : lv_has ls 5 [(0, .ref aL), (1, .int x1)] := hl
  clear ha
  have W_15 : ∀ (x1 : Int32) (x3 : Int32) (k4 : Int32 → Int32 → Option (Int32)) (hk4 : ∀ (x2 : Int32) (x3 : Int32), ∀ (ls : Array Slot), lv_has ls 5 [(0, .ref aL), (1, .int x1), (2, .int x2), (3, .int x3)] → k4 x2 x3 = some (r) → rW p l e wsX2_hiddenPairsTried rm2_hiddenPairsTried s m args below meth c (.int r) (F0 m 4 ls [])) (n : Nat) (x2 : Int32) (x4 : Int32), ∀ (ls : Array Slot), lv_has ls 5 [(0, .ref aL), (1, .int x1), (2, .int x2), (3, .int x3), (4, .int x4)] → f2_hiddenPairsTried_l15 k4 wm x1 x3 n x2 x4 = some (r) → rW p l e wsX2_hiddenPairsTried rm2_hiddenPairsTried s m args below meth c (.int r) (F0 m 15 ls []) := by
    intro x1 x3 k4 hk4 n
    induction n with
    | zero =>
      intro x2 x4 ls hl hF
      rw [f2_hiddenPairsTried_l15] at hF
      cases hF
    | succ n ih =>
      intro x2 x4 ls hl hF
      rw [f2_hiddenPairsTried_l15] at hF
      refine lv_iload hx hb dX2_hiddenPairsTried_15 (lv_at hl 4 rfl) ?_
      refine lv_bipush hx hb dX2_hiddenPairsTried_17 kc_bipush_9 ?_
      refine lv_icmp_gt (tgt := 49) hx hb dX2_hiddenPairsTried_19 (by decide) (fun c2 => ?_) (fun c2 => ?_)
      · have hF := ite_t c2 hF
        refine lv_iinc (v := (x3 + 1)) (lv' := [(3, .int (x3 + 1)), (0, .ref aL), (1, .int x1), (2, .int x2), (4, .int x4)]) hx hb dX2_hiddenPairsTried_49 hl (k := 3) rfl rfl (by decide) rfl (fun ls hl => ?_)
        refine lv_goto (tgt := 4) hx hb dX2_hiddenPairsTried_52 (by decide) ?_
        exact hk4 x2 (x3 + 1) ls (lv_sub hl [1, 2, 3, 0] rfl) hF
      · have hF := ite_f c2 hF
        refine lv_aload_n hx hb dX2_hiddenPairsTried_22 rfl (lv_at hl 0 rfl) ?_
        refine lv_iload_n hx hb dX2_hiddenPairsTried_23 rfl (lv_at hl 1 rfl) ?_
        refine lv_iload_n hx hb dX2_hiddenPairsTried_24 rfl (lv_at hl 3 rfl) ?_
        refine lv_imul hx hb dX2_hiddenPairsTried_25 ?_
        obtain ⟨q4, h3, hF⟩ := bd1_at hF
        refine rcall (va_runV (As := [.int (x1 * x3)]) (rest := []) S (K2_restOf l D cI cZ cS cJ aL aW wm wW (x1 * x3) q4 h3) (cwV 1 hts (gd_V wd_339 wd_341 wd_5 wd_24 wd_342) rfl rfl rfl hd2_restOf ⟨Nat.le_of_ble_eq_true rfl, Nat.le_of_ble_eq_true rfl⟩) (rPreV hK hP (ci := 2) (q := (RX2, TX2, 2)) rfl rfl) rfl rfl hl.1 rfl (lv_room (Nat.le_of_ble_eq_true rfl)) dX2_hiddenPairsTried_26 ⟨(Nat.zero_le _), (Nat.zero_le _)⟩) ?_
        refine lv_aload_n hx hb dX2_hiddenPairsTried_29 rfl (lv_at hl 0 rfl) ?_
        refine lv_iload_n hx hb dX2_hiddenPairsTried_30 rfl (lv_at hl 1 rfl) ?_
        refine lv_iload hx hb dX2_hiddenPairsTried_31 (lv_at hl 4 rfl) ?_
        refine lv_imul hx hb dX2_hiddenPairsTried_33 ?_
        obtain ⟨q6, h5, hF⟩ := bd1_at hF
        refine rcall (va_runV (As := [.int (x1 * x4)]) (rest := [.int q4]) S (K2_restOf l D cI cZ cS cJ aL aW wm wW (x1 * x4) q6 h5) (cwV 1 hts (gd_V wd_339 wd_341 wd_5 wd_24 wd_342) rfl rfl rfl hd2_restOf ⟨Nat.le_of_ble_eq_true rfl, Nat.le_of_ble_eq_true rfl⟩) (rPreV hK hP (ci := 2) (q := (RX2, TX2, 2)) rfl rfl) rfl rfl hl.1 rfl (lv_room (Nat.le_of_ble_eq_true rfl)) dX2_hiddenPairsTried_34 ⟨(Nat.zero_le _), (Nat.zero_le _)⟩) ?_
        refine lv_icmp_ne (tgt := 43) hx hb dX2_hiddenPairsTried_37 (by decide) (fun c7 => ?_) (fun c7 => ?_)
        · rw [if_neg c7] at hF
          refine lv_iinc (v := (x4 + 1)) (lv' := [(4, .int (x4 + 1)), (0, .ref aL), (1, .int x1), (2, .int x2), (3, .int x3)]) hx hb dX2_hiddenPairsTried_43 hl (k := 4) rfl rfl (by decide) rfl (fun ls hl => ?_)
          refine lv_goto (tgt := 15) hx hb dX2_hiddenPairsTried_46 (by decide) ?_
          exact ih x2 (x4 + 1) ls (lv_sub hl [1, 2, 3, 4, 0] rfl) hF
        · rw [if_pos c7] at hF
          refine lv_iinc (v := (x2 + 1)) (lv' := [(2, .int (x2 + 1)), (0, .ref aL), (1, .int x1), (3, .int x3), (4, .int x4)]) hx hb dX2_hiddenPairsTried_40 hl (k := 2) rfl rfl (by decide) rfl (fun ls hl => ?_)
          refine lv_iinc (v := (x4 + 1)) (lv' := [(4, .int (x4 + 1)), (2, .int (x2 + 1)), (0, .ref aL), (1, .int x1), (3, .int x3)]) hx hb dX2_hiddenPairsTried_43 hl (k := 4) rfl rfl (by decide) rfl (fun ls hl => ?_)
          refine lv_goto (tgt := 15) hx hb dX2_hiddenPairsTried_46 (by decide) ?_
          exact ih (x2 + 1) (x4 + 1) ls (lv_sub hl [2, 3, 1, 4, 0] rfl) hF
  have W_4 : ∀ (x1 : Int32) (n : Nat) (x2 : Int32) (x3 : Int32), ∀ (ls : Array Slot), lv_has ls 5 [(0, .ref aL), (1, .int x1), (2, .int x2), (3, .int x3)] → f2_hiddenPairsTried_l4 wm x1 n x2 x3 = some (r) → rW p l e wsX2_hiddenPairsTried rm2_hiddenPairsTried s m args below meth c (.int r) (F0 m 4 ls []) := by
    intro x1  n
    induction n with
    | zero =>
      intro x2 x3 ls hl hF
      rw [f2_hiddenPairsTried_l4] at hF
      cases hF
    | succ n ih =>
      intro x2 x3 ls hl hF
      rw [f2_hiddenPairsTried_l4] at hF
      refine lv_iload_n hx hb dX2_hiddenPairsTried_4 rfl (lv_at hl 3 rfl) ?_
      refine lv_bipush hx hb dX2_hiddenPairsTried_5 kc_bipush_9 ?_
      refine lv_icmp_gt (tgt := 55) hx hb dX2_hiddenPairsTried_7 (by decide) (fun c1 => ?_) (fun c1 => ?_)
      · have hF := ite_t c1 hF
        refine lv_iload_n hx hb dX2_hiddenPairsTried_55 rfl (lv_at hl 2 rfl) ?_
        exact rret hF hx hb hr hlocks dX2_hiddenPairsTried_56
      · have hF := ite_f c1 hF
        refine lv_iload_n hx hb dX2_hiddenPairsTried_10 rfl (lv_at hl 3 rfl) ?_
        refine lv_iconst hx hb dX2_hiddenPairsTried_11 kc_iconst_1 ?_
        refine lv_iadd hx hb dX2_hiddenPairsTried_12 ?_
        refine lv_istore (lv' := [(4, .int (x3 + (1 : Int32))), (0, .ref aL), (1, .int x1), (2, .int x2), (3, .int x3)]) hx hb dX2_hiddenPairsTried_13 hl (by decide) rfl (fun ls hl => ?_)
        exact W_15 x1 x3 (f2_hiddenPairsTried_l4 wm x1 n) ih fu x2 (x3 + (1 : Int32)) ls (lv_sub hl [1, 2, 3, 4, 0] rfl) hF
  rw [f2_hiddenPairsTried] at hF
  show rW p l e wsX2_hiddenPairsTried rm2_hiddenPairsTried s m args below meth c (.int r) (F0 m 0 ls [])
  refine lv_iconst hx hb dX2_hiddenPairsTried_0 kc_iconst_0 ?_
  refine lv_istore_n (lv' := [(2, .int (0 : Int32)), (0, .ref aL), (1, .int x1)]) hx hb dX2_hiddenPairsTried_1 rfl hl (by decide) rfl (fun ls hl => ?_)
  refine lv_iconst hx hb dX2_hiddenPairsTried_2 kc_iconst_0 ?_
  refine lv_istore_n (lv' := [(3, .int (0 : Int32)), (2, .int (0 : Int32)), (0, .ref aL), (1, .int x1)]) hx hb dX2_hiddenPairsTried_3 rfl hl (by decide) rfl (fun ls hl => ?_)
  exact W_4 x1  fu (0 : Int32) (0 : Int32) ls (lv_sub hl [2, 3, 1, 0] rfl) hF
abbrev rm2_hiddenPairs : Room := { frames := 2, cells := 0, slots := 0, locals := 44 }
theorem hd2_hiddenPairs : yX2_hiddenPairs.cls = RX2 ∧ yX2_hiddenPairs.cls ≠ "java/lang/invoke/MethodHandle" ∧ yX2_hiddenPairs.cls ≠ "java/lang/invoke/VarHandle" ∧ (parseMethodDescriptor yX2_hiddenPairs.desc).map (fun d => d.parameters.length) = some 1 := by decide +kernel
set_option maxHeartbeats 4000000 in
set_option maxRecDepth 100000 in
theorem K2_hiddenPairs (l : Launch) (D : va_G) (cI cZ cS cJ : ClassId) (aL aW : Nat) (wm : Int32) (wW : Nat → Int32) (x1 : Int32) (r : Int32) (hF : f2_hiddenPairs wm x1 = some (r)) : Met l yX2_hiddenPairs wsX2_hiddenPairs rm2_hiddenPairs (rP D (gT cI cZ cS cJ) (W2 cI aL aW wm wW) [.ref aL, .int x1]) (rQ (.int r)) 0 0 (fun _ => False) := by
  refine Met.ofW (cc := cX2_hiddenPairs) (maxL := 4) (ret := (some .int)) (by decide) rfl ?_
  intro p e s m args below meth c s₁ B hml hv
  obtain ⟨ha, hK, hP⟩ := hv
  have hx := B.exec
  have hb := B.bytes
  have hr := B.returns
  have hlocks := B.notSynchronized
  have hts : ∀ w ∈ lw_all, w.before args s = true := fun w h => atoms_spec (ws := wsX2_hiddenPairs) B.pre w (List.mem_cons_of_mem _ h)
  have hown : s.vm.findClass RX2 = some m.cls := findClass_of_methodNamed B.named
  have S : CallFix p m c cX2_hiddenPairs 4 s args lw_all RX2 := ⟨hx, hb, hml, hown, hts⟩
  have hl := lv_entry ([.ref aL, .int x1] : List Value) (n := 4) (Nat.le_of_ble_eq_true rfl)
  refine W.eq (g2 := F0 m 0 ((lg_sl ([.ref aL, .int x1] : List Value) ++ List.replicate (4 - (lg_sl ([.ref aL, .int x1] : List Value)).length) Slot.unset).toArray) []) (by rw [ha]; exact lg_entry_eq _ _ _) ?_
  generalize (lg_sl ([.ref aL, .int x1] : List Value) ++ List.replicate (4 - (lg_sl ([.ref aL, .int x1] : List Value)).length) Slot.unset).toArray = ls at hl ⊢
  have hl : lv_has ls 4 [(0, .ref aL), (1, .int x1)] := hl
  clear ha
  have W_4 : ∀ (x1 : Int32) (n : Nat) (x2 : Int32) (x3 : Int32), ∀ (ls : Array Slot), lv_has ls 4 [(0, .ref aL), (1, .int x1), (2, .int x2), (3, .int x3)] → f2_hiddenPairs_l4 wm x1 n x2 x3 = some (r) → rW p l e wsX2_hiddenPairs rm2_hiddenPairs s m args below meth c (.int r) (F0 m 4 ls []) := by
    intro x1  n
    induction n with
    | zero =>
      intro x2 x3 ls hl hF
      rw [f2_hiddenPairs_l4] at hF
      cases hF
    | succ n ih =>
      intro x2 x3 ls hl hF
      rw [f2_hiddenPairs_l4] at hF
      refine lv_iload_n hx hb dX2_hiddenPairs_4 rfl (lv_at hl 3 rfl) ?_
      refine lv_bipush hx hb dX2_hiddenPairs_5 kc_bipush_9 ?_
      refine lv_icmp_gt (tgt := 32) hx hb dX2_hiddenPairs_7 (by decide) (fun c1 => ?_) (fun c1 => ?_)
      · have hF := ite_t c1 hF
        refine lv_iload_n hx hb dX2_hiddenPairs_32 rfl (lv_at hl 2 rfl) ?_
        exact rret hF hx hb hr hlocks dX2_hiddenPairs_33
      · have hF := ite_f c1 hF
        refine lv_aload_n hx hb dX2_hiddenPairs_10 rfl (lv_at hl 0 rfl) ?_
        refine lv_iload_n hx hb dX2_hiddenPairs_11 rfl (lv_at hl 1 rfl) ?_
        refine lv_iload_n hx hb dX2_hiddenPairs_12 rfl (lv_at hl 3 rfl) ?_
        obtain ⟨q3, h2, hF⟩ := bd1_at hF
        refine rcall (va_runV (As := [.int x1, .int x3]) (rest := []) S (K2_isHidden l D cI cZ cS cJ aL aW wm wW x1 x3 q3 h2) (cwV 2 hts (gd_V wd_626 wd_628 wd_20 wd_24 wd_629) rfl rfl rfl hd2_isHidden ⟨Nat.le_of_ble_eq_true rfl, Nat.le_of_ble_eq_true rfl⟩) (rPreV hK hP (ci := 2) (q := (RX2, TX2, 2)) rfl rfl) rfl rfl hl.1 rfl (lv_room (Nat.le_of_ble_eq_true rfl)) dX2_hiddenPairs_13 ⟨(Nat.zero_le _), (Nat.zero_le _)⟩) ?_
        refine lv_if_eq (tgt := 26) hx hb dX2_hiddenPairs_16 (by decide) (fun c4 => ?_) (fun c4 => ?_)
        · rw [if_pos c4] at hF
          refine lv_iinc (v := (x3 + 1)) (lv' := [(3, .int (x3 + 1)), (0, .ref aL), (1, .int x1), (2, .int x2)]) hx hb dX2_hiddenPairs_26 hl (k := 3) rfl rfl (by decide) rfl (fun ls hl => ?_)
          refine lv_goto (tgt := 4) hx hb dX2_hiddenPairs_29 (by decide) ?_
          exact ih x2 (x3 + 1) ls (lv_sub hl [1, 2, 3, 0] rfl) hF
        · rw [if_neg c4] at hF
          refine lv_iload_n hx hb dX2_hiddenPairs_19 rfl (lv_at hl 2 rfl) ?_
          refine lv_bipush hx hb dX2_hiddenPairs_20 kc_bipush_10 ?_
          refine lv_iload_n hx hb dX2_hiddenPairs_22 rfl (lv_at hl 3 rfl) ?_
          refine lv_isub hx hb dX2_hiddenPairs_23 ?_
          refine lv_iadd hx hb dX2_hiddenPairs_24 ?_
          refine lv_istore_n (lv' := [(2, .int (x2 + ((10 : Int32) - x3))), (0, .ref aL), (1, .int x1), (3, .int x3)]) hx hb dX2_hiddenPairs_25 rfl hl (by decide) rfl (fun ls hl => ?_)
          refine lv_iinc (v := (x3 + 1)) (lv' := [(3, .int (x3 + 1)), (2, .int (x2 + ((10 : Int32) - x3))), (0, .ref aL), (1, .int x1)]) hx hb dX2_hiddenPairs_26 hl (k := 3) rfl rfl (by decide) rfl (fun ls hl => ?_)
          refine lv_goto (tgt := 4) hx hb dX2_hiddenPairs_29 (by decide) ?_
          exact ih (x2 + ((10 : Int32) - x3)) (x3 + 1) ls (lv_sub hl [2, 3, 1, 0] rfl) hF
  rw [f2_hiddenPairs] at hF
  show rW p l e wsX2_hiddenPairs rm2_hiddenPairs s m args below meth c (.int r) (F0 m 0 ls [])
  refine lv_iconst hx hb dX2_hiddenPairs_0 kc_iconst_0 ?_
  refine lv_istore_n (lv' := [(2, .int (0 : Int32)), (0, .ref aL), (1, .int x1)]) hx hb dX2_hiddenPairs_1 rfl hl (by decide) rfl (fun ls hl => ?_)
  refine lv_iconst hx hb dX2_hiddenPairs_2 kc_iconst_1 ?_
  refine lv_istore_n (lv' := [(3, .int (1 : Int32)), (2, .int (0 : Int32)), (0, .ref aL), (1, .int x1)]) hx hb dX2_hiddenPairs_3 rfl hl (by decide) rfl (fun ls hl => ?_)
  exact W_4 x1  fu (0 : Int32) (1 : Int32) ls (lv_sub hl [2, 3, 1, 0] rfl) hF
abbrev rm2_hiddenPairsWith : Room := { frames := 3, cells := 0, slots := 0, locals := 67 }
theorem hd2_hiddenPairsWith : yX2_hiddenPairsWith.cls = RX2 ∧ yX2_hiddenPairsWith.cls ≠ "java/lang/invoke/MethodHandle" ∧ yX2_hiddenPairsWith.cls ≠ "java/lang/invoke/VarHandle" ∧ (parseMethodDescriptor yX2_hiddenPairsWith.desc).map (fun d => d.parameters.length) = some 2 := by decide +kernel
set_option maxHeartbeats 4000000 in
set_option maxRecDepth 100000 in
theorem K2_hiddenPairsWith (l : Launch) (D : va_G) (cI cZ cS cJ : ClassId) (aL aW : Nat) (wm : Int32) (wW : Nat → Int32) (x1 : Int32) (x2 : Int32) (r : Int32) (hF : f2_hiddenPairsWith wm wW x1 x2 = some (r)) : Met l yX2_hiddenPairsWith wsX2_hiddenPairsWith rm2_hiddenPairsWith (rP D (gT cI cZ cS cJ) (W2 cI aL aW wm wW) [.ref aL, .int x1, .int x2]) (rQ (.int r)) 0 0 (fun _ => False) := by
  refine Met.ofW (cc := cX2_hiddenPairsWith) (maxL := 7) (ret := (some .int)) (by decide) rfl ?_
  intro p e s m args below meth c s₁ B hml hv
  obtain ⟨ha, hK, hP⟩ := hv
  have hx := B.exec
  have hb := B.bytes
  have hr := B.returns
  have hlocks := B.notSynchronized
  have hts : ∀ w ∈ lw_all, w.before args s = true := fun w h => atoms_spec (ws := wsX2_hiddenPairsWith) B.pre w (List.mem_cons_of_mem _ h)
  have hown : s.vm.findClass RX2 = some m.cls := findClass_of_methodNamed B.named
  have S : CallFix p m c cX2_hiddenPairsWith 7 s args lw_all RX2 := ⟨hx, hb, hml, hown, hts⟩
  have hl := lv_entry ([.ref aL, .int x1, .int x2] : List Value) (n := 7) (Nat.le_of_ble_eq_true rfl)
  refine W.eq (g2 := F0 m 0 ((lg_sl ([.ref aL, .int x1, .int x2] : List Value) ++ List.replicate (7 - (lg_sl ([.ref aL, .int x1, .int x2] : List Value)).length) Slot.unset).toArray) []) (by rw [ha]; exact lg_entry_eq _ _ _) ?_
  generalize (lg_sl ([.ref aL, .int x1, .int x2] : List Value) ++ List.replicate (7 - (lg_sl ([.ref aL, .int x1, .int x2] : List Value)).length) Slot.unset).toArray = ls at hl ⊢
  have hl : lv_has ls 7 [(0, .ref aL), (1, .int x1), (2, .int x2)] := hl
  clear ha
  have W_68 : ∀ (x1 : Int32) (x2 : Int32) (x3 : Int32) (x4 : Int32) (x5 : Int32) (s0 : Int32) (k5 : Int32 → Int32 → Option (Int32)) (hk5 : ∀ (x3 : Int32) (x4 : Int32), ∀ (ls : Array Slot), lv_has ls 7 [(0, .ref aL), (1, .int x1), (2, .int x2), (3, .int x3), (4, .int x4)] → k5 x3 x4 = some (r) → rW p l e wsX2_hiddenPairsWith rm2_hiddenPairsWith s m args below meth c (.int r) (F0 m 5 ls [])), ∀ (ls : Array Slot), lv_has ls 7 [(0, .ref aL), (1, .int x1), (2, .int x2), (3, .int x3), (4, .int x4), (5, .int x5)] → f2_hiddenPairsWith_j68 k5 wm wW x1 x2 x3 x4 x5 s0 = some (r) → rW p l e wsX2_hiddenPairsWith rm2_hiddenPairsWith s m args below meth c (.int r) (F0 m 68 ls [.int s0]) := by
    intro x1 x2 x3 x4 x5 s0 k5 hk5 ls hl hF
    rw [f2_hiddenPairsWith_j68] at hF
    refine lv_istore (lv' := [(6, .int s0), (0, .ref aL), (1, .int x1), (2, .int x2), (3, .int x3), (4, .int x4), (5, .int x5)]) hx hb dX2_hiddenPairsWith_68 hl (by decide) rfl (fun ls hl => ?_)
    refine lv_iload_n hx hb dX2_hiddenPairsWith_70 rfl (lv_at hl 4 rfl) ?_
    refine lv_aload_n hx hb dX2_hiddenPairsWith_71 rfl (lv_at hl 1 rfl) ?_
    refine lv_iload hx hb dX2_hiddenPairsWith_72 (lv_at hl 6 rfl) ?_
    refine lv_iload hx hb dX2_hiddenPairsWith_74 (lv_at hl 0 rfl) ?_
    refine lv_isub hx hb dX2_hiddenPairsWith_76 ?_
    obtain ⟨q12, h11, hF⟩ := bd1_at hF
    refine rcall (va_runV (As := [.int (x5 - s0)]) (rest := [.int x3]) S (K2_hiddenPairs l D cI cZ cS cJ aL aW wm wW (x5 - s0) q12 h11) (cwV 1 hts (gd_V wd_659 wd_648 wd_649 wd_24 wd_650) rfl rfl rfl hd2_hiddenPairs ⟨Nat.le_of_ble_eq_true rfl, Nat.le_of_ble_eq_true rfl⟩) (rPreV hK hP (ci := 2) (q := (RX2, TX2, 2)) rfl rfl) rfl rfl hl.1 rfl (lv_room (Nat.le_of_ble_eq_true rfl)) dX2_hiddenPairsWith_77 ⟨(Nat.zero_le _), (Nat.zero_le _)⟩) ?_
    refine lv_iadd hx hb dX2_hiddenPairsWith_80 ?_
    refine lv_istore_n (lv' := [(3, .int (x3 + q12)), (6, .int s0), (0, .ref aL), (1, .int x1), (2, .int x2), (4, .int x4), (5, .int x5)]) hx hb dX2_hiddenPairsWith_81 rfl hl (by decide) rfl (fun ls hl => ?_)
    refine lv_iinc (v := (x4 + 1)) (lv' := [(4, .int (x4 + 1)), (3, .int (x3 + q12)), (6, .int s0), (0, .ref aL), (1, .int x1), (2, .int x2), (5, .int x5)]) hx hb dX2_hiddenPairsWith_82 hl (k := 5) rfl rfl (by decide) rfl (fun ls hl => ?_)
    refine lv_goto (tgt := 5) hx hb dX2_hiddenPairsWith_85 (by decide) ?_
    exact hk5 (x3 + q12) (x4 + 1) ls (lv_sub hl [3, 4, 5, 1, 0] rfl) hF
  have W_28 : ∀ (x1 : Int32) (x2 : Int32) (x3 : Int32) (x4 : Int32) (s0 : Int32) (k5 : Int32 → Int32 → Option (Int32)) (hk5 : ∀ (x3 : Int32) (x4 : Int32), ∀ (ls : Array Slot), lv_has ls 7 [(0, .ref aL), (1, .int x1), (2, .int x2), (3, .int x3), (4, .int x4)] → k5 x3 x4 = some (r) → rW p l e wsX2_hiddenPairsWith rm2_hiddenPairsWith s m args below meth c (.int r) (F0 m 5 ls [])), ∀ (ls : Array Slot), lv_has ls 7 [(0, .ref aL), (1, .int x1), (2, .int x2), (3, .int x3), (4, .int x4)] → f2_hiddenPairsWith_j28 k5 wm wW x1 x2 x3 x4 s0 = some (r) → rW p l e wsX2_hiddenPairsWith rm2_hiddenPairsWith s m args below meth c (.int r) (F0 m 28 ls [.int s0]) := by
    intro x1 x2 x3 x4 s0 k5 hk5 ls hl hF
    rw [f2_hiddenPairsWith_j28] at hF
    refine lv_istore (lv' := [(5, .int s0), (0, .ref aL), (1, .int x1), (2, .int x2), (3, .int x3), (4, .int x4)]) hx hb dX2_hiddenPairsWith_28 hl (by decide) rfl (fun ls hl => ?_)
    refine lv_iload_n hx hb dX2_hiddenPairsWith_30 rfl (lv_at hl 4 rfl) ?_
    refine lv_aload_n hx hb dX2_hiddenPairsWith_31 rfl (lv_at hl 1 rfl) ?_
    refine lv_iload hx hb dX2_hiddenPairsWith_32 (lv_at hl 0 rfl) ?_
    obtain ⟨q6, h5, hF⟩ := bd1_at hF
    refine rcall (va_runV (As := [.int s0]) (rest := [.int x3]) S (K2_hiddenPairs l D cI cZ cS cJ aL aW wm wW s0 q6 h5) (cwV 1 hts (gd_V wd_659 wd_648 wd_649 wd_24 wd_650) rfl rfl rfl hd2_hiddenPairs ⟨Nat.le_of_ble_eq_true rfl, Nat.le_of_ble_eq_true rfl⟩) (rPreV hK hP (ci := 2) (q := (RX2, TX2, 2)) rfl rfl) rfl rfl hl.1 rfl (lv_room (Nat.le_of_ble_eq_true rfl)) dX2_hiddenPairsWith_34 ⟨(Nat.zero_le _), (Nat.zero_le _)⟩) ?_
    refine lv_iadd hx hb dX2_hiddenPairsWith_37 ?_
    refine lv_istore_n (lv' := [(3, .int (x3 + q6)), (5, .int s0), (0, .ref aL), (1, .int x1), (2, .int x2), (4, .int x4)]) hx hb dX2_hiddenPairsWith_38 rfl hl (by decide) rfl (fun ls hl => ?_)
    refine lv_iload hx hb dX2_hiddenPairsWith_39 (lv_at hl 5 rfl) ?_
    refine lv_iconst hx hb dX2_hiddenPairsWith_41 kc_iconst_1 ?_
    refine lv_iadd hx hb dX2_hiddenPairsWith_42 ?_
    refine lv_bipush hx hb dX2_hiddenPairsWith_43 kc_bipush_6 ?_
    refine lv_icmp_ge (tgt := 82) hx hb dX2_hiddenPairsWith_45 (by decide) (fun c7 => ?_) (fun c7 => ?_)
    · have hF := ite_t c7 hF
      refine lv_iinc (v := (x4 + 1)) (lv' := [(4, .int (x4 + 1)), (3, .int (x3 + q6)), (5, .int s0), (0, .ref aL), (1, .int x1), (2, .int x2)]) hx hb dX2_hiddenPairsWith_82 hl (k := 5) rfl rfl (by decide) rfl (fun ls hl => ?_)
      refine lv_goto (tgt := 5) hx hb dX2_hiddenPairsWith_85 (by decide) ?_
      exact hk5 (x3 + q6) (x4 + 1) ls (lv_sub hl [3, 4, 5, 1, 0] rfl) hF
    · have hF := ite_f c7 hF
      refine lv_iload hx hb dX2_hiddenPairsWith_48 (lv_at hl 5 rfl) ?_
      refine lv_iconst hx hb dX2_hiddenPairsWith_50 kc_iconst_1 ?_
      refine lv_iadd hx hb dX2_hiddenPairsWith_51 ?_
      refine lv_iload_n hx hb dX2_hiddenPairsWith_52 rfl (lv_at hl 3 rfl) ?_
      refine lv_icmp_ne (tgt := 60) hx hb dX2_hiddenPairsWith_53 (by decide) (fun c8 => ?_) (fun c8 => ?_)
      · have hF := ite_f c8 hF
        refine lv_aload_n hx hb dX2_hiddenPairsWith_60 rfl (lv_at hl 2 rfl) ?_
        refine lv_iload hx hb dX2_hiddenPairsWith_61 (lv_at hl 5 rfl) ?_
        refine lv_iconst hx hb dX2_hiddenPairsWith_63 kc_iconst_1 ?_
        refine lv_iadd hx hb dX2_hiddenPairsWith_64 ?_
        obtain ⟨q10, h9, hF⟩ := bd1_at hF
        refine rcall (va_runV (As := [.int (x4 + (1 : Int32))]) (rest := []) S (K2_weightAt l D cI cZ cS cJ aL aW wm wW (x4 + (1 : Int32)) q10 h9) (cwV 1 hts (gd_V wd_335 wd_336 wd_337 wd_24 wd_338) rfl rfl rfl hd2_weightAt ⟨Nat.le_of_ble_eq_true rfl, Nat.le_of_ble_eq_true rfl⟩) (rPreV hK hP (ci := 2) (q := (RX2, TX2, 2)) rfl rfl) rfl rfl hl.1 rfl (lv_room (Nat.le_of_ble_eq_true rfl)) dX2_hiddenPairsWith_65 ⟨(Nat.zero_le _), (Nat.zero_le _)⟩) ?_
        exact W_68 x1 x2 (x3 + q6) x4 s0 q10 k5 hk5 ls (lv_sub hl [2, 3, 4, 0, 5, 1] rfl) hF
      · have hF := ite_t c8 hF
        refine lv_iload_n hx hb dX2_hiddenPairsWith_56 rfl (lv_at hl 4 rfl) ?_
        refine lv_goto (tgt := 68) hx hb dX2_hiddenPairsWith_57 (by decide) ?_
        exact W_68 x1 x2 (x3 + q6) x4 s0 x2 k5 hk5 ls (lv_sub hl [2, 3, 4, 0, 5, 1] rfl) hF
  have W_5 : ∀ (x1 : Int32) (x2 : Int32) (n : Nat) (x3 : Int32) (x4 : Int32), ∀ (ls : Array Slot), lv_has ls 7 [(0, .ref aL), (1, .int x1), (2, .int x2), (3, .int x3), (4, .int x4)] → f2_hiddenPairsWith_l5 wm wW x1 x2 n x3 x4 = some (r) → rW p l e wsX2_hiddenPairsWith rm2_hiddenPairsWith s m args below meth c (.int r) (F0 m 5 ls []) := by
    intro x1 x2  n
    induction n with
    | zero =>
      intro x3 x4 ls hl hF
      rw [f2_hiddenPairsWith_l5] at hF
      cases hF
    | succ n ih =>
      intro x3 x4 ls hl hF
      rw [f2_hiddenPairsWith_l5] at hF
      refine lv_iload hx hb dX2_hiddenPairsWith_5 (lv_at hl 4 rfl) ?_
      refine lv_bipush hx hb dX2_hiddenPairsWith_7 kc_bipush_6 ?_
      refine lv_icmp_ge (tgt := 88) hx hb dX2_hiddenPairsWith_9 (by decide) (fun c1 => ?_) (fun c1 => ?_)
      · have hF := ite_t c1 hF
        refine lv_iload_n hx hb dX2_hiddenPairsWith_88 rfl (lv_at hl 3 rfl) ?_
        exact rret hF hx hb hr hlocks dX2_hiddenPairsWith_89
      · have hF := ite_f c1 hF
        refine lv_iload hx hb dX2_hiddenPairsWith_12 (lv_at hl 4 rfl) ?_
        refine lv_iload_n hx hb dX2_hiddenPairsWith_14 rfl (lv_at hl 1 rfl) ?_
        refine lv_icmp_ne (tgt := 22) hx hb dX2_hiddenPairsWith_15 (by decide) (fun c2 => ?_) (fun c2 => ?_)
        · have hF := ite_f c2 hF
          refine lv_aload_n hx hb dX2_hiddenPairsWith_22 rfl (lv_at hl 0 rfl) ?_
          refine lv_iload hx hb dX2_hiddenPairsWith_23 (lv_at hl 4 rfl) ?_
          obtain ⟨q4, h3, hF⟩ := bd1_at hF
          refine rcall (va_runV (As := [.int x4]) (rest := []) S (K2_weightAt l D cI cZ cS cJ aL aW wm wW x4 q4 h3) (cwV 1 hts (gd_V wd_335 wd_336 wd_337 wd_24 wd_338) rfl rfl rfl hd2_weightAt ⟨Nat.le_of_ble_eq_true rfl, Nat.le_of_ble_eq_true rfl⟩) (rPreV hK hP (ci := 2) (q := (RX2, TX2, 2)) rfl rfl) rfl rfl hl.1 rfl (lv_room (Nat.le_of_ble_eq_true rfl)) dX2_hiddenPairsWith_25 ⟨(Nat.zero_le _), (Nat.zero_le _)⟩) ?_
          exact W_28 x1 x2 x3 x4 q4 (f2_hiddenPairsWith_l5 wm wW x1 x2 n) ih ls (lv_sub hl [0, 1, 2, 3, 4] rfl) hF
        · have hF := ite_t c2 hF
          refine lv_iload_n hx hb dX2_hiddenPairsWith_18 rfl (lv_at hl 2 rfl) ?_
          refine lv_goto (tgt := 28) hx hb dX2_hiddenPairsWith_19 (by decide) ?_
          exact W_28 x1 x2 x3 x4 x2 (f2_hiddenPairsWith_l5 wm wW x1 x2 n) ih ls (lv_sub hl [0, 1, 2, 3, 4] rfl) hF
  rw [f2_hiddenPairsWith] at hF
  show rW p l e wsX2_hiddenPairsWith rm2_hiddenPairsWith s m args below meth c (.int r) (F0 m 0 ls [])
  refine lv_iconst hx hb dX2_hiddenPairsWith_0 kc_iconst_0 ?_
  refine lv_istore_n (lv' := [(3, .int (0 : Int32)), (0, .ref aL), (1, .int x1), (2, .int x2)]) hx hb dX2_hiddenPairsWith_1 rfl hl (by decide) rfl (fun ls hl => ?_)
  refine lv_iconst hx hb dX2_hiddenPairsWith_2 kc_iconst_0 ?_
  refine lv_istore (lv' := [(4, .int (0 : Int32)), (3, .int (0 : Int32)), (0, .ref aL), (1, .int x1), (2, .int x2)]) hx hb dX2_hiddenPairsWith_3 hl (by decide) rfl (fun ls hl => ?_)
  exact W_5 x1 x2  fu (0 : Int32) (0 : Int32) ls (lv_sub hl [2, 3, 4, 1, 0] rfl) hF
abbrev rm2_hidesNothing : Room := { frames := 3, cells := 0, slots := 0, locals := 67 }
theorem hd2_hidesNothing : yX2_hidesNothing.cls = RX2 ∧ yX2_hidesNothing.cls ≠ "java/lang/invoke/MethodHandle" ∧ yX2_hidesNothing.cls ≠ "java/lang/invoke/VarHandle" ∧ (parseMethodDescriptor yX2_hidesNothing.desc).map (fun d => d.parameters.length) = some 1 := by decide +kernel
set_option maxHeartbeats 4000000 in
set_option maxRecDepth 100000 in
theorem K2_hidesNothing (l : Launch) (D : va_G) (cI cZ cS cJ : ClassId) (aL aW : Nat) (wm : Int32) (wW : Nat → Int32) (x1 : Int32) (r : Int32) (hF : f2_hidesNothing wm wW x1 = some (r)) : Met l yX2_hidesNothing wsX2_hidesNothing rm2_hidesNothing (rP D (gT cI cZ cS cJ) (W2 cI aL aW wm wW) [.ref aL, .int x1]) (rQ (.int r)) 0 0 (fun _ => False) := by
  refine Met.ofW (cc := cX2_hidesNothing) (maxL := 3) (ret := (some .boolean)) (by decide) rfl ?_
  intro p e s m args below meth c s₁ B hml hv
  obtain ⟨ha, hK, hP⟩ := hv
  have hx := B.exec
  have hb := B.bytes
  have hr := B.returns
  have hlocks := B.notSynchronized
  have hts : ∀ w ∈ lw_all, w.before args s = true := fun w h => atoms_spec (ws := wsX2_hidesNothing) B.pre w (List.mem_cons_of_mem _ h)
  have hown : s.vm.findClass RX2 = some m.cls := findClass_of_methodNamed B.named
  have S : CallFix p m c cX2_hidesNothing 3 s args lw_all RX2 := ⟨hx, hb, hml, hown, hts⟩
  have hl := lv_entry ([.ref aL, .int x1] : List Value) (n := 3) (Nat.le_of_ble_eq_true rfl)
  refine W.eq (g2 := F0 m 0 ((lg_sl ([.ref aL, .int x1] : List Value) ++ List.replicate (3 - (lg_sl ([.ref aL, .int x1] : List Value)).length) Slot.unset).toArray) []) (by rw [ha]; exact lg_entry_eq _ _ _) ?_
  generalize (lg_sl ([.ref aL, .int x1] : List Value) ++ List.replicate (3 - (lg_sl ([.ref aL, .int x1] : List Value)).length) Slot.unset).toArray = ls at hl ⊢
  have hl : lv_has ls 3 [(0, .ref aL), (1, .int x1)] := hl
  clear ha
  have W_2 : ∀ (x1 : Int32) (n : Nat) (x2 : Int32), ∀ (ls : Array Slot), lv_has ls 3 [(0, .ref aL), (1, .int x1), (2, .int x2)] → f2_hidesNothing_l2 wm wW x1 n x2 = some (r) → rW p l e wsX2_hidesNothing rm2_hidesNothing s m args below meth c (.int r) (F0 m 2 ls []) := by
    intro x1  n
    induction n with
    | zero =>
      intro x2 ls hl hF
      rw [f2_hidesNothing_l2] at hF
      cases hF
    | succ n ih =>
      intro x2 ls hl hF
      rw [f2_hidesNothing_l2] at hF
      refine lv_iload_n hx hb dX2_hidesNothing_2 rfl (lv_at hl 2 rfl) ?_
      refine lv_iload_n hx hb dX2_hidesNothing_3 rfl (lv_at hl 1 rfl) ?_
      obtain ⟨q2, h1, hF⟩ := bd1_at hF
      refine rcall (va_runSN (As := [.int x1]) (rest := [.int x2]) S (K5_positionsOf l D cI cZ cS cJ x1 q2 h1) ⟨va_cnB 1 hts (gd_all wd_640) rfl rfl rfl hK.2.2.2 (hts _ wd_22) hdn5_positionsOf ⟨Nat.le_of_ble_eq_true rfl, Nat.le_of_ble_eq_true rfl⟩, (hts _ wd_639), trivial⟩ (rPreS hK (hP.sub (ws' := ([] : va_W)) [] rfl)) rfl rfl hl.1 rfl (lv_room (Nat.le_of_ble_eq_true rfl)) dX2_hidesNothing_4 ⟨(Nat.zero_le _), (Nat.zero_le _)⟩) ?_
      refine lv_icmp_ge (tgt := 31) hx hb dX2_hidesNothing_7 (by decide) (fun c3 => ?_) (fun c3 => ?_)
      · have hF := ite_t c3 hF
        refine lv_iconst hx hb dX2_hidesNothing_31 kc_iconst_1 ?_
        exact rretz (by decide) hF hx hb hr hlocks dX2_hidesNothing_32
      · have hF := ite_f c3 hF
        refine lv_aload_n hx hb dX2_hidesNothing_10 rfl (lv_at hl 0 rfl) ?_
        refine lv_aload_n hx hb dX2_hidesNothing_11 rfl (lv_at hl 0 rfl) ?_
        refine lv_iload_n hx hb dX2_hidesNothing_12 rfl (lv_at hl 2 rfl) ?_
        refine lv_iload_n hx hb dX2_hidesNothing_13 rfl (lv_at hl 1 rfl) ?_
        obtain ⟨q5, h4, hF⟩ := bd1_at hF
        refine rcall (va_runV (As := [.int x2, .int x1]) (rest := [.ref aL]) S (K2_factorAt l D cI cZ cS cJ aL aW wm wW x2 x1 q5 h4) (cwV 2 hts (gd_V wd_622 wd_623 wd_624 wd_24 wd_625) rfl rfl rfl hd2_factorAt ⟨Nat.le_of_ble_eq_true rfl, Nat.le_of_ble_eq_true rfl⟩) (rPreV hK hP (ci := 2) (q := (RX2, TX2, 2)) rfl rfl) rfl rfl hl.1 rfl (lv_room (Nat.le_of_ble_eq_true rfl)) dX2_hidesNothing_14 ⟨(Nat.zero_le _), (Nat.zero_le _)⟩) ?_
        obtain ⟨q7, h6, hF⟩ := bd1_at hF
        refine rcall (va_runV (As := [.int q5]) (rest := []) S (K2_hiddenPairs l D cI cZ cS cJ aL aW wm wW q5 q7 h6) (cwV 1 hts (gd_V wd_659 wd_648 wd_649 wd_24 wd_650) rfl rfl rfl hd2_hiddenPairs ⟨Nat.le_of_ble_eq_true rfl, Nat.le_of_ble_eq_true rfl⟩) (rPreV hK hP (ci := 2) (q := (RX2, TX2, 2)) rfl rfl) rfl rfl hl.1 rfl (lv_room (Nat.le_of_ble_eq_true rfl)) dX2_hidesNothing_17 ⟨(Nat.zero_le _), (Nat.zero_le _)⟩) ?_
        refine lv_if_le (tgt := 25) hx hb dX2_hidesNothing_20 (by decide) (fun c8 => ?_) (fun c8 => ?_)
        · have hF := ite_t c8 hF
          refine lv_iinc (v := (x2 + 1)) (lv' := [(2, .int (x2 + 1)), (0, .ref aL), (1, .int x1)]) hx hb dX2_hidesNothing_25 hl (k := 2) rfl rfl (by decide) rfl (fun ls hl => ?_)
          refine lv_goto (tgt := 2) hx hb dX2_hidesNothing_28 (by decide) ?_
          exact ih (x2 + 1) ls (lv_sub hl [1, 2, 0] rfl) hF
        · have hF := ite_f c8 hF
          refine lv_iconst hx hb dX2_hidesNothing_23 kc_iconst_0 ?_
          exact rretz (by decide) hF hx hb hr hlocks dX2_hidesNothing_24
  rw [f2_hidesNothing] at hF
  show rW p l e wsX2_hidesNothing rm2_hidesNothing s m args below meth c (.int r) (F0 m 0 ls [])
  refine lv_iconst hx hb dX2_hidesNothing_0 kc_iconst_0 ?_
  refine lv_istore_n (lv' := [(2, .int (0 : Int32)), (0, .ref aL), (1, .int x1)]) hx hb dX2_hidesNothing_1 rfl hl (by decide) rfl (fun ls hl => ?_)
  exact W_2 x1  fu (0 : Int32) ls (lv_sub hl [1, 2, 0] rfl) hF
abbrev rm2_digitAt : Room := { frames := 0, cells := 0, slots := 0, locals := 0 }
theorem hdn2_digitAt : yX2_digitAt.cls ≠ "java/lang/invoke/MethodHandle" ∧ yX2_digitAt.cls ≠ "java/lang/invoke/VarHandle" ∧ (parseMethodDescriptor yX2_digitAt.desc).map (fun d => d.parameters.length) = some 2 := by decide +kernel
set_option maxHeartbeats 4000000 in
set_option maxRecDepth 100000 in
theorem K2_digitAt (l : Launch) (D : va_G) (cI cZ cS cJ : ClassId) (x0 : Int32) (x1 : Int32) (r : Int32) (hF : f2_digitAt x0 x1 = some (r)) : Met l yX2_digitAt wsX2_digitAt rm2_digitAt (rP D (gT cI cZ cS cJ) ([] : va_W) [.int x0, .int x1]) (rQ (.int r)) 0 0 (fun _ => False) := by
  refine Met.ofW (cc := cX2_digitAt) (maxL := 4) (ret := (some .int)) (by decide) rfl ?_
  intro p e s m args below meth c s₁ B hml hv
  obtain ⟨ha, hK, hP⟩ := hv
  have hx := B.exec
  have hb := B.bytes
  have hr := B.returns
  have hlocks := B.notSynchronized
  have hts : ∀ w ∈ lw_all, w.before args s = true := fun w h => atoms_spec (ws := wsX2_digitAt) B.pre w (List.mem_cons_of_mem _ h)
  have hown : s.vm.findClass RX2 = some m.cls := findClass_of_methodNamed B.named
  have S : CallFix p m c cX2_digitAt 4 s args lw_all RX2 := ⟨hx, hb, hml, hown, hts⟩
  have hl := lv_entry ([.int x0, .int x1] : List Value) (n := 4) (Nat.le_of_ble_eq_true rfl)
  refine W.eq (g2 := F0 m 0 ((lg_sl ([.int x0, .int x1] : List Value) ++ List.replicate (4 - (lg_sl ([.int x0, .int x1] : List Value)).length) Slot.unset).toArray) []) (by rw [ha]; exact lg_entry_eq _ _ _) ?_
  generalize (lg_sl ([.int x0, .int x1] : List Value) ++ List.replicate (4 - (lg_sl ([.int x0, .int x1] : List Value)).length) Slot.unset).toArray = ls at hl ⊢
  have hl : lv_has ls 4 [(0, .int x0), (1, .int x1)] := hl
  clear ha
  have W_4 : ∀ (x1 : Int32) (n : Nat) (x2 : Int32) (x3 : Int32), ∀ (ls : Array Slot), lv_has ls 4 [(1, .int x1), (2, .int x2), (3, .int x3)] → f2_digitAt_l4 x1 n x2 x3 = some (r) → rW p l e wsX2_digitAt rm2_digitAt s m args below meth c (.int r) (F0 m 4 ls []) := by
    intro x1  n
    induction n with
    | zero =>
      intro x2 x3 ls hl hF
      rw [f2_digitAt_l4] at hF
      cases hF
    | succ n ih =>
      intro x2 x3 ls hl hF
      rw [f2_digitAt_l4] at hF
      refine lv_iload_n hx hb dX2_digitAt_4 rfl (lv_at hl 2 rfl) ?_
      refine lv_iload_n hx hb dX2_digitAt_5 rfl (lv_at hl 0 rfl) ?_
      refine lv_icmp_le (tgt := 20) hx hb dX2_digitAt_6 (by decide) (fun c1 => ?_) (fun c1 => ?_)
      · have hF := ite_t c1 hF
        refine lv_iload_n hx hb dX2_digitAt_20 rfl (lv_at hl 1 rfl) ?_
        refine lv_bipush hx hb dX2_digitAt_21 kc_bipush_10 ?_
        refine lv_irem hx hb dX2_digitAt_23 (by decide) ?_
        exact rret hF hx hb hr hlocks dX2_digitAt_24
      · have hF := ite_f c1 hF
        refine lv_iload_n hx hb dX2_digitAt_9 rfl (lv_at hl 1 rfl) ?_
        refine lv_bipush hx hb dX2_digitAt_10 kc_bipush_10 ?_
        refine lv_idiv hx hb dX2_digitAt_12 (by decide) ?_
        refine lv_istore_n (lv' := [(2, .int (x2 / (10 : Int32))), (1, .int x1), (3, .int x3)]) hx hb dX2_digitAt_13 rfl hl (by decide) rfl (fun ls hl => ?_)
        refine lv_iinc (v := (x3 + (-1))) (lv' := [(3, .int (x3 + (-1))), (2, .int (x2 / (10 : Int32))), (1, .int x1)]) hx hb dX2_digitAt_14 hl (k := 2) rfl rfl (by decide) rfl (fun ls hl => ?_)
        refine lv_goto (tgt := 4) hx hb dX2_digitAt_17 (by decide) ?_
        exact ih (x2 / (10 : Int32)) (x3 + (-1)) ls (lv_sub hl [2, 1, 0] rfl) hF
  rw [f2_digitAt] at hF
  show rW p l e wsX2_digitAt rm2_digitAt s m args below meth c (.int r) (F0 m 0 ls [])
  refine lv_iload_n hx hb dX2_digitAt_0 rfl (lv_at hl 0 rfl) ?_
  refine lv_istore_n (lv' := [(2, .int x0), (0, .int x0), (1, .int x1)]) hx hb dX2_digitAt_1 rfl hl (by decide) rfl (fun ls hl => ?_)
  refine lv_iconst hx hb dX2_digitAt_2 kc_iconst_5 ?_
  refine lv_istore_n (lv' := [(3, .int (5 : Int32)), (2, .int x0), (0, .int x0), (1, .int x1)]) hx hb dX2_digitAt_3 rfl hl (by decide) rfl (fun ls hl => ?_)
  exact W_4 x1  fu x0 (5 : Int32) ls (lv_sub hl [3, 1, 0] rfl) hF
abbrev rm2_isSwapped : Room := { frames := 1, cells := 0, slots := 0, locals := 23 }
theorem hdn2_isSwapped : yX2_isSwapped.cls ≠ "java/lang/invoke/MethodHandle" ∧ yX2_isSwapped.cls ≠ "java/lang/invoke/VarHandle" ∧ (parseMethodDescriptor yX2_isSwapped.desc).map (fun d => d.parameters.length) = some 3 := by decide +kernel
set_option maxHeartbeats 4000000 in
set_option maxRecDepth 100000 in
theorem K2_isSwapped (l : Launch) (D : va_G) (cI cZ cS cJ : ClassId) (x0 : Int32) (x1 : Int32) (x2 : Int32) (r : Int32) (hF : f2_isSwapped x0 x1 x2 = some (r)) : Met l yX2_isSwapped wsX2_isSwapped rm2_isSwapped (rP D (gT cI cZ cS cJ) ([] : va_W) [.int x0, .int x1, .int x2]) (rQ (.int r)) 0 0 (fun _ => False) := by
  refine Met.ofW (cc := cX2_isSwapped) (maxL := 3) (ret := (some .boolean)) (by decide) rfl ?_
  intro p e s m args below meth c s₁ B hml hv
  obtain ⟨ha, hK, hP⟩ := hv
  have hx := B.exec
  have hb := B.bytes
  have hr := B.returns
  have hlocks := B.notSynchronized
  have hts : ∀ w ∈ lw_all, w.before args s = true := fun w h => atoms_spec (ws := wsX2_isSwapped) B.pre w (List.mem_cons_of_mem _ h)
  have hown : s.vm.findClass RX2 = some m.cls := findClass_of_methodNamed B.named
  have S : CallFix p m c cX2_isSwapped 3 s args lw_all RX2 := ⟨hx, hb, hml, hown, hts⟩
  have hl := lv_entry ([.int x0, .int x1, .int x2] : List Value) (n := 3) (Nat.le_of_ble_eq_true rfl)
  refine W.eq (g2 := F0 m 0 ((lg_sl ([.int x0, .int x1, .int x2] : List Value) ++ List.replicate (3 - (lg_sl ([.int x0, .int x1, .int x2] : List Value)).length) Slot.unset).toArray) []) (by rw [ha]; exact lg_entry_eq _ _ _) ?_
  generalize (lg_sl ([.int x0, .int x1, .int x2] : List Value) ++ List.replicate (3 - (lg_sl ([.int x0, .int x1, .int x2] : List Value)).length) Slot.unset).toArray = ls at hl ⊢
  have hl : lv_has ls 3 [(0, .int x0), (1, .int x1), (2, .int x2)] := hl
  rw [f2_isSwapped] at hF
  show rW p l e wsX2_isSwapped rm2_isSwapped s m args below meth c (.int r) (F0 m 0 ls [])
  refine lv_iload_n hx hb dX2_isSwapped_0 rfl (lv_at hl 0 rfl) ?_
  refine lv_iload_n hx hb dX2_isSwapped_1 rfl (lv_at hl 2 rfl) ?_
  obtain ⟨q2, h1, hF⟩ := bd1_at hF
  refine rcall (va_runS (As := [.int x0, .int x2]) (rest := []) S (K2_digitAt l D cI cZ cS cJ x0 x2 q2 h1) (va_cwS 2 hts (gd_S wd_619 wd_620 wd_24 wd_621) rfl rfl rfl hdn2_digitAt ⟨Nat.le_of_ble_eq_true rfl, Nat.le_of_ble_eq_true rfl⟩) (rPreS hK hP) rfl rfl hl.1 rfl (lv_room (Nat.le_of_ble_eq_true rfl)) dX2_isSwapped_2 ⟨(Nat.zero_le _), (Nat.zero_le _)⟩) ?_
  refine lv_iload_n hx hb dX2_isSwapped_5 rfl (lv_at hl 1 rfl) ?_
  refine lv_iload_n hx hb dX2_isSwapped_6 rfl (lv_at hl 2 rfl) ?_
  refine lv_iconst hx hb dX2_isSwapped_7 kc_iconst_1 ?_
  refine lv_iadd hx hb dX2_isSwapped_8 ?_
  obtain ⟨q4, h3, hF⟩ := bd1_at hF
  refine rcall (va_runS (As := [.int x1, .int (x2 + (1 : Int32))]) (rest := [.int q2]) S (K2_digitAt l D cI cZ cS cJ x1 (x2 + (1 : Int32)) q4 h3) (va_cwS 2 hts (gd_S wd_619 wd_620 wd_24 wd_621) rfl rfl rfl hdn2_digitAt ⟨Nat.le_of_ble_eq_true rfl, Nat.le_of_ble_eq_true rfl⟩) (rPreS hK hP) rfl rfl hl.1 rfl (lv_room (Nat.le_of_ble_eq_true rfl)) dX2_isSwapped_9 ⟨(Nat.zero_le _), (Nat.zero_le _)⟩) ?_
  refine lv_icmp_ne (tgt := 34) hx hb dX2_isSwapped_12 (by decide) (fun c5 => ?_) (fun c5 => ?_)
  · have hF := ite_f c5 hF
    refine lv_iconst hx hb dX2_isSwapped_34 kc_iconst_0 ?_
    exact rretz (by decide) hF hx hb hr hlocks dX2_isSwapped_35
  · have hF := ite_t c5 hF
    refine lv_iload_n hx hb dX2_isSwapped_15 rfl (lv_at hl 0 rfl) ?_
    refine lv_iload_n hx hb dX2_isSwapped_16 rfl (lv_at hl 2 rfl) ?_
    refine lv_iconst hx hb dX2_isSwapped_17 kc_iconst_1 ?_
    refine lv_iadd hx hb dX2_isSwapped_18 ?_
    obtain ⟨q7, h6, hF⟩ := bd1_at hF
    refine rcall (va_runS (As := [.int x0, .int (x2 + (1 : Int32))]) (rest := []) S (K2_digitAt l D cI cZ cS cJ x0 (x2 + (1 : Int32)) q7 h6) (va_cwS 2 hts (gd_S wd_619 wd_620 wd_24 wd_621) rfl rfl rfl hdn2_digitAt ⟨Nat.le_of_ble_eq_true rfl, Nat.le_of_ble_eq_true rfl⟩) (rPreS hK hP) rfl rfl hl.1 rfl (lv_room (Nat.le_of_ble_eq_true rfl)) dX2_isSwapped_19 ⟨(Nat.zero_le _), (Nat.zero_le _)⟩) ?_
    refine lv_iload_n hx hb dX2_isSwapped_22 rfl (lv_at hl 1 rfl) ?_
    refine lv_iload_n hx hb dX2_isSwapped_23 rfl (lv_at hl 2 rfl) ?_
    obtain ⟨q9, h8, hF⟩ := bd1_at hF
    refine rcall (va_runS (As := [.int x1, .int x2]) (rest := [.int q7]) S (K2_digitAt l D cI cZ cS cJ x1 x2 q9 h8) (va_cwS 2 hts (gd_S wd_619 wd_620 wd_24 wd_621) rfl rfl rfl hdn2_digitAt ⟨Nat.le_of_ble_eq_true rfl, Nat.le_of_ble_eq_true rfl⟩) (rPreS hK hP) rfl rfl hl.1 rfl (lv_room (Nat.le_of_ble_eq_true rfl)) dX2_isSwapped_24 ⟨(Nat.zero_le _), (Nat.zero_le _)⟩) ?_
    refine lv_icmp_ne (tgt := 34) hx hb dX2_isSwapped_27 (by decide) (fun c10 => ?_) (fun c10 => ?_)
    · rw [if_neg c10] at hF
      refine lv_iconst hx hb dX2_isSwapped_34 kc_iconst_0 ?_
      exact rretz (by decide) hF hx hb hr hlocks dX2_isSwapped_35
    · rw [if_pos c10] at hF
      refine lv_iconst hx hb dX2_isSwapped_30 kc_iconst_1 ?_
      refine lv_goto (tgt := 35) hx hb dX2_isSwapped_31 (by decide) ?_
      exact rretz (by decide) hF hx hb hr hlocks dX2_isSwapped_35
abbrev rm2_digitSlip : Room := { frames := 2, cells := 0, slots := 0, locals := 45 }
theorem hdn2_digitSlip : yX2_digitSlip.cls ≠ "java/lang/invoke/MethodHandle" ∧ yX2_digitSlip.cls ≠ "java/lang/invoke/VarHandle" ∧ (parseMethodDescriptor yX2_digitSlip.desc).map (fun d => d.parameters.length) = some 2 := by decide +kernel
set_option maxHeartbeats 4000000 in
set_option maxRecDepth 100000 in
theorem K2_digitSlip (l : Launch) (D : va_G) (cI cZ cS cJ : ClassId) (x0 : Int32) (x1 : Int32) (r : Int32) (hF : f2_digitSlip x0 x1 = some (r)) : Met l yX2_digitSlip wsX2_digitSlip rm2_digitSlip (rP D (gT cI cZ cS cJ) ([] : va_W) [.int x0, .int x1]) (rQ (.int r)) 0 0 (fun _ => False) := by
  refine Met.ofW (cc := cX2_digitSlip) (maxL := 5) (ret := (some .int)) (by decide) rfl ?_
  intro p e s m args below meth c s₁ B hml hv
  obtain ⟨ha, hK, hP⟩ := hv
  have hx := B.exec
  have hb := B.bytes
  have hr := B.returns
  have hlocks := B.notSynchronized
  have hts : ∀ w ∈ lw_all, w.before args s = true := fun w h => atoms_spec (ws := wsX2_digitSlip) B.pre w (List.mem_cons_of_mem _ h)
  have hown : s.vm.findClass RX2 = some m.cls := findClass_of_methodNamed B.named
  have S : CallFix p m c cX2_digitSlip 5 s args lw_all RX2 := ⟨hx, hb, hml, hown, hts⟩
  have hl := lv_entry ([.int x0, .int x1] : List Value) (n := 5) (Nat.le_of_ble_eq_true rfl)
  refine W.eq (g2 := F0 m 0 ((lg_sl ([.int x0, .int x1] : List Value) ++ List.replicate (5 - (lg_sl ([.int x0, .int x1] : List Value)).length) Slot.unset).toArray) []) (by rw [ha]; exact lg_entry_eq _ _ _) ?_
  generalize (lg_sl ([.int x0, .int x1] : List Value) ++ List.replicate (5 - (lg_sl ([.int x0, .int x1] : List Value)).length) Slot.unset).toArray = ls at hl ⊢
  have hl : lv_has ls 5 [(0, .int x0), (1, .int x1)] := hl
  clear ha
  have W_71 : ∀ (s0 : Int32), ∀ (ls : Array Slot), lv_has ls 5 [] → f2_digitSlip_j71 s0 = some (r) → rW p l e wsX2_digitSlip rm2_digitSlip s m args below meth c (.int r) (F0 m 71 ls [.int s0]) := by
    intro s0  ls hl hF
    rw [f2_digitSlip_j71] at hF
    refine lv_istore (lv' := [(4, .int s0)]) hx hb dX2_digitSlip_71 hl (by decide) rfl (fun ls hl => ?_)
    refine lv_iload hx hb dX2_digitSlip_73 (lv_at hl 0 rfl) ?_
    refine lv_if_eq (tgt := 82) hx hb dX2_digitSlip_75 (by decide) (fun c13 => ?_) (fun c13 => ?_)
    · rw [if_pos c13] at hF
      refine lv_iconst hx hb dX2_digitSlip_82 kc_iconst_m1 ?_
      exact rret hF hx hb hr hlocks dX2_digitSlip_83
    · rw [if_neg c13] at hF
      refine lv_iconst hx hb dX2_digitSlip_78 kc_iconst_1 ?_
      refine lv_goto (tgt := 83) hx hb dX2_digitSlip_79 (by decide) ?_
      exact rret hF hx hb hr hlocks dX2_digitSlip_83
  have W_70 : ∀ (ls : Array Slot), lv_has ls 5 [] → f2_digitSlip_j70 = some (r) → rW p l e wsX2_digitSlip rm2_digitSlip s m args below meth c (.int r) (F0 m 70 ls []) := by
    intro   ls hl hF
    rw [f2_digitSlip_j70] at hF
    refine lv_iconst hx hb dX2_digitSlip_70 kc_iconst_0 ?_
    exact W_71 (0 : Int32)  ls (lv_sub hl [] rfl) hF
  have W_7 : ∀ (x0 : Int32) (x1 : Int32) (n : Nat) (x2 : Int32) (x3 : Int32) (x4 : Int32), ∀ (ls : Array Slot), lv_has ls 5 [(0, .int x0), (1, .int x1), (2, .int x2), (3, .int x3), (4, .int x4)] → f2_digitSlip_l7 x0 x1 n x2 x3 x4 = some (r) → rW p l e wsX2_digitSlip rm2_digitSlip s m args below meth c (.int r) (F0 m 7 ls []) := by
    intro x0 x1  n
    induction n with
    | zero =>
      intro x2 x3 x4 ls hl hF
      rw [f2_digitSlip_l7] at hF
      cases hF
    | succ n ih =>
      intro x2 x3 x4 ls hl hF
      rw [f2_digitSlip_l7] at hF
      refine lv_iload hx hb dX2_digitSlip_7 (lv_at hl 4 rfl) ?_
      refine lv_bipush hx hb dX2_digitSlip_9 kc_bipush_6 ?_
      refine lv_icmp_ge (tgt := 45) hx hb dX2_digitSlip_11 (by decide) (fun c1 => ?_) (fun c1 => ?_)
      · have hF := ite_t c1 hF
        refine lv_iload_n hx hb dX2_digitSlip_45 rfl (lv_at hl 2 rfl) ?_
        refine lv_iconst hx hb dX2_digitSlip_46 kc_iconst_1 ?_
        refine lv_icmp_ne (tgt := 52) hx hb dX2_digitSlip_47 (by decide) (fun c2 => ?_) (fun c2 => ?_)
        · have hF := ite_f c2 hF
          refine lv_iload_n hx hb dX2_digitSlip_52 rfl (lv_at hl 2 rfl) ?_
          refine lv_iconst hx hb dX2_digitSlip_53 kc_iconst_2 ?_
          refine lv_icmp_ne (tgt := 70) hx hb dX2_digitSlip_54 (by decide) (fun c3 => ?_) (fun c3 => ?_)
          · have hF := ite_f c3 hF
            exact W_70   ls (lv_sub hl [] rfl) hF
          · have hF := ite_t c3 hF
            refine lv_iload_n hx hb dX2_digitSlip_57 rfl (lv_at hl 0 rfl) ?_
            refine lv_iload_n hx hb dX2_digitSlip_58 rfl (lv_at hl 1 rfl) ?_
            refine lv_iload_n hx hb dX2_digitSlip_59 rfl (lv_at hl 3 rfl) ?_
            obtain ⟨q5, h4, hF⟩ := bd1_at hF
            refine rcall (va_runS (As := [.int x0, .int x1, .int x3]) (rest := []) S (K2_isSwapped l D cI cZ cS cJ x0 x1 x3 q5 h4) (va_cwS 3 hts (gd_S wd_680 wd_681 wd_24 wd_682) rfl rfl rfl hdn2_isSwapped ⟨Nat.le_of_ble_eq_true rfl, Nat.le_of_ble_eq_true rfl⟩) (rPreS hK hP) rfl rfl hl.1 rfl (lv_room (Nat.le_of_ble_eq_true rfl)) dX2_digitSlip_60 ⟨(Nat.zero_le _), (Nat.zero_le _)⟩) ?_
            refine lv_if_eq (tgt := 70) hx hb dX2_digitSlip_63 (by decide) (fun c6 => ?_) (fun c6 => ?_)
            · have hF := ite_t c6 hF
              exact W_70   ls (lv_sub hl [] rfl) hF
            · have hF := ite_f c6 hF
              refine lv_iconst hx hb dX2_digitSlip_66 kc_iconst_1 ?_
              refine lv_goto (tgt := 71) hx hb dX2_digitSlip_67 (by decide) ?_
              exact W_71 (1 : Int32)  ls (lv_sub hl [] rfl) hF
        · have hF := ite_t c2 hF
          refine lv_iconst hx hb dX2_digitSlip_50 kc_iconst_0 ?_
          exact rret hF hx hb hr hlocks dX2_digitSlip_51
      · have hF := ite_f c1 hF
        refine lv_iload_n hx hb dX2_digitSlip_14 rfl (lv_at hl 0 rfl) ?_
        refine lv_iload hx hb dX2_digitSlip_15 (lv_at hl 4 rfl) ?_
        obtain ⟨q8, h7, hF⟩ := bd1_at hF
        refine rcall (va_runS (As := [.int x0, .int x4]) (rest := []) S (K2_digitAt l D cI cZ cS cJ x0 x4 q8 h7) (va_cwS 2 hts (gd_S wd_619 wd_620 wd_24 wd_621) rfl rfl rfl hdn2_digitAt ⟨Nat.le_of_ble_eq_true rfl, Nat.le_of_ble_eq_true rfl⟩) (rPreS hK hP) rfl rfl hl.1 rfl (lv_room (Nat.le_of_ble_eq_true rfl)) dX2_digitSlip_17 ⟨(Nat.zero_le _), (Nat.zero_le _)⟩) ?_
        refine lv_iload_n hx hb dX2_digitSlip_20 rfl (lv_at hl 1 rfl) ?_
        refine lv_iload hx hb dX2_digitSlip_21 (lv_at hl 4 rfl) ?_
        obtain ⟨q10, h9, hF⟩ := bd1_at hF
        refine rcall (va_runS (As := [.int x1, .int x4]) (rest := [.int q8]) S (K2_digitAt l D cI cZ cS cJ x1 x4 q10 h9) (va_cwS 2 hts (gd_S wd_619 wd_620 wd_24 wd_621) rfl rfl rfl hdn2_digitAt ⟨Nat.le_of_ble_eq_true rfl, Nat.le_of_ble_eq_true rfl⟩) (rPreS hK hP) rfl rfl hl.1 rfl (lv_room (Nat.le_of_ble_eq_true rfl)) dX2_digitSlip_23 ⟨(Nat.zero_le _), (Nat.zero_le _)⟩) ?_
        refine lv_icmp_eq (tgt := 39) hx hb dX2_digitSlip_26 (by decide) (fun c11 => ?_) (fun c11 => ?_)
        · rw [if_pos c11] at hF; try rw [if_pos c11] at hF
          refine lv_iinc (v := (x4 + 1)) (lv' := [(4, .int (x4 + 1)), (0, .int x0), (1, .int x1), (2, .int x2), (3, .int x3)]) hx hb dX2_digitSlip_39 hl (k := 4) rfl rfl (by decide) rfl (fun ls hl => ?_)
          refine lv_goto (tgt := 7) hx hb dX2_digitSlip_42 (by decide) ?_
          exact ih x2 x3 (x4 + 1) ls (lv_sub hl [1, 2, 3, 4, 0] rfl) hF
        · rw [if_neg c11] at hF; try rw [if_neg c11] at hF
          refine lv_iload_n hx hb dX2_digitSlip_29 rfl (lv_at hl 2 rfl) ?_
          refine lv_if_ne (tgt := 36) hx hb dX2_digitSlip_30 (by decide) (fun c12 => ?_) (fun c12 => ?_)
          · rw [if_neg c12] at hF
            refine lv_iinc (v := (x2 + 1)) (lv' := [(2, .int (x2 + 1)), (0, .int x0), (1, .int x1), (3, .int x3), (4, .int x4)]) hx hb dX2_digitSlip_36 hl (k := 2) rfl rfl (by decide) rfl (fun ls hl => ?_)
            refine lv_iinc (v := (x4 + 1)) (lv' := [(4, .int (x4 + 1)), (2, .int (x2 + 1)), (0, .int x0), (1, .int x1), (3, .int x3)]) hx hb dX2_digitSlip_39 hl (k := 4) rfl rfl (by decide) rfl (fun ls hl => ?_)
            refine lv_goto (tgt := 7) hx hb dX2_digitSlip_42 (by decide) ?_
            exact ih (x2 + 1) x3 (x4 + 1) ls (lv_sub hl [2, 3, 1, 4, 0] rfl) hF
          · rw [if_pos c12] at hF
            refine lv_iload hx hb dX2_digitSlip_33 (lv_at hl 4 rfl) ?_
            refine lv_istore_n (lv' := [(3, .int x4), (0, .int x0), (1, .int x1), (2, .int x2), (4, .int x4)]) hx hb dX2_digitSlip_35 rfl hl (by decide) rfl (fun ls hl => ?_)
            refine lv_iinc (v := (x2 + 1)) (lv' := [(2, .int (x2 + 1)), (3, .int x4), (0, .int x0), (1, .int x1), (4, .int x4)]) hx hb dX2_digitSlip_36 hl (k := 3) rfl rfl (by decide) rfl (fun ls hl => ?_)
            refine lv_iinc (v := (x4 + 1)) (lv' := [(4, .int (x4 + 1)), (2, .int (x2 + 1)), (3, .int x4), (0, .int x0), (1, .int x1)]) hx hb dX2_digitSlip_39 hl (k := 4) rfl rfl (by decide) rfl (fun ls hl => ?_)
            refine lv_goto (tgt := 7) hx hb dX2_digitSlip_42 (by decide) ?_
            exact ih (x2 + 1) x4 (x4 + 1) ls (lv_sub hl [3, 4, 1, 2, 0] rfl) hF
  rw [f2_digitSlip] at hF
  show rW p l e wsX2_digitSlip rm2_digitSlip s m args below meth c (.int r) (F0 m 0 ls [])
  refine lv_iconst hx hb dX2_digitSlip_0 kc_iconst_0 ?_
  refine lv_istore_n (lv' := [(2, .int (0 : Int32)), (0, .int x0), (1, .int x1)]) hx hb dX2_digitSlip_1 rfl hl (by decide) rfl (fun ls hl => ?_)
  refine lv_iconst hx hb dX2_digitSlip_2 kc_iconst_0 ?_
  refine lv_istore_n (lv' := [(3, .int (0 : Int32)), (2, .int (0 : Int32)), (0, .int x0), (1, .int x1)]) hx hb dX2_digitSlip_3 rfl hl (by decide) rfl (fun ls hl => ?_)
  refine lv_iconst hx hb dX2_digitSlip_4 kc_iconst_0 ?_
  refine lv_istore (lv' := [(4, .int (0 : Int32)), (3, .int (0 : Int32)), (2, .int (0 : Int32)), (0, .int x0), (1, .int x1)]) hx hb dX2_digitSlip_5 hl (by decide) rfl (fun ls hl => ?_)
  exact W_7 x0 x1  fu (0 : Int32) (0 : Int32) (0 : Int32) ls (lv_sub hl [3, 4, 2, 1, 0] rfl) hF
abbrev rm2_hiddenMisreadings : Room := { frames := 2, cells := 0, slots := 0, locals := 44 }
theorem hd2_hiddenMisreadings : yX2_hiddenMisreadings.cls = RX2 ∧ yX2_hiddenMisreadings.cls ≠ "java/lang/invoke/MethodHandle" ∧ yX2_hiddenMisreadings.cls ≠ "java/lang/invoke/VarHandle" ∧ (parseMethodDescriptor yX2_hiddenMisreadings.desc).map (fun d => d.parameters.length) = some 1 := by decide +kernel
set_option maxHeartbeats 4000000 in
set_option maxRecDepth 100000 in
theorem K2_hiddenMisreadings (l : Launch) (D : va_G) (cI cZ cS cJ : ClassId) (aL aW : Nat) (wm : Int32) (wW : Nat → Int32) (x1 : Int32) (r : Int32) (hF : f2_hiddenMisreadings wm wW x1 = some (r)) : Met l yX2_hiddenMisreadings wsX2_hiddenMisreadings rm2_hiddenMisreadings (rP D (gT cI cZ cS cJ) (W2 cI aL aW wm wW) [.ref aL, .int x1]) (rQ (.int r)) 0 0 (fun _ => False) := by
  refine Met.ofW (cc := cX2_hiddenMisreadings) (maxL := 7) (ret := (some .int)) (by decide) rfl ?_
  intro p e s m args below meth c s₁ B hml hv
  obtain ⟨ha, hK, hP⟩ := hv
  have hx := B.exec
  have hb := B.bytes
  have hr := B.returns
  have hlocks := B.notSynchronized
  have hts : ∀ w ∈ lw_all, w.before args s = true := fun w h => atoms_spec (ws := wsX2_hiddenMisreadings) B.pre w (List.mem_cons_of_mem _ h)
  have hown : s.vm.findClass RX2 = some m.cls := findClass_of_methodNamed B.named
  have S : CallFix p m c cX2_hiddenMisreadings 7 s args lw_all RX2 := ⟨hx, hb, hml, hown, hts⟩
  have hl := lv_entry ([.ref aL, .int x1] : List Value) (n := 7) (Nat.le_of_ble_eq_true rfl)
  refine W.eq (g2 := F0 m 0 ((lg_sl ([.ref aL, .int x1] : List Value) ++ List.replicate (7 - (lg_sl ([.ref aL, .int x1] : List Value)).length) Slot.unset).toArray) []) (by rw [ha]; exact lg_entry_eq _ _ _) ?_
  generalize (lg_sl ([.ref aL, .int x1] : List Value) ++ List.replicate (7 - (lg_sl ([.ref aL, .int x1] : List Value)).length) Slot.unset).toArray = ls at hl ⊢
  have hl : lv_has ls 7 [(0, .ref aL), (1, .int x1)] := hl
  clear ha
  have W_28 : ∀ (x1 : Int32) (x3 : Int32) (x4 : Int32) (x5 : Int32) (k4 : Int32 → Int32 → Option (Int32)) (hk4 : ∀ (x2 : Int32) (x3 : Int32), ∀ (ls : Array Slot), lv_has ls 7 [(0, .ref aL), (1, .int x1), (2, .int x2), (3, .int x3)] → k4 x2 x3 = some (r) → rW p l e wsX2_hiddenMisreadings rm2_hiddenMisreadings s m args below meth c (.int r) (F0 m 4 ls [])) (n : Nat) (x2 : Int32) (x6 : Int32), ∀ (ls : Array Slot), lv_has ls 7 [(0, .ref aL), (1, .int x1), (2, .int x2), (3, .int x3), (4, .int x4), (5, .int x5), (6, .int x6)] → f2_hiddenMisreadings_l28 k4 wm wW x1 x3 x4 x5 n x2 x6 = some (r) → rW p l e wsX2_hiddenMisreadings rm2_hiddenMisreadings s m args below meth c (.int r) (F0 m 28 ls []) := by
    intro x1 x3 x4 x5 k4 hk4 n
    induction n with
    | zero =>
      intro x2 x6 ls hl hF
      rw [f2_hiddenMisreadings_l28] at hF
      cases hF
    | succ n ih =>
      intro x2 x6 ls hl hF
      rw [f2_hiddenMisreadings_l28] at hF
      refine lv_iload hx hb dX2_hiddenMisreadings_28 (lv_at hl 6 rfl) ?_
      refine lv_bipush hx hb dX2_hiddenMisreadings_30 kc_bipush_9 ?_
      refine lv_icmp_gt (tgt := 65) hx hb dX2_hiddenMisreadings_32 (by decide) (fun c6 => ?_) (fun c6 => ?_)
      · have hF := ite_t c6 hF
        refine lv_iinc (v := (x3 + 1)) (lv' := [(3, .int (x3 + 1)), (0, .ref aL), (1, .int x1), (2, .int x2), (4, .int x4), (5, .int x5), (6, .int x6)]) hx hb dX2_hiddenMisreadings_65 hl (k := 3) rfl rfl (by decide) rfl (fun ls hl => ?_)
        refine lv_goto (tgt := 4) hx hb dX2_hiddenMisreadings_68 (by decide) ?_
        exact hk4 x2 (x3 + 1) ls (lv_sub hl [1, 2, 3, 0] rfl) hF
      · have hF := ite_f c6 hF
        refine lv_iload hx hb dX2_hiddenMisreadings_35 (lv_at hl 6 rfl) ?_
        refine lv_iload hx hb dX2_hiddenMisreadings_37 (lv_at hl 4 rfl) ?_
        refine lv_icmp_eq (tgt := 59) hx hb dX2_hiddenMisreadings_39 (by decide) (fun c7 => ?_) (fun c7 => ?_)
        · have hF := ite_t c7 hF
          refine lv_iinc (v := (x6 + 1)) (lv' := [(6, .int (x6 + 1)), (0, .ref aL), (1, .int x1), (2, .int x2), (3, .int x3), (4, .int x4), (5, .int x5)]) hx hb dX2_hiddenMisreadings_59 hl (k := 6) rfl rfl (by decide) rfl (fun ls hl => ?_)
          refine lv_goto (tgt := 28) hx hb dX2_hiddenMisreadings_62 (by decide) ?_
          exact ih x2 (x6 + 1) ls (lv_sub hl [1, 2, 3, 4, 5, 6, 0] rfl) hF
        · have hF := ite_f c7 hF
          refine lv_aload_n hx hb dX2_hiddenMisreadings_42 rfl (lv_at hl 0 rfl) ?_
          refine lv_iload hx hb dX2_hiddenMisreadings_43 (lv_at hl 5 rfl) ?_
          refine lv_iload hx hb dX2_hiddenMisreadings_45 (lv_at hl 6 rfl) ?_
          refine lv_iload hx hb dX2_hiddenMisreadings_47 (lv_at hl 4 rfl) ?_
          refine lv_isub hx hb dX2_hiddenMisreadings_49 ?_
          obtain ⟨q9, h8, hF⟩ := bd1_at hF
          refine rcall (va_runV (As := [.int x5, .int (x6 - x4)]) (rest := []) S (K2_isHidden l D cI cZ cS cJ aL aW wm wW x5 (x6 - x4) q9 h8) (cwV 2 hts (gd_V wd_626 wd_628 wd_20 wd_24 wd_629) rfl rfl rfl hd2_isHidden ⟨Nat.le_of_ble_eq_true rfl, Nat.le_of_ble_eq_true rfl⟩) (rPreV hK hP (ci := 2) (q := (RX2, TX2, 2)) rfl rfl) rfl rfl hl.1 rfl (lv_room (Nat.le_of_ble_eq_true rfl)) dX2_hiddenMisreadings_50 ⟨(Nat.zero_le _), (Nat.zero_le _)⟩) ?_
          refine lv_if_eq (tgt := 59) hx hb dX2_hiddenMisreadings_53 (by decide) (fun c10 => ?_) (fun c10 => ?_)
          · rw [if_pos c10] at hF
            refine lv_iinc (v := (x6 + 1)) (lv' := [(6, .int (x6 + 1)), (0, .ref aL), (1, .int x1), (2, .int x2), (3, .int x3), (4, .int x4), (5, .int x5)]) hx hb dX2_hiddenMisreadings_59 hl (k := 6) rfl rfl (by decide) rfl (fun ls hl => ?_)
            refine lv_goto (tgt := 28) hx hb dX2_hiddenMisreadings_62 (by decide) ?_
            exact ih x2 (x6 + 1) ls (lv_sub hl [1, 2, 3, 4, 5, 6, 0] rfl) hF
          · rw [if_neg c10] at hF
            refine lv_iinc (v := (x2 + 1)) (lv' := [(2, .int (x2 + 1)), (0, .ref aL), (1, .int x1), (3, .int x3), (4, .int x4), (5, .int x5), (6, .int x6)]) hx hb dX2_hiddenMisreadings_56 hl (k := 2) rfl rfl (by decide) rfl (fun ls hl => ?_)
            refine lv_iinc (v := (x6 + 1)) (lv' := [(6, .int (x6 + 1)), (2, .int (x2 + 1)), (0, .ref aL), (1, .int x1), (3, .int x3), (4, .int x4), (5, .int x5)]) hx hb dX2_hiddenMisreadings_59 hl (k := 6) rfl rfl (by decide) rfl (fun ls hl => ?_)
            refine lv_goto (tgt := 28) hx hb dX2_hiddenMisreadings_62 (by decide) ?_
            exact ih (x2 + 1) (x6 + 1) ls (lv_sub hl [2, 3, 1, 4, 5, 6, 0] rfl) hF
  have W_4 : ∀ (x1 : Int32) (n : Nat) (x2 : Int32) (x3 : Int32), ∀ (ls : Array Slot), lv_has ls 7 [(0, .ref aL), (1, .int x1), (2, .int x2), (3, .int x3)] → f2_hiddenMisreadings_l4 wm wW x1 n x2 x3 = some (r) → rW p l e wsX2_hiddenMisreadings rm2_hiddenMisreadings s m args below meth c (.int r) (F0 m 4 ls []) := by
    intro x1  n
    induction n with
    | zero =>
      intro x2 x3 ls hl hF
      rw [f2_hiddenMisreadings_l4] at hF
      cases hF
    | succ n ih =>
      intro x2 x3 ls hl hF
      rw [f2_hiddenMisreadings_l4] at hF
      refine lv_iload_n hx hb dX2_hiddenMisreadings_4 rfl (lv_at hl 3 rfl) ?_
      refine lv_bipush hx hb dX2_hiddenMisreadings_5 kc_bipush_6 ?_
      refine lv_icmp_ge (tgt := 71) hx hb dX2_hiddenMisreadings_7 (by decide) (fun c1 => ?_) (fun c1 => ?_)
      · have hF := ite_t c1 hF
        refine lv_iload_n hx hb dX2_hiddenMisreadings_71 rfl (lv_at hl 2 rfl) ?_
        exact rret hF hx hb hr hlocks dX2_hiddenMisreadings_72
      · have hF := ite_f c1 hF
        refine lv_iload_n hx hb dX2_hiddenMisreadings_10 rfl (lv_at hl 1 rfl) ?_
        refine lv_iload_n hx hb dX2_hiddenMisreadings_11 rfl (lv_at hl 3 rfl) ?_
        obtain ⟨q3, h2, hF⟩ := bd1_at hF
        refine rcall (va_runS (As := [.int x1, .int x3]) (rest := []) S (K2_digitAt l D cI cZ cS cJ x1 x3 q3 h2) (va_cwS 2 hts (gd_S wd_619 wd_620 wd_24 wd_621) rfl rfl rfl hdn2_digitAt ⟨Nat.le_of_ble_eq_true rfl, Nat.le_of_ble_eq_true rfl⟩) (rPreS hK (hP.sub (ws' := ([] : va_W)) [] rfl)) rfl rfl hl.1 rfl (lv_room (Nat.le_of_ble_eq_true rfl)) dX2_hiddenMisreadings_12 ⟨(Nat.zero_le _), (Nat.zero_le _)⟩) ?_
        refine lv_istore (lv' := [(4, .int q3), (0, .ref aL), (1, .int x1), (2, .int x2), (3, .int x3)]) hx hb dX2_hiddenMisreadings_15 hl (by decide) rfl (fun ls hl => ?_)
        refine lv_aload_n hx hb dX2_hiddenMisreadings_17 rfl (lv_at hl 1 rfl) ?_
        refine lv_iload_n hx hb dX2_hiddenMisreadings_18 rfl (lv_at hl 4 rfl) ?_
        refine lv_iconst hx hb dX2_hiddenMisreadings_19 kc_iconst_0 ?_
        obtain ⟨q5, h4, hF⟩ := bd1_at hF
        refine rcall (va_runV (As := [.int x3, .int (0 : Int32)]) (rest := []) S (K2_factorAt l D cI cZ cS cJ aL aW wm wW x3 (0 : Int32) q5 h4) (cwV 2 hts (gd_V wd_622 wd_623 wd_624 wd_24 wd_625) rfl rfl rfl hd2_factorAt ⟨Nat.le_of_ble_eq_true rfl, Nat.le_of_ble_eq_true rfl⟩) (rPreV hK hP (ci := 2) (q := (RX2, TX2, 2)) rfl rfl) rfl rfl hl.1 rfl (lv_room (Nat.le_of_ble_eq_true rfl)) dX2_hiddenMisreadings_20 ⟨(Nat.zero_le _), (Nat.zero_le _)⟩) ?_
        refine lv_istore (lv' := [(5, .int q5), (4, .int q3), (0, .ref aL), (1, .int x1), (2, .int x2), (3, .int x3)]) hx hb dX2_hiddenMisreadings_23 hl (by decide) rfl (fun ls hl => ?_)
        refine lv_iconst hx hb dX2_hiddenMisreadings_25 kc_iconst_0 ?_
        refine lv_istore (lv' := [(6, .int (0 : Int32)), (5, .int q5), (4, .int q3), (0, .ref aL), (1, .int x1), (2, .int x2), (3, .int x3)]) hx hb dX2_hiddenMisreadings_26 hl (by decide) rfl (fun ls hl => ?_)
        exact W_28 x1 x3 q3 q5 (f2_hiddenMisreadings_l4 wm wW x1 n) ih fu x2 (0 : Int32) ls (lv_sub hl [3, 4, 5, 6, 2, 1, 0] rfl) hF
  rw [f2_hiddenMisreadings] at hF
  show rW p l e wsX2_hiddenMisreadings rm2_hiddenMisreadings s m args below meth c (.int r) (F0 m 0 ls [])
  refine lv_iconst hx hb dX2_hiddenMisreadings_0 kc_iconst_0 ?_
  refine lv_istore_n (lv' := [(2, .int (0 : Int32)), (0, .ref aL), (1, .int x1)]) hx hb dX2_hiddenMisreadings_1 rfl hl (by decide) rfl (fun ls hl => ?_)
  refine lv_iconst hx hb dX2_hiddenMisreadings_2 kc_iconst_0 ?_
  refine lv_istore_n (lv' := [(3, .int (0 : Int32)), (2, .int (0 : Int32)), (0, .ref aL), (1, .int x1)]) hx hb dX2_hiddenMisreadings_3 rfl hl (by decide) rfl (fun ls hl => ?_)
  exact W_4 x1  fu (0 : Int32) (0 : Int32) ls (lv_sub hl [2, 3, 1, 0] rfl) hF
abbrev rm2_hiddenSwaps : Room := { frames := 2, cells := 0, slots := 0, locals := 44 }
theorem hd2_hiddenSwaps : yX2_hiddenSwaps.cls = RX2 ∧ yX2_hiddenSwaps.cls ≠ "java/lang/invoke/MethodHandle" ∧ yX2_hiddenSwaps.cls ≠ "java/lang/invoke/VarHandle" ∧ (parseMethodDescriptor yX2_hiddenSwaps.desc).map (fun d => d.parameters.length) = some 1 := by decide +kernel
set_option maxHeartbeats 4000000 in
set_option maxRecDepth 100000 in
theorem K2_hiddenSwaps (l : Launch) (D : va_G) (cI cZ cS cJ : ClassId) (aL aW : Nat) (wm : Int32) (wW : Nat → Int32) (x1 : Int32) (r : Int32) (hF : f2_hiddenSwaps wm wW x1 = some (r)) : Met l yX2_hiddenSwaps wsX2_hiddenSwaps rm2_hiddenSwaps (rP D (gT cI cZ cS cJ) (W2 cI aL aW wm wW) [.ref aL, .int x1]) (rQ (.int r)) 0 0 (fun _ => False) := by
  refine Met.ofW (cc := cX2_hiddenSwaps) (maxL := 6) (ret := (some .int)) (by decide) rfl ?_
  intro p e s m args below meth c s₁ B hml hv
  obtain ⟨ha, hK, hP⟩ := hv
  have hx := B.exec
  have hb := B.bytes
  have hr := B.returns
  have hlocks := B.notSynchronized
  have hts : ∀ w ∈ lw_all, w.before args s = true := fun w h => atoms_spec (ws := wsX2_hiddenSwaps) B.pre w (List.mem_cons_of_mem _ h)
  have hown : s.vm.findClass RX2 = some m.cls := findClass_of_methodNamed B.named
  have S : CallFix p m c cX2_hiddenSwaps 6 s args lw_all RX2 := ⟨hx, hb, hml, hown, hts⟩
  have hl := lv_entry ([.ref aL, .int x1] : List Value) (n := 6) (Nat.le_of_ble_eq_true rfl)
  refine W.eq (g2 := F0 m 0 ((lg_sl ([.ref aL, .int x1] : List Value) ++ List.replicate (6 - (lg_sl ([.ref aL, .int x1] : List Value)).length) Slot.unset).toArray) []) (by rw [ha]; exact lg_entry_eq _ _ _) ?_
  generalize (lg_sl ([.ref aL, .int x1] : List Value) ++ List.replicate (6 - (lg_sl ([.ref aL, .int x1] : List Value)).length) Slot.unset).toArray = ls at hl ⊢
  have hl : lv_has ls 6 [(0, .ref aL), (1, .int x1)] := hl
  clear ha
  have W_4 : ∀ (x1 : Int32) (n : Nat) (x2 : Int32) (x3 : Int32), ∀ (ls : Array Slot), lv_has ls 6 [(0, .ref aL), (1, .int x1), (2, .int x2), (3, .int x3)] → f2_hiddenSwaps_l4 wm wW x1 n x2 x3 = some (r) → rW p l e wsX2_hiddenSwaps rm2_hiddenSwaps s m args below meth c (.int r) (F0 m 4 ls []) := by
    intro x1  n
    induction n with
    | zero =>
      intro x2 x3 ls hl hF
      rw [f2_hiddenSwaps_l4] at hF
      cases hF
    | succ n ih =>
      intro x2 x3 ls hl hF
      rw [f2_hiddenSwaps_l4] at hF
      refine lv_iload_n hx hb dX2_hiddenSwaps_4 rfl (lv_at hl 3 rfl) ?_
      refine lv_iconst hx hb dX2_hiddenSwaps_5 kc_iconst_1 ?_
      refine lv_iadd hx hb dX2_hiddenSwaps_6 ?_
      refine lv_bipush hx hb dX2_hiddenSwaps_7 kc_bipush_6 ?_
      refine lv_icmp_ge (tgt := 60) hx hb dX2_hiddenSwaps_9 (by decide) (fun c1 => ?_) (fun c1 => ?_)
      · have hF := ite_t c1 hF
        refine lv_iload_n hx hb dX2_hiddenSwaps_60 rfl (lv_at hl 2 rfl) ?_
        exact rret hF hx hb hr hlocks dX2_hiddenSwaps_61
      · have hF := ite_f c1 hF
        refine lv_iload_n hx hb dX2_hiddenSwaps_12 rfl (lv_at hl 1 rfl) ?_
        refine lv_iload_n hx hb dX2_hiddenSwaps_13 rfl (lv_at hl 3 rfl) ?_
        refine lv_iconst hx hb dX2_hiddenSwaps_14 kc_iconst_1 ?_
        refine lv_iadd hx hb dX2_hiddenSwaps_15 ?_
        obtain ⟨q3, h2, hF⟩ := bd1_at hF
        refine rcall (va_runS (As := [.int x1, .int (x3 + (1 : Int32))]) (rest := []) S (K2_digitAt l D cI cZ cS cJ x1 (x3 + (1 : Int32)) q3 h2) (va_cwS 2 hts (gd_S wd_619 wd_620 wd_24 wd_621) rfl rfl rfl hdn2_digitAt ⟨Nat.le_of_ble_eq_true rfl, Nat.le_of_ble_eq_true rfl⟩) (rPreS hK (hP.sub (ws' := ([] : va_W)) [] rfl)) rfl rfl hl.1 rfl (lv_room (Nat.le_of_ble_eq_true rfl)) dX2_hiddenSwaps_16 ⟨(Nat.zero_le _), (Nat.zero_le _)⟩) ?_
        refine lv_iload_n hx hb dX2_hiddenSwaps_19 rfl (lv_at hl 1 rfl) ?_
        refine lv_iload_n hx hb dX2_hiddenSwaps_20 rfl (lv_at hl 3 rfl) ?_
        obtain ⟨q5, h4, hF⟩ := bd1_at hF
        refine rcall (va_runS (As := [.int x1, .int x3]) (rest := [.int q3]) S (K2_digitAt l D cI cZ cS cJ x1 x3 q5 h4) (va_cwS 2 hts (gd_S wd_619 wd_620 wd_24 wd_621) rfl rfl rfl hdn2_digitAt ⟨Nat.le_of_ble_eq_true rfl, Nat.le_of_ble_eq_true rfl⟩) (rPreS hK (hP.sub (ws' := ([] : va_W)) [] rfl)) rfl rfl hl.1 rfl (lv_room (Nat.le_of_ble_eq_true rfl)) dX2_hiddenSwaps_21 ⟨(Nat.zero_le _), (Nat.zero_le _)⟩) ?_
        refine lv_isub hx hb dX2_hiddenSwaps_24 ?_
        refine lv_istore (lv' := [(4, .int (q3 - q5)), (0, .ref aL), (1, .int x1), (2, .int x2), (3, .int x3)]) hx hb dX2_hiddenSwaps_25 hl (by decide) rfl (fun ls hl => ?_)
        refine lv_aload_n hx hb dX2_hiddenSwaps_27 rfl (lv_at hl 1 rfl) ?_
        refine lv_iload_n hx hb dX2_hiddenSwaps_28 rfl (lv_at hl 4 rfl) ?_
        refine lv_iconst hx hb dX2_hiddenSwaps_29 kc_iconst_1 ?_
        obtain ⟨q7, h6, hF⟩ := bd1_at hF
        refine rcall (va_runV (As := [.int x3, .int (1 : Int32)]) (rest := []) S (K2_factorAt l D cI cZ cS cJ aL aW wm wW x3 (1 : Int32) q7 h6) (cwV 2 hts (gd_V wd_622 wd_623 wd_624 wd_24 wd_625) rfl rfl rfl hd2_factorAt ⟨Nat.le_of_ble_eq_true rfl, Nat.le_of_ble_eq_true rfl⟩) (rPreV hK hP (ci := 2) (q := (RX2, TX2, 2)) rfl rfl) rfl rfl hl.1 rfl (lv_room (Nat.le_of_ble_eq_true rfl)) dX2_hiddenSwaps_30 ⟨(Nat.zero_le _), (Nat.zero_le _)⟩) ?_
        refine lv_istore (lv' := [(5, .int q7), (4, .int (q3 - q5)), (0, .ref aL), (1, .int x1), (2, .int x2), (3, .int x3)]) hx hb dX2_hiddenSwaps_33 hl (by decide) rfl (fun ls hl => ?_)
        refine lv_iload hx hb dX2_hiddenSwaps_35 (lv_at hl 1 rfl) ?_
        refine lv_if_eq (tgt := 54) hx hb dX2_hiddenSwaps_37 (by decide) (fun c8 => ?_) (fun c8 => ?_)
        · have hF := ite_t c8 hF
          refine lv_iinc (v := (x3 + 1)) (lv' := [(3, .int (x3 + 1)), (5, .int q7), (4, .int (q3 - q5)), (0, .ref aL), (1, .int x1), (2, .int x2)]) hx hb dX2_hiddenSwaps_54 hl (k := 5) rfl rfl (by decide) rfl (fun ls hl => ?_)
          refine lv_goto (tgt := 4) hx hb dX2_hiddenSwaps_57 (by decide) ?_
          exact ih x2 (x3 + 1) ls (lv_sub hl [3, 4, 5, 0] rfl) hF
        · have hF := ite_f c8 hF
          refine lv_aload_n hx hb dX2_hiddenSwaps_40 rfl (lv_at hl 2 rfl) ?_
          refine lv_iload hx hb dX2_hiddenSwaps_41 (lv_at hl 0 rfl) ?_
          refine lv_iload hx hb dX2_hiddenSwaps_43 (lv_at hl 1 rfl) ?_
          obtain ⟨q10, h9, hF⟩ := bd1_at hF
          refine rcall (va_runV (As := [.int q7, .int (q3 - q5)]) (rest := []) S (K2_isHidden l D cI cZ cS cJ aL aW wm wW q7 (q3 - q5) q10 h9) (cwV 2 hts (gd_V wd_626 wd_628 wd_20 wd_24 wd_629) rfl rfl rfl hd2_isHidden ⟨Nat.le_of_ble_eq_true rfl, Nat.le_of_ble_eq_true rfl⟩) (rPreV hK hP (ci := 2) (q := (RX2, TX2, 2)) rfl rfl) rfl rfl hl.1 rfl (lv_room (Nat.le_of_ble_eq_true rfl)) dX2_hiddenSwaps_45 ⟨(Nat.zero_le _), (Nat.zero_le _)⟩) ?_
          refine lv_if_eq (tgt := 54) hx hb dX2_hiddenSwaps_48 (by decide) (fun c11 => ?_) (fun c11 => ?_)
          · rw [if_pos c11] at hF
            refine lv_iinc (v := (x3 + 1)) (lv' := [(3, .int (x3 + 1)), (5, .int q7), (4, .int (q3 - q5)), (0, .ref aL), (1, .int x1), (2, .int x2)]) hx hb dX2_hiddenSwaps_54 hl (k := 5) rfl rfl (by decide) rfl (fun ls hl => ?_)
            refine lv_goto (tgt := 4) hx hb dX2_hiddenSwaps_57 (by decide) ?_
            exact ih x2 (x3 + 1) ls (lv_sub hl [3, 4, 5, 0] rfl) hF
          · rw [if_neg c11] at hF
            refine lv_iinc (v := (x2 + 1)) (lv' := [(2, .int (x2 + 1)), (5, .int q7), (4, .int (q3 - q5)), (0, .ref aL), (1, .int x1), (3, .int x3)]) hx hb dX2_hiddenSwaps_51 hl (k := 4) rfl rfl (by decide) rfl (fun ls hl => ?_)
            refine lv_iinc (v := (x3 + 1)) (lv' := [(3, .int (x3 + 1)), (2, .int (x2 + 1)), (5, .int q7), (4, .int (q3 - q5)), (0, .ref aL), (1, .int x1)]) hx hb dX2_hiddenSwaps_54 hl (k := 5) rfl rfl (by decide) rfl (fun ls hl => ?_)
            refine lv_goto (tgt := 4) hx hb dX2_hiddenSwaps_57 (by decide) ?_
            exact ih (x2 + 1) (x3 + 1) ls (lv_sub hl [4, 5, 1, 0] rfl) hF
  rw [f2_hiddenSwaps] at hF
  show rW p l e wsX2_hiddenSwaps rm2_hiddenSwaps s m args below meth c (.int r) (F0 m 0 ls [])
  refine lv_iconst hx hb dX2_hiddenSwaps_0 kc_iconst_0 ?_
  refine lv_istore_n (lv' := [(2, .int (0 : Int32)), (0, .ref aL), (1, .int x1)]) hx hb dX2_hiddenSwaps_1 rfl hl (by decide) rfl (fun ls hl => ?_)
  refine lv_iconst hx hb dX2_hiddenSwaps_2 kc_iconst_0 ?_
  refine lv_istore_n (lv' := [(3, .int (0 : Int32)), (2, .int (0 : Int32)), (0, .ref aL), (1, .int x1)]) hx hb dX2_hiddenSwaps_3 rfl hl (by decide) rfl (fun ls hl => ?_)
  exact W_4 x1  fu (0 : Int32) (0 : Int32) ls (lv_sub hl [2, 3, 1, 0] rfl) hF
abbrev rm2_slipKind : Room := { frames := 3, cells := 0, slots := 0, locals := 69 }
theorem hd2_slipKind : yX2_slipKind.cls = RX2 ∧ yX2_slipKind.cls ≠ "java/lang/invoke/MethodHandle" ∧ yX2_slipKind.cls ≠ "java/lang/invoke/VarHandle" ∧ (parseMethodDescriptor yX2_slipKind.desc).map (fun d => d.parameters.length) = some 3 := by decide +kernel
set_option maxHeartbeats 4000000 in
set_option maxRecDepth 100000 in
theorem K2_slipKind (l : Launch) (D : va_G) (cI cZ cS cJ : ClassId) (aL aW : Nat) (wm : Int32) (wW : Nat → Int32) (x1 : Int32) (x2 : Int32) (x3 : Int32) (r : Int32) (hF : f2_slipKind wm wW x1 x2 x3 = some (r)) : Met l yX2_slipKind wsX2_slipKind rm2_slipKind (rP D (gT cI cZ cS cJ) (W2 cI aL aW wm wW) [.ref aL, .int x1, .int x2, .int x3]) (rQ (.int r)) 0 0 (fun _ => False) := by
  refine Met.ofW (cc := cX2_slipKind) (maxL := 5) (ret := (some .int)) (by decide) rfl ?_
  intro p e s m args below meth c s₁ B hml hv
  obtain ⟨ha, hK, hP⟩ := hv
  have hx := B.exec
  have hb := B.bytes
  have hr := B.returns
  have hlocks := B.notSynchronized
  have hts : ∀ w ∈ lw_all, w.before args s = true := fun w h => atoms_spec (ws := wsX2_slipKind) B.pre w (List.mem_cons_of_mem _ h)
  have hown : s.vm.findClass RX2 = some m.cls := findClass_of_methodNamed B.named
  have S : CallFix p m c cX2_slipKind 5 s args lw_all RX2 := ⟨hx, hb, hml, hown, hts⟩
  have hl := lv_entry ([.ref aL, .int x1, .int x2, .int x3] : List Value) (n := 5) (Nat.le_of_ble_eq_true rfl)
  refine W.eq (g2 := F0 m 0 ((lg_sl ([.ref aL, .int x1, .int x2, .int x3] : List Value) ++ List.replicate (5 - (lg_sl ([.ref aL, .int x1, .int x2, .int x3] : List Value)).length) Slot.unset).toArray) []) (by rw [ha]; exact lg_entry_eq _ _ _) ?_
  generalize (lg_sl ([.ref aL, .int x1, .int x2, .int x3] : List Value) ++ List.replicate (5 - (lg_sl ([.ref aL, .int x1, .int x2, .int x3] : List Value)).length) Slot.unset).toArray = ls at hl ⊢
  have hl : lv_has ls 5 [(0, .ref aL), (1, .int x1), (2, .int x2), (3, .int x3)] := hl
  clear ha
  have W_24 : ∀ (x1 : Int32) (x2 : Int32) (s0 : Int32), ∀ (ls : Array Slot), lv_has ls 5 [(1, .int x1), (2, .int x2)] → f2_slipKind_j24 wm wW x1 x2 s0 = some (r) → rW p l e wsX2_slipKind rm2_slipKind s m args below meth c (.int r) (F0 m 24 ls [.int s0]) := by
    intro x1 x2 s0  ls hl hF
    rw [f2_slipKind_j24] at hF
    refine lv_istore (lv' := [(4, .int s0), (1, .int x1), (2, .int x2)]) hx hb dX2_slipKind_24 hl (by decide) rfl (fun ls hl => ?_)
    refine lv_iload_n hx hb dX2_slipKind_26 rfl (lv_at hl 1 rfl) ?_
    refine lv_iload_n hx hb dX2_slipKind_27 rfl (lv_at hl 2 rfl) ?_
    refine lv_icmp_ne (tgt := 42) hx hb dX2_slipKind_28 (by decide) (fun c5 => ?_) (fun c5 => ?_)
    · have hF := ite_f c5 hF
      refine lv_iload hx hb dX2_slipKind_42 (lv_at hl 0 rfl) ?_
      refine lv_if_eq (tgt := 55) hx hb dX2_slipKind_44 (by decide) (fun c6 => ?_) (fun c6 => ?_)
      · have hF := ite_t c6 hF
        refine lv_iconst hx hb dX2_slipKind_55 kc_iconst_m1 ?_
        exact rret hF hx hb hr hlocks dX2_slipKind_56
      · have hF := ite_f c6 hF
        refine lv_iload_n hx hb dX2_slipKind_47 rfl (lv_at hl 1 rfl) ?_
        refine lv_iload_n hx hb dX2_slipKind_48 rfl (lv_at hl 2 rfl) ?_
        obtain ⟨q8, h7, hF⟩ := bd1_at hF
        refine rcall (va_runS (As := [.int x1, .int x2]) (rest := []) S (K2_digitSlip l D cI cZ cS cJ x1 x2 q8 h7) (va_cwS 2 hts (gd_S wd_677 wd_678 wd_24 wd_679) rfl rfl rfl hdn2_digitSlip ⟨Nat.le_of_ble_eq_true rfl, Nat.le_of_ble_eq_true rfl⟩) (rPreS hK (hP.sub (ws' := ([] : va_W)) [] rfl)) rfl rfl hl.1 rfl (lv_room (Nat.le_of_ble_eq_true rfl)) dX2_slipKind_49 ⟨(Nat.zero_le _), (Nat.zero_le _)⟩) ?_
        refine lv_goto (tgt := 56) hx hb dX2_slipKind_52 (by decide) ?_
        exact rret hF hx hb hr hlocks dX2_slipKind_56
    · have hF := ite_t c5 hF
      refine lv_iload hx hb dX2_slipKind_31 (lv_at hl 0 rfl) ?_
      refine lv_if_eq (tgt := 40) hx hb dX2_slipKind_33 (by decide) (fun c9 => ?_) (fun c9 => ?_)
      · rw [if_pos c9] at hF
        refine lv_iconst hx hb dX2_slipKind_40 kc_iconst_2 ?_
        exact rret hF hx hb hr hlocks dX2_slipKind_41
      · rw [if_neg c9] at hF
        refine lv_iconst hx hb dX2_slipKind_36 kc_iconst_3 ?_
        refine lv_goto (tgt := 41) hx hb dX2_slipKind_37 (by decide) ?_
        exact rret hF hx hb hr hlocks dX2_slipKind_41
  rw [f2_slipKind] at hF
  show rW p l e wsX2_slipKind rm2_slipKind s m args below meth c (.int r) (F0 m 0 ls [])
  refine lv_iload_n hx hb dX2_slipKind_0 rfl (lv_at hl 3 rfl) ?_
  refine lv_aload_n hx hb dX2_slipKind_1 rfl (lv_at hl 0 rfl) ?_
  refine va_get (D := D) (ci := 2) (v := .int wm) (C := RX2) (T := TX2) (N := 2) hx hb hts i_X2 hown hK.1 hP 0 rfl rfl 1 (by decide) (hts _ wd_56) (fun _ h9 => h9) rfl dX2_slipKind_2 ?_
  refine lv_icmp_lt (tgt := 10) hx hb dX2_slipKind_5 (by decide) (fun c1 => ?_) (fun c1 => ?_)
  · have hF := ite_t c1 hF
    refine lv_aload_n hx hb dX2_slipKind_10 rfl (lv_at hl 0 rfl) ?_
    refine lv_iload_n hx hb dX2_slipKind_11 rfl (lv_at hl 1 rfl) ?_
    obtain ⟨q3, h2, hF⟩ := bd1_at hF
    refine rcall (va_runV (As := [.int x1]) (rest := []) S (K2_letterOf l D cI cZ cS cJ aL aW wm wW x1 q3 h2) (cwV 1 hts (gd_V wd_676 wd_332 wd_333 wd_24 wd_334) rfl rfl rfl hd2_letterOf ⟨Nat.le_of_ble_eq_true rfl, Nat.le_of_ble_eq_true rfl⟩) (rPreV hK hP (ci := 2) (q := (RX2, TX2, 2)) rfl rfl) rfl rfl hl.1 rfl (lv_room (Nat.le_of_ble_eq_true rfl)) dX2_slipKind_12 ⟨(Nat.zero_le _), (Nat.zero_le _)⟩) ?_
    refine lv_iload_n hx hb dX2_slipKind_15 rfl (lv_at hl 3 rfl) ?_
    refine lv_icmp_ne (tgt := 23) hx hb dX2_slipKind_16 (by decide) (fun c4 => ?_) (fun c4 => ?_)
    · rw [if_neg c4] at hF
      refine lv_iconst hx hb dX2_slipKind_23 kc_iconst_0 ?_
      exact W_24 x1 x2 (0 : Int32)  ls (lv_sub hl [1, 2] rfl) hF
    · rw [if_pos c4] at hF
      refine lv_iconst hx hb dX2_slipKind_19 kc_iconst_1 ?_
      refine lv_goto (tgt := 24) hx hb dX2_slipKind_20 (by decide) ?_
      exact W_24 x1 x2 (1 : Int32)  ls (lv_sub hl [1, 2] rfl) hF
  · have hF := ite_f c1 hF
    refine lv_iconst hx hb dX2_slipKind_8 kc_iconst_m1 ?_
    exact rret hF hx hb hr hlocks dX2_slipKind_9
abbrev rm2_copyFrom : Room := { frames := 1, cells := 0, slots := 0, locals := 22 }
theorem hd2_copyFrom : yX2_copyFrom.cls = RX2 ∧ yX2_copyFrom.cls ≠ "java/lang/invoke/MethodHandle" ∧ yX2_copyFrom.cls ≠ "java/lang/invoke/VarHandle" ∧ (parseMethodDescriptor yX2_copyFrom.desc).map (fun d => d.parameters.length) = some 1 := by decide +kernel
set_option maxHeartbeats 4000000 in
set_option maxRecDepth 100000 in
theorem K2_copyFrom (l : Launch) (D : va_G) (cI cZ cS cJ : ClassId) (aL aW aLo aWo : Nat) (wm : Int32) (wW : Nat → Int32) (wmo : Int32) (wWo : Nat → Int32) (z_wm : Int32) (z_wW : Nat → Int32) (hF : f2_copyFrom wm wW wmo wWo = some (z_wm, z_wW)) : Met l yX2_copyFrom wsX2_copyFrom rm2_copyFrom (uP D (gT cI cZ cS cJ) (W22 cI aL aW aLo aWo wm wW wmo wWo) [.ref aL, .ref aLo]) (uQ D none (uA (W22 cI aL aW aLo aWo wm wW wmo wWo)) (W22 cI aL aW aLo aWo z_wm z_wW wmo wWo)) 0 0 (uA (W22 cI aL aW aLo aWo wm wW wmo wWo)) := by
  refine Met.ofW (cc := cX2_copyFrom) (maxL := 2) (ret := none) (by decide) rfl ?_
  intro p e s m args below meth c s₁ B hml hv
  obtain ⟨ha, hK, hP, hD0⟩ := hv
  have hx := B.exec
  have hb := B.bytes
  have hr := B.returns
  have hlocks := B.notSynchronized
  have hts : ∀ w ∈ lw_all, w.before args s = true := fun w h => atoms_spec (ws := wsX2_copyFrom) B.pre w (List.mem_cons_of_mem _ h)
  have hown : s.vm.findClass RX2 = some m.cls := findClass_of_methodNamed B.named
  have S : CallFix p m c cX2_copyFrom 2 s args lw_all RX2 := ⟨hx, hb, hml, hown, hts⟩
  have hD := hD0.own
  generalize uA (W22 cI aL aW aLo aWo wm wW wmo wWo) = A0 at hD ⊢
  have hS : va_S A0 s.heap s.heap [] := va_S.rf
  have hl := lv_entry ([.ref aL, .ref aLo] : List Value) (n := 2) (Nat.le_of_ble_eq_true rfl)
  refine W.eq (g2 := F0 m 0 ((lg_sl ([.ref aL, .ref aLo] : List Value) ++ List.replicate (2 - (lg_sl ([.ref aL, .ref aLo] : List Value)).length) Slot.unset).toArray) []) (by rw [ha]; exact lg_entry_eq _ _ _) ?_
  generalize (lg_sl ([.ref aL, .ref aLo] : List Value) ++ List.replicate (2 - (lg_sl ([.ref aL, .ref aLo] : List Value)).length) Slot.unset).toArray = ls at hl ⊢
  have hl : lv_has ls 2 [(0, .ref aL), (1, .ref aLo)] := hl
  rw [f2_copyFrom] at hF
  show uW p l e wsX2_copyFrom rm2_copyFrom s m args below meth c D none A0 (W22 cI aL aW aLo aWo z_wm z_wW wmo wWo) s.heap [] (F0 m 0 ls [])
  refine lv_aload_n hx hb dX2_copyFrom_0 rfl (lv_at hl 1 rfl) ?_
  refine va_get (D := D) (ci := 2) (v := .ref aWo) (C := RX2) (T := TX2) (N := 2) hx hb hts i_X2 hown hK.1 hP 2 rfl rfl 0 (by decide) (hts _ wd_55) (fun _ h9 => h9) rfl dX2_copyFrom_1 ?_
  refine lv_aload_n hx hb dX2_copyFrom_4 rfl (lv_at hl 0 rfl) ?_
  refine va_get (D := D) (ci := 2) (v := .ref aW) (C := RX2) (T := TX2) (N := 2) hx hb hts i_X2 hown hK.1 hP 0 rfl rfl 0 (by decide) (hts _ wd_55) (fun _ h9 => h9) rfl dX2_copyFrom_5 ?_
  obtain ⟨u2, h1, hF⟩ := bd1_at hF
  refine ucallv (ws' := (W22 cI aL aW aLo aWo wm u2 wmo wWo)) (va_runSN (As := [.ref aWo, .ref aW]) (rest := []) S (K5_copyRowE l D cI cZ cS cJ aWo aW 6 6 wWo wW u2 h1) ⟨va_cnB 2 hts (gd_all wd_297) rfl rfl rfl hK.2.1 (hts _ wd_22) hdn5_copyRow ⟨Nat.le_of_ble_eq_true rfl, Nat.le_of_ble_eq_true rfl⟩, (hts _ wd_296), trivial⟩ (uPreS hK (hP.sub (ws' := (WC cI aWo aW 6 6 wWo wW)) [3, 1] rfl) (hD.sub (ws' := (WC cI aWo aW 6 6 wWo wW)) [3, 1] (by decide) rfl)) rfl rfl hl.1 rfl (lv_room (Nat.le_of_ble_eq_true rfl)) dX2_copyFrom_8 ⟨(Nat.zero_le _), (Nat.zero_le _)⟩) hS hP hD [3, 1] rfl rfl rfl rfl (fun H locs hP hD hS => ?_)
  refine lv_aload_n hx hb dX2_copyFrom_11 rfl (lv_at hl 0 rfl) ?_
  refine lv_aload_n hx hb dX2_copyFrom_12 rfl (lv_at hl 1 rfl) ?_
  refine va_get (D := D) (ci := 2) (v := .int wmo) (C := RX2) (T := TX2) (N := 2) hx hb hts i_X2 hown hK.1 hP 2 rfl rfl 1 (by decide) (hts _ wd_56) (fun _ h9 => h9) rfl dX2_copyFrom_13 ?_
  refine va_put (D := D) (ci := 2) (v := .int wmo) (ty := .int) (C := RX2) (T := TX2) (N := 2) hx hb hts i_X2 tyX2 tyX2_ok nmX2 hown hK.1 hP hD hS 0 rfl rfl 1 (by decide) (hts _ wd_56) (fun _ h9 => h9) rfl (by decide +kernel) rfl rfl (Nat.le_of_ble_eq_true rfl) dX2_copyFrom_16 (fun H locs hP hD hS => ?_)
  have hP : va_P D vwCl (W22 cI aL aW aLo aWo wmo u2 wmo wWo) H := hP
  have hD : va_D A0 (W22 cI aL aW aLo aWo wmo u2 wmo wWo) := hD
  cases hF
  exact uretv hx hb hr hlocks hP hS dX2_copyFrom_19
