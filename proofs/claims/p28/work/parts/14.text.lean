abbrev rm3_isDigit : Room := { frames := 0, cells := 0, slots := 0, locals := 0 }
theorem hdn3_isDigit : yX3_isDigit.cls ≠ "java/lang/invoke/MethodHandle" ∧ yX3_isDigit.cls ≠ "java/lang/invoke/VarHandle" ∧ (parseMethodDescriptor yX3_isDigit.desc).map (fun d => d.parameters.length) = some 1 := by decide +kernel
set_option maxHeartbeats 4000000 in
set_option maxRecDepth 100000 in
theorem K3_isDigit (l : Launch) (D : va_G) (cI cZ cS cJ : ClassId) (x0 : Int32) (r : Int32) (hF : f3_isDigit x0 = some (r)) : Met l yX3_isDigit wsX3_isDigit rm3_isDigit (rP D (gT cI cZ cS cJ) ([] : va_W) [.int x0]) (rQ (.int r)) 0 0 (fun _ => False) := by
  refine Met.ofW (cc := cX3_isDigit) (maxL := 1) (ret := (some .boolean)) (by decide) rfl ?_
  intro p e s m args below meth c s₁ B hml hv
  obtain ⟨ha, hK, hP⟩ := hv
  have hx := B.exec
  have hb := B.bytes
  have hr := B.returns
  have hlocks := B.notSynchronized
  have hts : ∀ w ∈ lw_all, w.before args s = true := fun w h => atoms_spec (ws := wsX3_isDigit) B.pre w (List.mem_cons_of_mem _ h)
  have hown : s.vm.findClass RX3 = some m.cls := findClass_of_methodNamed B.named
  have S : CallFix p m c cX3_isDigit 1 s args lw_all RX3 := ⟨hx, hb, hml, hown, hts⟩
  have hl := lv_entry ([.int x0] : List Value) (n := 1) (Nat.le_of_ble_eq_true rfl)
  refine W.eq (g2 := F0 m 0 ((lg_sl ([.int x0] : List Value) ++ List.replicate (1 - (lg_sl ([.int x0] : List Value)).length) Slot.unset).toArray) []) (by rw [ha]; exact lg_entry_eq _ _ _) ?_
  generalize (lg_sl ([.int x0] : List Value) ++ List.replicate (1 - (lg_sl ([.int x0] : List Value)).length) Slot.unset).toArray = ls at hl ⊢
  have hl : lv_has ls 1 [(0, .int x0)] := hl
  rw [f3_isDigit] at hF
  show rW p l e wsX3_isDigit rm3_isDigit s m args below meth c (.int r) (F0 m 0 ls [])
  refine lv_iload_n hx hb dX3_isDigit_0 rfl (lv_at hl 0 rfl) ?_
  refine lv_bipush hx hb dX3_isDigit_1 kc_bipush_48 ?_
  refine lv_icmp_lt (tgt := 16) hx hb dX3_isDigit_3 (by decide) (fun c1 => ?_) (fun c1 => ?_)
  · rw [if_pos c1] at hF
    refine lv_iconst hx hb dX3_isDigit_16 kc_iconst_0 ?_
    exact rretz (by decide) hF hx hb hr hlocks dX3_isDigit_17
  · rw [if_neg c1] at hF
    refine lv_iload_n hx hb dX3_isDigit_6 rfl (lv_at hl 0 rfl) ?_
    refine lv_bipush hx hb dX3_isDigit_7 kc_bipush_57 ?_
    refine lv_icmp_gt (tgt := 16) hx hb dX3_isDigit_9 (by decide) (fun c2 => ?_) (fun c2 => ?_)
    · rw [if_pos c2] at hF
      refine lv_iconst hx hb dX3_isDigit_16 kc_iconst_0 ?_
      exact rretz (by decide) hF hx hb hr hlocks dX3_isDigit_17
    · rw [if_neg c2] at hF
      refine lv_iconst hx hb dX3_isDigit_12 kc_iconst_1 ?_
      refine lv_goto (tgt := 17) hx hb dX3_isDigit_13 (by decide) ?_
      exact rretz (by decide) hF hx hb hr hlocks dX3_isDigit_17
abbrev rm3_endsHead : Room := { frames := 0, cells := 0, slots := 0, locals := 0 }
theorem hdn3_endsHead : yX3_endsHead.cls ≠ "java/lang/invoke/MethodHandle" ∧ yX3_endsHead.cls ≠ "java/lang/invoke/VarHandle" ∧ (parseMethodDescriptor yX3_endsHead.desc).map (fun d => d.parameters.length) = some 2 := by decide +kernel
set_option maxHeartbeats 4000000 in
set_option maxRecDepth 100000 in
theorem K3_endsHead (l : Launch) (D : va_G) (cI cZ cS cJ : ClassId) (x0 : Int32) (x1 : Int32) (r : Int32) (hF : f3_endsHead x0 x1 = some (r)) : Met l yX3_endsHead wsX3_endsHead rm3_endsHead (rP D (gT cI cZ cS cJ) ([] : va_W) [.int x0, .int x1]) (rQ (.int r)) 0 0 (fun _ => False) := by
  refine Met.ofW (cc := cX3_endsHead) (maxL := 2) (ret := (some .boolean)) (by decide) rfl ?_
  intro p e s m args below meth c s₁ B hml hv
  obtain ⟨ha, hK, hP⟩ := hv
  have hx := B.exec
  have hb := B.bytes
  have hr := B.returns
  have hlocks := B.notSynchronized
  have hts : ∀ w ∈ lw_all, w.before args s = true := fun w h => atoms_spec (ws := wsX3_endsHead) B.pre w (List.mem_cons_of_mem _ h)
  have hown : s.vm.findClass RX3 = some m.cls := findClass_of_methodNamed B.named
  have S : CallFix p m c cX3_endsHead 2 s args lw_all RX3 := ⟨hx, hb, hml, hown, hts⟩
  have hl := lv_entry ([.int x0, .int x1] : List Value) (n := 2) (Nat.le_of_ble_eq_true rfl)
  refine W.eq (g2 := F0 m 0 ((lg_sl ([.int x0, .int x1] : List Value) ++ List.replicate (2 - (lg_sl ([.int x0, .int x1] : List Value)).length) Slot.unset).toArray) []) (by rw [ha]; exact lg_entry_eq _ _ _) ?_
  generalize (lg_sl ([.int x0, .int x1] : List Value) ++ List.replicate (2 - (lg_sl ([.int x0, .int x1] : List Value)).length) Slot.unset).toArray = ls at hl ⊢
  have hl : lv_has ls 2 [(0, .int x0), (1, .int x1)] := hl
  rw [f3_endsHead] at hF
  show rW p l e wsX3_endsHead rm3_endsHead s m args below meth c (.int r) (F0 m 0 ls [])
  refine lv_iload_n hx hb dX3_endsHead_0 rfl (lv_at hl 0 rfl) ?_
  by_cases c1 : x0 = (98 : Int32)
  · have hF := ite_t c1 hF
    refine lv_lookup (tgt := 44) (off := 43) hx hb dX3_endsHead_1 (by decide) (by rw [c1]; decide) (by decide) ?_
    refine lv_iload_n hx hb dX3_endsHead_44 rfl (lv_at hl 1 rfl) ?_
    refine lv_bipush hx hb dX3_endsHead_45 kc_bipush_43 ?_
    refine lv_icmp_ne (tgt := 54) hx hb dX3_endsHead_47 (by decide) (fun c2 => ?_) (fun c2 => ?_)
    · rw [if_neg c2] at hF
      refine lv_iconst hx hb dX3_endsHead_54 kc_iconst_0 ?_
      exact rretz (by decide) hF hx hb hr hlocks dX3_endsHead_55
    · rw [if_pos c2] at hF
      refine lv_iconst hx hb dX3_endsHead_50 kc_iconst_1 ?_
      refine lv_goto (tgt := 55) hx hb dX3_endsHead_51 (by decide) ?_
      exact rretz (by decide) hF hx hb hr hlocks dX3_endsHead_55
  have hF := ite_f c1 hF
  by_cases c3 : x0 = (99 : Int32)
  · have hF := ite_t c3 hF
    refine lv_lookup (tgt := 68) (off := 67) hx hb dX3_endsHead_1 (by decide) (by rw [c3]; decide) (by decide) ?_
    refine lv_iload_n hx hb dX3_endsHead_68 rfl (lv_at hl 1 rfl) ?_
    refine lv_bipush hx hb dX3_endsHead_69 kc_bipush_65 ?_
    refine lv_icmp_lt (tgt := 84) hx hb dX3_endsHead_71 (by decide) (fun c4 => ?_) (fun c4 => ?_)
    · rw [if_pos c4] at hF
      refine lv_iconst hx hb dX3_endsHead_84 kc_iconst_0 ?_
      exact rretz (by decide) hF hx hb hr hlocks dX3_endsHead_85
    · rw [if_neg c4] at hF
      refine lv_iload_n hx hb dX3_endsHead_74 rfl (lv_at hl 1 rfl) ?_
      refine lv_bipush hx hb dX3_endsHead_75 kc_bipush_90 ?_
      refine lv_icmp_gt (tgt := 84) hx hb dX3_endsHead_77 (by decide) (fun c5 => ?_) (fun c5 => ?_)
      · rw [if_pos c5] at hF
        refine lv_iconst hx hb dX3_endsHead_84 kc_iconst_0 ?_
        exact rretz (by decide) hF hx hb hr hlocks dX3_endsHead_85
      · rw [if_neg c5] at hF
        refine lv_iconst hx hb dX3_endsHead_80 kc_iconst_1 ?_
        refine lv_goto (tgt := 85) hx hb dX3_endsHead_81 (by decide) ?_
        exact rretz (by decide) hF hx hb hr hlocks dX3_endsHead_85
  have hF := ite_f c3 hF
  by_cases c6 : x0 = (118 : Int32)
  · have hF := ite_t c6 hF
    refine lv_lookup (tgt := 86) (off := 85) hx hb dX3_endsHead_1 (by decide) (by rw [c6]; decide) (by decide) ?_
    refine lv_iload_n hx hb dX3_endsHead_86 rfl (lv_at hl 1 rfl) ?_
    refine lv_bipush hx hb dX3_endsHead_87 kc_bipush_45 ?_
    refine lv_icmp_ne (tgt := 96) hx hb dX3_endsHead_89 (by decide) (fun c7 => ?_) (fun c7 => ?_)
    · rw [if_neg c7] at hF
      refine lv_iconst hx hb dX3_endsHead_96 kc_iconst_0 ?_
      exact rretz (by decide) hF hx hb hr hlocks dX3_endsHead_97
    · rw [if_pos c7] at hF
      refine lv_iconst hx hb dX3_endsHead_92 kc_iconst_1 ?_
      refine lv_goto (tgt := 97) hx hb dX3_endsHead_93 (by decide) ?_
      exact rretz (by decide) hF hx hb hr hlocks dX3_endsHead_97
  have hF := ite_f c6 hF
  by_cases c8 : x0 = (119 : Int32)
  · have hF := ite_t c8 hF
    refine lv_lookup (tgt := 56) (off := 55) hx hb dX3_endsHead_1 (by decide) (by rw [c8]; decide) (by decide) ?_
    refine lv_iload_n hx hb dX3_endsHead_56 rfl (lv_at hl 1 rfl) ?_
    refine lv_bipush hx hb dX3_endsHead_57 kc_bipush_61 ?_
    refine lv_icmp_ne (tgt := 66) hx hb dX3_endsHead_59 (by decide) (fun c9 => ?_) (fun c9 => ?_)
    · rw [if_neg c9] at hF
      refine lv_iconst hx hb dX3_endsHead_66 kc_iconst_0 ?_
      exact rretz (by decide) hF hx hb hr hlocks dX3_endsHead_67
    · rw [if_pos c9] at hF
      refine lv_iconst hx hb dX3_endsHead_62 kc_iconst_1 ?_
      refine lv_goto (tgt := 67) hx hb dX3_endsHead_63 (by decide) ?_
      exact rretz (by decide) hF hx hb hr hlocks dX3_endsHead_67
  have hF := ite_f c8 hF
  refine lv_lookup (tgt := 98) (off := 97) hx hb dX3_endsHead_1 (by decide) (by show Op.lookupswitch.offset [(98, 43), (99, 67), (118, 85), (119, 55)] (97) _ = _; rw [lv_osw c1 (show (98 : Int32).toInt = 98 by decide), lv_osw c3 (show (99 : Int32).toInt = 99 by decide), lv_osw c6 (show (118 : Int32).toInt = 118 by decide), lv_osw c8 (show (119 : Int32).toInt = 119 by decide)]; rfl) (by decide) ?_
  refine lv_iconst hx hb dX3_endsHead_98 kc_iconst_0 ?_
  exact rretz (by decide) hF hx hb hr hlocks dX3_endsHead_99
abbrev rm3_isFull : Room := { frames := 0, cells := 0, slots := 0, locals := 0 }
theorem hd3_isFull : yX3_isFull.cls = RX3 ∧ yX3_isFull.cls ≠ "java/lang/invoke/MethodHandle" ∧ yX3_isFull.cls ≠ "java/lang/invoke/VarHandle" ∧ (parseMethodDescriptor yX3_isFull.desc).map (fun d => d.parameters.length) = some 0 := by decide +kernel
set_option maxHeartbeats 4000000 in
set_option maxRecDepth 100000 in
theorem K3_isFull (l : Launch) (D : va_G) (cI cZ cS cJ : ClassId) (aO aT : Nat) (ol : Int32) (oS : Nat → Int32) (r : Int32) (hF : f3_isFull ol = some (r)) : Met l yX3_isFull wsX3_isFull rm3_isFull (rP D (gT cI cZ cS cJ) (W3 cI aO aT ol oS) [.ref aO]) (rQ (.int r)) 0 0 (fun _ => False) := by
  refine Met.ofW (cc := cX3_isFull) (maxL := 1) (ret := (some .boolean)) (by decide) rfl ?_
  intro p e s m args below meth c s₁ B hml hv
  obtain ⟨ha, hK, hP⟩ := hv
  have hx := B.exec
  have hb := B.bytes
  have hr := B.returns
  have hlocks := B.notSynchronized
  have hts : ∀ w ∈ lw_all, w.before args s = true := fun w h => atoms_spec (ws := wsX3_isFull) B.pre w (List.mem_cons_of_mem _ h)
  have hown : s.vm.findClass RX3 = some m.cls := findClass_of_methodNamed B.named
  have S : CallFix p m c cX3_isFull 1 s args lw_all RX3 := ⟨hx, hb, hml, hown, hts⟩
  have hl := lv_entry ([.ref aO] : List Value) (n := 1) (Nat.le_of_ble_eq_true rfl)
  refine W.eq (g2 := F0 m 0 ((lg_sl ([.ref aO] : List Value) ++ List.replicate (1 - (lg_sl ([.ref aO] : List Value)).length) Slot.unset).toArray) []) (by rw [ha]; exact lg_entry_eq _ _ _) ?_
  generalize (lg_sl ([.ref aO] : List Value) ++ List.replicate (1 - (lg_sl ([.ref aO] : List Value)).length) Slot.unset).toArray = ls at hl ⊢
  have hl : lv_has ls 1 [(0, .ref aO)] := hl
  rw [f3_isFull] at hF
  show rW p l e wsX3_isFull rm3_isFull s m args below meth c (.int r) (F0 m 0 ls [])
  refine lv_aload_n hx hb dX3_isFull_0 rfl (lv_at hl 0 rfl) ?_
  refine va_get (D := D) (ci := 3) (v := .int ol) (C := RX3) (T := TX3) (N := 2) hx hb hts i_X3 hown hK.1 hP 0 rfl rfl 1 (by decide) (hts _ wd_132) (fun _ h9 => h9) rfl dX3_isFull_1 ?_
  refine lv_aload_n hx hb dX3_isFull_4 rfl (lv_at hl 0 rfl) ?_
  refine va_get (D := D) (ci := 3) (v := .ref aT) (C := RX3) (T := TX3) (N := 2) hx hb hts i_X3 hown hK.1 hP 0 rfl rfl 0 (by decide) (hts _ wd_131) (fun _ h9 => h9) rfl dX3_isFull_5 ?_
  refine va_alen (v := (60 : Int32)) hx hb hK.1 hP 1 0 rfl rfl rfl dX3_isFull_8 ?_
  refine lv_icmp_lt (tgt := 16) hx hb dX3_isFull_9 (by decide) (fun c1 => ?_) (fun c1 => ?_)
  · rw [if_pos c1] at hF
    refine lv_iconst hx hb dX3_isFull_16 kc_iconst_0 ?_
    exact rretz (by decide) hF hx hb hr hlocks dX3_isFull_17
  · rw [if_neg c1] at hF
    refine lv_iconst hx hb dX3_isFull_12 kc_iconst_1 ?_
    refine lv_goto (tgt := 17) hx hb dX3_isFull_13 (by decide) ?_
    exact rretz (by decide) hF hx hb hr hlocks dX3_isFull_17
abbrev rm3_add : Room := { frames := 0, cells := 0, slots := 0, locals := 0 }
theorem hd3_add : yX3_add.cls = RX3 ∧ yX3_add.cls ≠ "java/lang/invoke/MethodHandle" ∧ yX3_add.cls ≠ "java/lang/invoke/VarHandle" ∧ (parseMethodDescriptor yX3_add.desc).map (fun d => d.parameters.length) = some 1 := by decide +kernel
set_option maxHeartbeats 4000000 in
set_option maxRecDepth 100000 in
theorem K3_add (l : Launch) (D : va_G) (cI cZ cS cJ : ClassId) (aO aT : Nat) (ol : Int32) (oS : Nat → Int32) (x1 : Int32) (r : Int32) (z_ol : Int32) (z_oS : Nat → Int32) (hF : f3_add ol oS x1 = some (r, z_ol, z_oS)) : Met l yX3_add wsX3_add rm3_add (uP D (gT cI cZ cS cJ) (W3 cI aO aT ol oS) [.ref aO, .int x1]) (uQ D (some (.int r)) (uA (W3 cI aO aT ol oS)) (W3 cI aO aT z_ol z_oS)) 0 0 (uA (W3 cI aO aT ol oS)) := by
  refine Met.ofW (cc := cX3_add) (maxL := 2) (ret := (some .int)) (by decide) rfl ?_
  intro p e s m args below meth c s₁ B hml hv
  obtain ⟨ha, hK, hP, hD0⟩ := hv
  have hx := B.exec
  have hb := B.bytes
  have hr := B.returns
  have hlocks := B.notSynchronized
  have hts : ∀ w ∈ lw_all, w.before args s = true := fun w h => atoms_spec (ws := wsX3_add) B.pre w (List.mem_cons_of_mem _ h)
  have hown : s.vm.findClass RX3 = some m.cls := findClass_of_methodNamed B.named
  have S : CallFix p m c cX3_add 2 s args lw_all RX3 := ⟨hx, hb, hml, hown, hts⟩
  have hD := hD0.own
  generalize uA (W3 cI aO aT ol oS) = A0 at hD ⊢
  have hS : va_S A0 s.heap s.heap [] := va_S.rf
  have hl := lv_entry ([.ref aO, .int x1] : List Value) (n := 2) (Nat.le_of_ble_eq_true rfl)
  refine W.eq (g2 := F0 m 0 ((lg_sl ([.ref aO, .int x1] : List Value) ++ List.replicate (2 - (lg_sl ([.ref aO, .int x1] : List Value)).length) Slot.unset).toArray) []) (by rw [ha]; exact lg_entry_eq _ _ _) ?_
  generalize (lg_sl ([.ref aO, .int x1] : List Value) ++ List.replicate (2 - (lg_sl ([.ref aO, .int x1] : List Value)).length) Slot.unset).toArray = ls at hl ⊢
  have hl : lv_has ls 2 [(0, .ref aO), (1, .int x1)] := hl
  rw [f3_add] at hF
  show uW p l e wsX3_add rm3_add s m args below meth c D (some (.int r)) A0 (W3 cI aO aT z_ol z_oS) s.heap [] (F0 m 0 ls [])
  refine lv_aload_n hx hb dX3_add_0 rfl (lv_at hl 0 rfl) ?_
  refine va_get (D := D) (ci := 3) (v := .int ol) (C := RX3) (T := TX3) (N := 2) hx hb hts i_X3 hown hK.1 hP 0 rfl rfl 1 (by decide) (hts _ wd_132) (fun _ h9 => h9) rfl dX3_add_1 ?_
  refine lv_if_lt (tgt := 39) hx hb dX3_add_4 (by decide) (fun c1 => ?_) (fun c1 => ?_)
  · rw [if_pos c1] at hF; try rw [if_pos c1] at hF; try rw [if_pos c1] at hF
    refine lv_aload_n hx hb dX3_add_39 rfl (lv_at hl 0 rfl) ?_
    refine va_get (D := D) (ci := 3) (v := .int ol) (C := RX3) (T := TX3) (N := 2) hx hb hts i_X3 hown hK.1 hP 0 rfl rfl 1 (by decide) (hts _ wd_132) (fun _ h9 => h9) rfl dX3_add_40 ?_
    cases hF
    exact ureti hx hb hr hlocks hP hS dX3_add_43
  · rw [if_neg c1] at hF; try rw [if_neg c1] at hF; try rw [if_neg c1] at hF
    refine lv_aload_n hx hb dX3_add_7 rfl (lv_at hl 0 rfl) ?_
    refine va_get (D := D) (ci := 3) (v := .int ol) (C := RX3) (T := TX3) (N := 2) hx hb hts i_X3 hown hK.1 hP 0 rfl rfl 1 (by decide) (hts _ wd_132) (fun _ h9 => h9) rfl dX3_add_8 ?_
    refine lv_aload_n hx hb dX3_add_11 rfl (lv_at hl 0 rfl) ?_
    refine va_get (D := D) (ci := 3) (v := .ref aT) (C := RX3) (T := TX3) (N := 2) hx hb hts i_X3 hown hK.1 hP 0 rfl rfl 0 (by decide) (hts _ wd_131) (fun _ h9 => h9) rfl dX3_add_12 ?_
    refine va_alen (v := (60 : Int32)) hx hb hK.1 hP 1 0 rfl rfl rfl dX3_add_15 ?_
    refine lv_icmp_ge (tgt := 39) hx hb dX3_add_16 (by decide) (fun c2 => ?_) (fun c2 => ?_)
    · rw [if_pos c2] at hF; try rw [if_pos c2] at hF; try rw [if_pos c2] at hF
      refine lv_aload_n hx hb dX3_add_39 rfl (lv_at hl 0 rfl) ?_
      refine va_get (D := D) (ci := 3) (v := .int ol) (C := RX3) (T := TX3) (N := 2) hx hb hts i_X3 hown hK.1 hP 0 rfl rfl 1 (by decide) (hts _ wd_132) (fun _ h9 => h9) rfl dX3_add_40 ?_
      cases hF
      exact ureti hx hb hr hlocks hP hS dX3_add_43
    · rw [if_neg c2] at hF; try rw [if_neg c2] at hF; try rw [if_neg c2] at hF
      refine lv_aload_n hx hb dX3_add_19 rfl (lv_at hl 0 rfl) ?_
      refine va_get (D := D) (ci := 3) (v := .ref aT) (C := RX3) (T := TX3) (N := 2) hx hb hts i_X3 hown hK.1 hP 0 rfl rfl 0 (by decide) (hts _ wd_131) (fun _ h9 => h9) rfl dX3_add_20 ?_
      refine lv_aload_n hx hb dX3_add_23 rfl (lv_at hl 0 rfl) ?_
      refine va_get (D := D) (ci := 3) (v := .int ol) (C := RX3) (T := TX3) (N := 2) hx hb hts i_X3 hown hK.1 hP 0 rfl rfl 1 (by decide) (hts _ wd_132) (fun _ h9 => h9) rfl dX3_add_24 ?_
      refine lv_iload_n hx hb dX3_add_27 rfl (lv_at hl 1 rfl) ?_
      refine va_iast hx hb hK.1 hP hD hS 1 0 rfl rfl (inb_path (N := 60) (n := 60) (by decide) c1 c2) dX3_add_28 (fun H locs hP hD hS => ?_)
      have hP : va_P D vwCl (W3 cI aO aT ol (upd oS ol.toNatClampNeg x1)) H := hP
      have hD : va_D A0 (W3 cI aO aT ol (upd oS ol.toNatClampNeg x1)) := hD
      refine lv_aload_n hx hb dX3_add_29 rfl (lv_at hl 0 rfl) ?_
      refine lv_dup hx hb dX3_add_30 rfl ?_
      refine va_get (D := D) (ci := 3) (v := .int ol) (C := RX3) (T := TX3) (N := 2) hx hb hts i_X3 hown hK.1 hP 0 rfl rfl 1 (by decide) (hts _ wd_132) (fun _ h9 => h9) rfl dX3_add_31 ?_
      refine lv_iconst hx hb dX3_add_34 kc_iconst_1 ?_
      refine lv_iadd hx hb dX3_add_35 ?_
      refine va_put (D := D) (ci := 3) (v := .int (ol + (1 : Int32))) (ty := .int) (C := RX3) (T := TX3) (N := 2) hx hb hts i_X3 tyX3 tyX3_ok nmX3 hown hK.1 hP hD hS 0 rfl rfl 1 (by decide) (hts _ wd_132) (fun _ h9 => h9) rfl (by decide +kernel) rfl rfl (Nat.le_of_ble_eq_true rfl) dX3_add_36 (fun H locs hP hD hS => ?_)
      have hP : va_P D vwCl (W3 cI aO aT (ol + (1 : Int32)) (upd oS ol.toNatClampNeg x1)) H := hP
      have hD : va_D A0 (W3 cI aO aT (ol + (1 : Int32)) (upd oS ol.toNatClampNeg x1)) := hD
      refine lv_aload_n hx hb dX3_add_39 rfl (lv_at hl 0 rfl) ?_
      refine va_get (D := D) (ci := 3) (v := .int (ol + (1 : Int32))) (C := RX3) (T := TX3) (N := 2) hx hb hts i_X3 hown hK.1 hP 0 rfl rfl 1 (by decide) (hts _ wd_132) (fun _ h9 => h9) rfl dX3_add_40 ?_
      cases hF
      exact ureti hx hb hr hlocks hP hS dX3_add_43
abbrev rm3_clear : Room := { frames := 0, cells := 0, slots := 0, locals := 0 }
theorem hd3_clear : yX3_clear.cls = RX3 ∧ yX3_clear.cls ≠ "java/lang/invoke/MethodHandle" ∧ yX3_clear.cls ≠ "java/lang/invoke/VarHandle" ∧ (parseMethodDescriptor yX3_clear.desc).map (fun d => d.parameters.length) = some 0 := by decide +kernel
set_option maxHeartbeats 4000000 in
set_option maxRecDepth 100000 in
theorem K3_clear (l : Launch) (D : va_G) (cI cZ cS cJ : ClassId) (aO aT : Nat) (ol : Int32) (oS : Nat → Int32) (r : Int32) (z_ol : Int32) (hF : f3_clear ol = some (r, z_ol)) : Met l yX3_clear wsX3_clear rm3_clear (uP D (gT cI cZ cS cJ) (W3 cI aO aT ol oS) [.ref aO]) (uQ D (some (.int r)) (uA (W3 cI aO aT ol oS)) (W3 cI aO aT z_ol oS)) 0 0 (uA (W3 cI aO aT ol oS)) := by
  refine Met.ofW (cc := cX3_clear) (maxL := 2) (ret := (some .int)) (by decide) rfl ?_
  intro p e s m args below meth c s₁ B hml hv
  obtain ⟨ha, hK, hP, hD0⟩ := hv
  have hx := B.exec
  have hb := B.bytes
  have hr := B.returns
  have hlocks := B.notSynchronized
  have hts : ∀ w ∈ lw_all, w.before args s = true := fun w h => atoms_spec (ws := wsX3_clear) B.pre w (List.mem_cons_of_mem _ h)
  have hown : s.vm.findClass RX3 = some m.cls := findClass_of_methodNamed B.named
  have S : CallFix p m c cX3_clear 2 s args lw_all RX3 := ⟨hx, hb, hml, hown, hts⟩
  have hD := hD0.own
  generalize uA (W3 cI aO aT ol oS) = A0 at hD ⊢
  have hS : va_S A0 s.heap s.heap [] := va_S.rf
  have hl := lv_entry ([.ref aO] : List Value) (n := 2) (Nat.le_of_ble_eq_true rfl)
  refine W.eq (g2 := F0 m 0 ((lg_sl ([.ref aO] : List Value) ++ List.replicate (2 - (lg_sl ([.ref aO] : List Value)).length) Slot.unset).toArray) []) (by rw [ha]; exact lg_entry_eq _ _ _) ?_
  generalize (lg_sl ([.ref aO] : List Value) ++ List.replicate (2 - (lg_sl ([.ref aO] : List Value)).length) Slot.unset).toArray = ls at hl ⊢
  have hl : lv_has ls 2 [(0, .ref aO)] := hl
  rw [f3_clear] at hF
  show uW p l e wsX3_clear rm3_clear s m args below meth c D (some (.int r)) A0 (W3 cI aO aT z_ol oS) s.heap [] (F0 m 0 ls [])
  refine lv_aload_n hx hb dX3_clear_0 rfl (lv_at hl 0 rfl) ?_
  refine va_get (D := D) (ci := 3) (v := .int ol) (C := RX3) (T := TX3) (N := 2) hx hb hts i_X3 hown hK.1 hP 0 rfl rfl 1 (by decide) (hts _ wd_132) (fun _ h9 => h9) rfl dX3_clear_1 ?_
  refine lv_istore_n (lv' := [(1, .int ol), (0, .ref aO)]) hx hb dX3_clear_4 rfl hl (by decide) rfl (fun ls hl => ?_)
  refine lv_aload_n hx hb dX3_clear_5 rfl (lv_at hl 1 rfl) ?_
  refine lv_iconst hx hb dX3_clear_6 kc_iconst_0 ?_
  refine va_put (D := D) (ci := 3) (v := .int (0 : Int32)) (ty := .int) (C := RX3) (T := TX3) (N := 2) hx hb hts i_X3 tyX3 tyX3_ok nmX3 hown hK.1 hP hD hS 0 rfl rfl 1 (by decide) (hts _ wd_132) (fun _ h9 => h9) rfl (by decide +kernel) rfl rfl (Nat.le_of_ble_eq_true rfl) dX3_clear_7 (fun H locs hP hD hS => ?_)
  have hP : va_P D vwCl (W3 cI aO aT (0 : Int32) oS) H := hP
  have hD : va_D A0 (W3 cI aO aT (0 : Int32) oS) := hD
  refine lv_iload_n hx hb dX3_clear_10 rfl (lv_at hl 0 rfl) ?_
  cases hF
  exact ureti hx hb hr hlocks hP hS dX3_clear_11
abbrev rm3_signAt : Room := { frames := 0, cells := 0, slots := 0, locals := 0 }
theorem hd3_signAt : yX3_signAt.cls = RX3 ∧ yX3_signAt.cls ≠ "java/lang/invoke/MethodHandle" ∧ yX3_signAt.cls ≠ "java/lang/invoke/VarHandle" ∧ (parseMethodDescriptor yX3_signAt.desc).map (fun d => d.parameters.length) = some 1 := by decide +kernel
set_option maxHeartbeats 4000000 in
set_option maxRecDepth 100000 in
theorem K3_signAt (l : Launch) (D : va_G) (cI cZ cS cJ : ClassId) (aO aT : Nat) (ol : Int32) (oS : Nat → Int32) (x1 : Int32) (r : Int32) (hF : f3_signAt ol oS x1 = some (r)) : Met l yX3_signAt wsX3_signAt rm3_signAt (rP D (gT cI cZ cS cJ) (W3 cI aO aT ol oS) [.ref aO, .int x1]) (rQ (.int r)) 0 0 (fun _ => False) := by
  refine Met.ofW (cc := cX3_signAt) (maxL := 2) (ret := (some .int)) (by decide) rfl ?_
  intro p e s m args below meth c s₁ B hml hv
  obtain ⟨ha, hK, hP⟩ := hv
  have hx := B.exec
  have hb := B.bytes
  have hr := B.returns
  have hlocks := B.notSynchronized
  have hts : ∀ w ∈ lw_all, w.before args s = true := fun w h => atoms_spec (ws := wsX3_signAt) B.pre w (List.mem_cons_of_mem _ h)
  have hown : s.vm.findClass RX3 = some m.cls := findClass_of_methodNamed B.named
  have S : CallFix p m c cX3_signAt 2 s args lw_all RX3 := ⟨hx, hb, hml, hown, hts⟩
  have hl := lv_entry ([.ref aO, .int x1] : List Value) (n := 2) (Nat.le_of_ble_eq_true rfl)
  refine W.eq (g2 := F0 m 0 ((lg_sl ([.ref aO, .int x1] : List Value) ++ List.replicate (2 - (lg_sl ([.ref aO, .int x1] : List Value)).length) Slot.unset).toArray) []) (by rw [ha]; exact lg_entry_eq _ _ _) ?_
  generalize (lg_sl ([.ref aO, .int x1] : List Value) ++ List.replicate (2 - (lg_sl ([.ref aO, .int x1] : List Value)).length) Slot.unset).toArray = ls at hl ⊢
  have hl : lv_has ls 2 [(0, .ref aO), (1, .int x1)] := hl
  rw [f3_signAt] at hF
  show rW p l e wsX3_signAt rm3_signAt s m args below meth c (.int r) (F0 m 0 ls [])
  refine lv_iload_n hx hb dX3_signAt_0 rfl (lv_at hl 1 rfl) ?_
  refine lv_if_lt (tgt := 30) hx hb dX3_signAt_1 (by decide) (fun c1 => ?_) (fun c1 => ?_)
  · rw [if_pos c1] at hF
    refine lv_iconst hx hb dX3_signAt_30 kc_iconst_0 ?_
    exact rret hF hx hb hr hlocks dX3_signAt_31
  · rw [if_neg c1] at hF
    refine lv_iload_n hx hb dX3_signAt_4 rfl (lv_at hl 1 rfl) ?_
    refine lv_aload_n hx hb dX3_signAt_5 rfl (lv_at hl 0 rfl) ?_
    refine va_get (D := D) (ci := 3) (v := .int ol) (C := RX3) (T := TX3) (N := 2) hx hb hts i_X3 hown hK.1 hP 0 rfl rfl 1 (by decide) (hts _ wd_132) (fun _ h9 => h9) rfl dX3_signAt_6 ?_
    refine lv_icmp_ge (tgt := 30) hx hb dX3_signAt_9 (by decide) (fun c2 => ?_) (fun c2 => ?_)
    · rw [if_pos c2] at hF
      refine lv_iconst hx hb dX3_signAt_30 kc_iconst_0 ?_
      exact rret hF hx hb hr hlocks dX3_signAt_31
    · rw [if_neg c2] at hF
      refine lv_iload_n hx hb dX3_signAt_12 rfl (lv_at hl 1 rfl) ?_
      refine lv_aload_n hx hb dX3_signAt_13 rfl (lv_at hl 0 rfl) ?_
      refine va_get (D := D) (ci := 3) (v := .ref aT) (C := RX3) (T := TX3) (N := 2) hx hb hts i_X3 hown hK.1 hP 0 rfl rfl 0 (by decide) (hts _ wd_131) (fun _ h9 => h9) rfl dX3_signAt_14 ?_
      refine va_alen (v := (60 : Int32)) hx hb hK.1 hP 1 0 rfl rfl rfl dX3_signAt_17 ?_
      refine lv_icmp_ge (tgt := 30) hx hb dX3_signAt_18 (by decide) (fun c3 => ?_) (fun c3 => ?_)
      · rw [if_pos c3] at hF
        refine lv_iconst hx hb dX3_signAt_30 kc_iconst_0 ?_
        exact rret hF hx hb hr hlocks dX3_signAt_31
      · rw [if_neg c3] at hF
        refine lv_aload_n hx hb dX3_signAt_21 rfl (lv_at hl 0 rfl) ?_
        refine va_get (D := D) (ci := 3) (v := .ref aT) (C := RX3) (T := TX3) (N := 2) hx hb hts i_X3 hown hK.1 hP 0 rfl rfl 0 (by decide) (hts _ wd_131) (fun _ h9 => h9) rfl dX3_signAt_22 ?_
        refine lv_iload_n hx hb dX3_signAt_25 rfl (lv_at hl 1 rfl) ?_
        refine va_iald hx hb hK.1 hP 1 0 rfl rfl (inb_path (N := 60) (n := 60) (by decide) c1 c3) dX3_signAt_26 ?_
        refine lv_goto (tgt := 31) hx hb dX3_signAt_27 (by decide) ?_
        exact rret hF hx hb hr hlocks dX3_signAt_31
abbrev rm3_numberIn : Room := { frames := 1, cells := 0, slots := 0, locals := 21 }
theorem hd3_numberIn : yX3_numberIn.cls = RX3 ∧ yX3_numberIn.cls ≠ "java/lang/invoke/MethodHandle" ∧ yX3_numberIn.cls ≠ "java/lang/invoke/VarHandle" ∧ (parseMethodDescriptor yX3_numberIn.desc).map (fun d => d.parameters.length) = some 2 := by decide +kernel
set_option maxHeartbeats 4000000 in
set_option maxRecDepth 100000 in
theorem K3_numberIn (l : Launch) (D : va_G) (cI cZ cS cJ : ClassId) (aO aT : Nat) (ol : Int32) (oS : Nat → Int32) (x1 : Int32) (x2 : Int32) (r : Int32) (hF : f3_numberIn ol oS x1 x2 = some (r)) : Met l yX3_numberIn wsX3_numberIn rm3_numberIn (rP D (gT cI cZ cS cJ) (W3 cI aO aT ol oS) [.ref aO, .int x1, .int x2]) (rQ (.int r)) 0 0 (fun _ => False) := by
  refine Met.ofW (cc := cX3_numberIn) (maxL := 5) (ret := (some .int)) (by decide) rfl ?_
  intro p e s m args below meth c s₁ B hml hv
  obtain ⟨ha, hK, hP⟩ := hv
  have hx := B.exec
  have hb := B.bytes
  have hr := B.returns
  have hlocks := B.notSynchronized
  have hts : ∀ w ∈ lw_all, w.before args s = true := fun w h => atoms_spec (ws := wsX3_numberIn) B.pre w (List.mem_cons_of_mem _ h)
  have hown : s.vm.findClass RX3 = some m.cls := findClass_of_methodNamed B.named
  have S : CallFix p m c cX3_numberIn 5 s args lw_all RX3 := ⟨hx, hb, hml, hown, hts⟩
  have hl := lv_entry ([.ref aO, .int x1, .int x2] : List Value) (n := 5) (Nat.le_of_ble_eq_true rfl)
  refine W.eq (g2 := F0 m 0 ((lg_sl ([.ref aO, .int x1, .int x2] : List Value) ++ List.replicate (5 - (lg_sl ([.ref aO, .int x1, .int x2] : List Value)).length) Slot.unset).toArray) []) (by rw [ha]; exact lg_entry_eq _ _ _) ?_
  generalize (lg_sl ([.ref aO, .int x1, .int x2] : List Value) ++ List.replicate (5 - (lg_sl ([.ref aO, .int x1, .int x2] : List Value)).length) Slot.unset).toArray = ls at hl ⊢
  have hl : lv_has ls 5 [(0, .ref aO), (1, .int x1), (2, .int x2)] := hl
  clear ha
  have W_5 : ∀ (x2 : Int32) (n : Nat) (x3 : Int32) (x4 : Int32), ∀ (ls : Array Slot), lv_has ls 5 [(0, .ref aO), (2, .int x2), (3, .int x3), (4, .int x4)] → f3_numberIn_l5 ol oS x2 n x3 x4 = some (r) → rW p l e wsX3_numberIn rm3_numberIn s m args below meth c (.int r) (F0 m 5 ls []) := by
    intro x2  n
    induction n with
    | zero =>
      intro x3 x4 ls hl hF
      rw [f3_numberIn_l5] at hF
      cases hF
    | succ n ih =>
      intro x3 x4 ls hl hF
      rw [f3_numberIn_l5] at hF
      refine lv_iload hx hb dX3_numberIn_5 (lv_at hl 3 rfl) ?_
      refine lv_iload_n hx hb dX3_numberIn_7 rfl (lv_at hl 1 rfl) ?_
      refine lv_icmp_ge (tgt := 32) hx hb dX3_numberIn_8 (by decide) (fun c1 => ?_) (fun c1 => ?_)
      · have hF := ite_t c1 hF
        refine lv_iload_n hx hb dX3_numberIn_32 rfl (lv_at hl 2 rfl) ?_
        exact rret hF hx hb hr hlocks dX3_numberIn_33
      · have hF := ite_f c1 hF
        refine lv_iload_n hx hb dX3_numberIn_11 rfl (lv_at hl 2 rfl) ?_
        refine lv_bipush hx hb dX3_numberIn_12 kc_bipush_10 ?_
        refine lv_imul hx hb dX3_numberIn_14 ?_
        refine lv_aload_n hx hb dX3_numberIn_15 rfl (lv_at hl 0 rfl) ?_
        refine lv_iload hx hb dX3_numberIn_16 (lv_at hl 3 rfl) ?_
        obtain ⟨q3, h2, hF⟩ := bd1_at hF
        refine rcall (va_runV (As := [.int x4]) (rest := [.int (x3 * (10 : Int32))]) S (K3_signAt l D cI cZ cS cJ aO aT ol oS x4 q3 h2) (cwV 1 hts (gd_V wd_523 wd_524 wd_525 wd_27 wd_526) rfl rfl rfl hd3_signAt ⟨Nat.le_of_ble_eq_true rfl, Nat.le_of_ble_eq_true rfl⟩) (rPreV hK hP (ci := 3) (q := (RX3, TX3, 2)) rfl rfl) rfl rfl hl.1 rfl (lv_room (Nat.le_of_ble_eq_true rfl)) dX3_numberIn_18 ⟨(Nat.zero_le _), (Nat.zero_le _)⟩) ?_
        refine lv_iadd hx hb dX3_numberIn_21 ?_
        refine lv_bipush hx hb dX3_numberIn_22 kc_bipush_48 ?_
        refine lv_isub hx hb dX3_numberIn_24 ?_
        refine lv_istore_n (lv' := [(3, .int (((x3 * (10 : Int32)) + q3) - (48 : Int32))), (0, .ref aO), (2, .int x2), (4, .int x4)]) hx hb dX3_numberIn_25 rfl hl (by decide) rfl (fun ls hl => ?_)
        refine lv_iinc (v := (x4 + 1)) (lv' := [(4, .int (x4 + 1)), (3, .int (((x3 * (10 : Int32)) + q3) - (48 : Int32))), (0, .ref aO), (2, .int x2)]) hx hb dX3_numberIn_26 hl (k := 3) rfl rfl (by decide) rfl (fun ls hl => ?_)
        refine lv_goto (tgt := 5) hx hb dX3_numberIn_29 (by decide) ?_
        exact ih (((x3 * (10 : Int32)) + q3) - (48 : Int32)) (x4 + 1) ls (lv_sub hl [2, 3, 1, 0] rfl) hF
  rw [f3_numberIn] at hF
  show rW p l e wsX3_numberIn rm3_numberIn s m args below meth c (.int r) (F0 m 0 ls [])
  refine lv_iconst hx hb dX3_numberIn_0 kc_iconst_0 ?_
  refine lv_istore_n (lv' := [(3, .int (0 : Int32)), (0, .ref aO), (1, .int x1), (2, .int x2)]) hx hb dX3_numberIn_1 rfl hl (by decide) rfl (fun ls hl => ?_)
  refine lv_iload_n hx hb dX3_numberIn_2 rfl (lv_at hl 2 rfl) ?_
  refine lv_istore (lv' := [(4, .int x1), (3, .int (0 : Int32)), (0, .ref aO), (1, .int x1), (2, .int x2)]) hx hb dX3_numberIn_3 hl (by decide) rfl (fun ls hl => ?_)
  exact W_5 x2  fu (0 : Int32) x1 ls (lv_sub hl [2, 4, 1, 0] rfl) hF
abbrev rm3_isWhole : Room := { frames := 1, cells := 0, slots := 0, locals := 21 }
theorem hd3_isWhole : yX3_isWhole.cls = RX3 ∧ yX3_isWhole.cls ≠ "java/lang/invoke/MethodHandle" ∧ yX3_isWhole.cls ≠ "java/lang/invoke/VarHandle" ∧ (parseMethodDescriptor yX3_isWhole.desc).map (fun d => d.parameters.length) = some 2 := by decide +kernel
set_option maxHeartbeats 4000000 in
set_option maxRecDepth 100000 in
theorem K3_isWhole (l : Launch) (D : va_G) (cI cZ cS cJ : ClassId) (aO aT : Nat) (ol : Int32) (oS : Nat → Int32) (x1 : Int32) (x2 : Int32) (r : Int32) (hF : f3_isWhole ol oS x1 x2 = some (r)) : Met l yX3_isWhole wsX3_isWhole rm3_isWhole (rP D (gT cI cZ cS cJ) (W3 cI aO aT ol oS) [.ref aO, .int x1, .int x2]) (rQ (.int r)) 0 0 (fun _ => False) := by
  refine Met.ofW (cc := cX3_isWhole) (maxL := 4) (ret := (some .boolean)) (by decide) rfl ?_
  intro p e s m args below meth c s₁ B hml hv
  obtain ⟨ha, hK, hP⟩ := hv
  have hx := B.exec
  have hb := B.bytes
  have hr := B.returns
  have hlocks := B.notSynchronized
  have hts : ∀ w ∈ lw_all, w.before args s = true := fun w h => atoms_spec (ws := wsX3_isWhole) B.pre w (List.mem_cons_of_mem _ h)
  have hown : s.vm.findClass RX3 = some m.cls := findClass_of_methodNamed B.named
  have S : CallFix p m c cX3_isWhole 4 s args lw_all RX3 := ⟨hx, hb, hml, hown, hts⟩
  have hl := lv_entry ([.ref aO, .int x1, .int x2] : List Value) (n := 4) (Nat.le_of_ble_eq_true rfl)
  refine W.eq (g2 := F0 m 0 ((lg_sl ([.ref aO, .int x1, .int x2] : List Value) ++ List.replicate (4 - (lg_sl ([.ref aO, .int x1, .int x2] : List Value)).length) Slot.unset).toArray) []) (by rw [ha]; exact lg_entry_eq _ _ _) ?_
  generalize (lg_sl ([.ref aO, .int x1, .int x2] : List Value) ++ List.replicate (4 - (lg_sl ([.ref aO, .int x1, .int x2] : List Value)).length) Slot.unset).toArray = ls at hl ⊢
  have hl : lv_has ls 4 [(0, .ref aO), (1, .int x1), (2, .int x2)] := hl
  rw [f3_isWhole] at hF
  show rW p l e wsX3_isWhole rm3_isWhole s m args below meth c (.int r) (F0 m 0 ls [])
  refine lv_iload_n hx hb dX3_isWhole_0 rfl (lv_at hl 2 rfl) ?_
  refine lv_iload_n hx hb dX3_isWhole_1 rfl (lv_at hl 1 rfl) ?_
  refine lv_isub hx hb dX3_isWhole_2 ?_
  refine lv_istore_n (lv' := [(3, .int (x2 - x1)), (0, .ref aO), (1, .int x1), (2, .int x2)]) hx hb dX3_isWhole_3 rfl hl (by decide) rfl (fun ls hl => ?_)
  refine lv_aload_n hx hb dX3_isWhole_4 rfl (lv_at hl 1 rfl) ?_
  refine lv_iload_n hx hb dX3_isWhole_5 rfl (lv_at hl 2 rfl) ?_
  obtain ⟨q2, h1, hF⟩ := bd1_at hF
  refine rcall (va_runV (As := [.int x1]) (rest := []) S (K3_signAt l D cI cZ cS cJ aO aT ol oS x1 q2 h1) (cwV 1 hts (gd_V wd_523 wd_524 wd_525 wd_27 wd_526) rfl rfl rfl hd3_signAt ⟨Nat.le_of_ble_eq_true rfl, Nat.le_of_ble_eq_true rfl⟩) (rPreV hK hP (ci := 3) (q := (RX3, TX3, 2)) rfl rfl) rfl rfl hl.1 rfl (lv_room (Nat.le_of_ble_eq_true rfl)) dX3_isWhole_6 ⟨(Nat.zero_le _), (Nat.zero_le _)⟩) ?_
  by_cases c3 : q2 = (98 : Int32)
  · have hF := ite_t c3 hF
    refine lv_lookup (tgt := 52) (off := 43) hx hb dX3_isWhole_9 (by decide) (by rw [c3]; decide) (by decide) ?_
    refine lv_iload_n hx hb dX3_isWhole_52 rfl (lv_at hl 0 rfl) ?_
    refine lv_bipush hx hb dX3_isWhole_53 kc_bipush_8 ?_
    refine lv_icmp_le (tgt := 62) hx hb dX3_isWhole_55 (by decide) (fun c4 => ?_) (fun c4 => ?_)
    · rw [if_pos c4] at hF
      refine lv_iconst hx hb dX3_isWhole_62 kc_iconst_0 ?_
      exact rretz (by decide) hF hx hb hr hlocks dX3_isWhole_63
    · rw [if_neg c4] at hF
      refine lv_iconst hx hb dX3_isWhole_58 kc_iconst_1 ?_
      refine lv_goto (tgt := 63) hx hb dX3_isWhole_59 (by decide) ?_
      exact rretz (by decide) hF hx hb hr hlocks dX3_isWhole_63
  have hF := ite_f c3 hF
  by_cases c5 : q2 = (99 : Int32)
  · have hF := ite_t c5 hF
    refine lv_lookup (tgt := 64) (off := 55) hx hb dX3_isWhole_9 (by decide) (by rw [c5]; decide) (by decide) ?_
    refine lv_iload_n hx hb dX3_isWhole_64 rfl (lv_at hl 0 rfl) ?_
    refine lv_bipush hx hb dX3_isWhole_65 kc_bipush_8 ?_
    refine lv_icmp_ne (tgt := 74) hx hb dX3_isWhole_67 (by decide) (fun c6 => ?_) (fun c6 => ?_)
    · rw [if_neg c6] at hF
      refine lv_iconst hx hb dX3_isWhole_74 kc_iconst_0 ?_
      exact rretz (by decide) hF hx hb hr hlocks dX3_isWhole_75
    · rw [if_pos c6] at hF
      refine lv_iconst hx hb dX3_isWhole_70 kc_iconst_1 ?_
      refine lv_goto (tgt := 75) hx hb dX3_isWhole_71 (by decide) ?_
      exact rretz (by decide) hF hx hb hr hlocks dX3_isWhole_75
  have hF := ite_f c5 hF
  by_cases c7 : q2 = (118 : Int32)
  · have hF := ite_t c7 hF
    refine lv_lookup (tgt := 76) (off := 67) hx hb dX3_isWhole_9 (by decide) (by rw [c7]; decide) (by decide) ?_
    refine lv_iload_n hx hb dX3_isWhole_76 rfl (lv_at hl 0 rfl) ?_
    refine lv_bipush hx hb dX3_isWhole_77 kc_bipush_14 ?_
    refine lv_icmp_ne (tgt := 86) hx hb dX3_isWhole_79 (by decide) (fun c8 => ?_) (fun c8 => ?_)
    · rw [if_neg c8] at hF
      refine lv_iconst hx hb dX3_isWhole_86 kc_iconst_0 ?_
      exact rretz (by decide) hF hx hb hr hlocks dX3_isWhole_87
    · rw [if_pos c8] at hF
      refine lv_iconst hx hb dX3_isWhole_82 kc_iconst_1 ?_
      refine lv_goto (tgt := 87) hx hb dX3_isWhole_83 (by decide) ?_
      exact rretz (by decide) hF hx hb hr hlocks dX3_isWhole_87
  have hF := ite_f c7 hF
  by_cases c9 : q2 = (119 : Int32)
  · have hF := ite_t c9 hF
    refine lv_lookup (tgt := 52) (off := 43) hx hb dX3_isWhole_9 (by decide) (by rw [c9]; decide) (by decide) ?_
    refine lv_iload_n hx hb dX3_isWhole_52 rfl (lv_at hl 0 rfl) ?_
    refine lv_bipush hx hb dX3_isWhole_53 kc_bipush_8 ?_
    refine lv_icmp_le (tgt := 62) hx hb dX3_isWhole_55 (by decide) (fun c10 => ?_) (fun c10 => ?_)
    · rw [if_pos c10] at hF
      refine lv_iconst hx hb dX3_isWhole_62 kc_iconst_0 ?_
      exact rretz (by decide) hF hx hb hr hlocks dX3_isWhole_63
    · rw [if_neg c10] at hF
      refine lv_iconst hx hb dX3_isWhole_58 kc_iconst_1 ?_
      refine lv_goto (tgt := 63) hx hb dX3_isWhole_59 (by decide) ?_
      exact rretz (by decide) hF hx hb hr hlocks dX3_isWhole_63
  have hF := ite_f c9 hF
  refine lv_lookup (tgt := 88) (off := 79) hx hb dX3_isWhole_9 (by decide) (by show Op.lookupswitch.offset [(98, 43), (99, 55), (118, 67), (119, 43)] (79) _ = _; rw [lv_osw c3 (show (98 : Int32).toInt = 98 by decide), lv_osw c5 (show (99 : Int32).toInt = 99 by decide), lv_osw c7 (show (118 : Int32).toInt = 118 by decide), lv_osw c9 (show (119 : Int32).toInt = 119 by decide)]; rfl) (by decide) ?_
  refine lv_iconst hx hb dX3_isWhole_88 kc_iconst_0 ?_
  exact rretz (by decide) hF hx hb hr hlocks dX3_isWhole_89
abbrev rm3_fitsBehindHead : Room := { frames := 2, cells := 0, slots := 0, locals := 45 }
theorem hd3_fitsBehindHead : yX3_fitsBehindHead.cls = RX3 ∧ yX3_fitsBehindHead.cls ≠ "java/lang/invoke/MethodHandle" ∧ yX3_fitsBehindHead.cls ≠ "java/lang/invoke/VarHandle" ∧ (parseMethodDescriptor yX3_fitsBehindHead.desc).map (fun d => d.parameters.length) = some 2 := by decide +kernel
set_option maxHeartbeats 4000000 in
set_option maxRecDepth 100000 in
theorem K3_fitsBehindHead (l : Launch) (D : va_G) (cI cZ cS cJ : ClassId) (aO aT : Nat) (ol : Int32) (oS : Nat → Int32) (x1 : Int32) (x2 : Int32) (r : Int32) (hF : f3_fitsBehindHead ol oS x1 x2 = some (r)) : Met l yX3_fitsBehindHead wsX3_fitsBehindHead rm3_fitsBehindHead (rP D (gT cI cZ cS cJ) (W3 cI aO aT ol oS) [.ref aO, .int x1, .int x2]) (rQ (.int r)) 0 0 (fun _ => False) := by
  refine Met.ofW (cc := cX3_fitsBehindHead) (maxL := 4) (ret := (some .boolean)) (by decide) rfl ?_
  intro p e s m args below meth c s₁ B hml hv
  obtain ⟨ha, hK, hP⟩ := hv
  have hx := B.exec
  have hb := B.bytes
  have hr := B.returns
  have hlocks := B.notSynchronized
  have hts : ∀ w ∈ lw_all, w.before args s = true := fun w h => atoms_spec (ws := wsX3_fitsBehindHead) B.pre w (List.mem_cons_of_mem _ h)
  have hown : s.vm.findClass RX3 = some m.cls := findClass_of_methodNamed B.named
  have S : CallFix p m c cX3_fitsBehindHead 4 s args lw_all RX3 := ⟨hx, hb, hml, hown, hts⟩
  have hl := lv_entry ([.ref aO, .int x1, .int x2] : List Value) (n := 4) (Nat.le_of_ble_eq_true rfl)
  refine W.eq (g2 := F0 m 0 ((lg_sl ([.ref aO, .int x1, .int x2] : List Value) ++ List.replicate (4 - (lg_sl ([.ref aO, .int x1, .int x2] : List Value)).length) Slot.unset).toArray) []) (by rw [ha]; exact lg_entry_eq _ _ _) ?_
  generalize (lg_sl ([.ref aO, .int x1, .int x2] : List Value) ++ List.replicate (4 - (lg_sl ([.ref aO, .int x1, .int x2] : List Value)).length) Slot.unset).toArray = ls at hl ⊢
  have hl : lv_has ls 4 [(0, .ref aO), (1, .int x1), (2, .int x2)] := hl
  rw [f3_fitsBehindHead] at hF
  show rW p l e wsX3_fitsBehindHead rm3_fitsBehindHead s m args below meth c (.int r) (F0 m 0 ls [])
  refine lv_aload_n hx hb dX3_fitsBehindHead_0 rfl (lv_at hl 0 rfl) ?_
  refine lv_iload_n hx hb dX3_fitsBehindHead_1 rfl (lv_at hl 1 rfl) ?_
  refine lv_bipush hx hb dX3_fitsBehindHead_2 kc_bipush_8 ?_
  refine lv_iadd hx hb dX3_fitsBehindHead_4 ?_
  refine lv_iload_n hx hb dX3_fitsBehindHead_5 rfl (lv_at hl 2 rfl) ?_
  refine lv_iconst hx hb dX3_fitsBehindHead_6 kc_iconst_1 ?_
  refine lv_iadd hx hb dX3_fitsBehindHead_7 ?_
  obtain ⟨q2, h1, hF⟩ := bd1_at hF
  refine rcall (va_runV (As := [.int (x1 + (8 : Int32)), .int (x2 + (1 : Int32))]) (rest := []) S (K3_numberIn l D cI cZ cS cJ aO aT ol oS (x1 + (8 : Int32)) (x2 + (1 : Int32)) q2 h1) (cwV 2 hts (gd_V wd_541 wd_542 wd_543 wd_27 wd_544) rfl rfl rfl hd3_numberIn ⟨Nat.le_of_ble_eq_true rfl, Nat.le_of_ble_eq_true rfl⟩) (rPreV hK hP (ci := 3) (q := (RX3, TX3, 2)) rfl rfl) rfl rfl hl.1 rfl (lv_room (Nat.le_of_ble_eq_true rfl)) dX3_fitsBehindHead_8 ⟨(Nat.zero_le _), (Nat.zero_le _)⟩) ?_
  refine lv_istore_n (lv' := [(3, .int q2), (0, .ref aO), (1, .int x1), (2, .int x2)]) hx hb dX3_fitsBehindHead_11 rfl hl (by decide) rfl (fun ls hl => ?_)
  refine lv_aload_n hx hb dX3_fitsBehindHead_12 rfl (lv_at hl 1 rfl) ?_
  refine lv_iload_n hx hb dX3_fitsBehindHead_13 rfl (lv_at hl 2 rfl) ?_
  obtain ⟨q4, h3, hF⟩ := bd1_at hF
  refine rcall (va_runV (As := [.int x1]) (rest := []) S (K3_signAt l D cI cZ cS cJ aO aT ol oS x1 q4 h3) (cwV 1 hts (gd_V wd_523 wd_524 wd_525 wd_27 wd_526) rfl rfl rfl hd3_signAt ⟨Nat.le_of_ble_eq_true rfl, Nat.le_of_ble_eq_true rfl⟩) (rPreV hK hP (ci := 3) (q := (RX3, TX3, 2)) rfl rfl) rfl rfl hl.1 rfl (lv_room (Nat.le_of_ble_eq_true rfl)) dX3_fitsBehindHead_14 ⟨(Nat.zero_le _), (Nat.zero_le _)⟩) ?_
  by_cases c5 : q4 = (98 : Int32)
  · have hF := ite_t c5 hF
    refine lv_lookup (tgt := 52) (off := 35) hx hb dX3_fitsBehindHead_17 (by decide) (by rw [c5]; decide) (by decide) ?_
    refine lv_iload_n hx hb dX3_fitsBehindHead_52 rfl (lv_at hl 0 rfl) ?_
    refine lv_iconst hx hb dX3_fitsBehindHead_53 kc_iconst_1 ?_
    refine lv_icmp_lt (tgt := 67) hx hb dX3_fitsBehindHead_54 (by decide) (fun c6 => ?_) (fun c6 => ?_)
    · rw [if_pos c6] at hF
      refine lv_iconst hx hb dX3_fitsBehindHead_67 kc_iconst_0 ?_
      exact rretz (by decide) hF hx hb hr hlocks dX3_fitsBehindHead_68
    · rw [if_neg c6] at hF
      refine lv_iload_n hx hb dX3_fitsBehindHead_57 rfl (lv_at hl 0 rfl) ?_
      refine lv_bipush hx hb dX3_fitsBehindHead_58 kc_bipush_40 ?_
      refine lv_icmp_gt (tgt := 67) hx hb dX3_fitsBehindHead_60 (by decide) (fun c7 => ?_) (fun c7 => ?_)
      · rw [if_pos c7] at hF
        refine lv_iconst hx hb dX3_fitsBehindHead_67 kc_iconst_0 ?_
        exact rretz (by decide) hF hx hb hr hlocks dX3_fitsBehindHead_68
      · rw [if_neg c7] at hF
        refine lv_iconst hx hb dX3_fitsBehindHead_63 kc_iconst_1 ?_
        refine lv_goto (tgt := 68) hx hb dX3_fitsBehindHead_64 (by decide) ?_
        exact rretz (by decide) hF hx hb hr hlocks dX3_fitsBehindHead_68
  have hF := ite_f c5 hF
  by_cases c8 : q4 = (118 : Int32)
  · have hF := ite_t c8 hF
    refine lv_lookup (tgt := 87) (off := 70) hx hb dX3_fitsBehindHead_17 (by decide) (by rw [c8]; decide) (by decide) ?_
    refine lv_iload_n hx hb dX3_fitsBehindHead_87 rfl (lv_at hl 3 rfl) ?_
    refine lv_iload_n hx hb dX3_fitsBehindHead_88 rfl (lv_at hl 2 rfl) ?_
    refine lv_isub hx hb dX3_fitsBehindHead_89 ?_
    refine lv_bipush hx hb dX3_fitsBehindHead_90 kc_bipush_14 ?_
    refine lv_icmp_ge (tgt := 99) hx hb dX3_fitsBehindHead_92 (by decide) (fun c9 => ?_) (fun c9 => ?_)
    · rw [if_pos c9] at hF
      refine lv_iconst hx hb dX3_fitsBehindHead_99 kc_iconst_0 ?_
      exact rretz (by decide) hF hx hb hr hlocks dX3_fitsBehindHead_100
    · rw [if_neg c9] at hF
      refine lv_iconst hx hb dX3_fitsBehindHead_95 kc_iconst_1 ?_
      refine lv_goto (tgt := 100) hx hb dX3_fitsBehindHead_96 (by decide) ?_
      exact rretz (by decide) hF hx hb hr hlocks dX3_fitsBehindHead_100
  have hF := ite_f c8 hF
  by_cases c10 : q4 = (119 : Int32)
  · have hF := ite_t c10 hF
    refine lv_lookup (tgt := 69) (off := 52) hx hb dX3_fitsBehindHead_17 (by decide) (by rw [c10]; decide) (by decide) ?_
    refine lv_iload_n hx hb dX3_fitsBehindHead_69 rfl (lv_at hl 0 rfl) ?_
    refine lv_iconst hx hb dX3_fitsBehindHead_70 kc_iconst_1 ?_
    refine lv_icmp_lt (tgt := 85) hx hb dX3_fitsBehindHead_71 (by decide) (fun c11 => ?_) (fun c11 => ?_)
    · rw [if_pos c11] at hF
      refine lv_iconst hx hb dX3_fitsBehindHead_85 kc_iconst_0 ?_
      exact rretz (by decide) hF hx hb hr hlocks dX3_fitsBehindHead_86
    · rw [if_neg c11] at hF
      refine lv_iload_n hx hb dX3_fitsBehindHead_74 rfl (lv_at hl 0 rfl) ?_
      refine lv_sipush hx hb dX3_fitsBehindHead_75 kc_sipush_999 ?_
      refine lv_icmp_gt (tgt := 85) hx hb dX3_fitsBehindHead_78 (by decide) (fun c12 => ?_) (fun c12 => ?_)
      · rw [if_pos c12] at hF
        refine lv_iconst hx hb dX3_fitsBehindHead_85 kc_iconst_0 ?_
        exact rretz (by decide) hF hx hb hr hlocks dX3_fitsBehindHead_86
      · rw [if_neg c12] at hF
        refine lv_iconst hx hb dX3_fitsBehindHead_81 kc_iconst_1 ?_
        refine lv_goto (tgt := 86) hx hb dX3_fitsBehindHead_82 (by decide) ?_
        exact rretz (by decide) hF hx hb hr hlocks dX3_fitsBehindHead_86
  have hF := ite_f c10 hF
  refine lv_lookup (tgt := 101) (off := 84) hx hb dX3_fitsBehindHead_17 (by decide) (by show Op.lookupswitch.offset [(98, 35), (118, 70), (119, 52)] (84) _ = _; rw [lv_osw c5 (show (98 : Int32).toInt = 98 by decide), lv_osw c8 (show (118 : Int32).toInt = 118 by decide), lv_osw c10 (show (119 : Int32).toInt = 119 by decide)]; rfl) (by decide) ?_
  refine lv_iconst hx hb dX3_fitsBehindHead_101 kc_iconst_0 ?_
  exact rretz (by decide) hF hx hb hr hlocks dX3_fitsBehindHead_102
abbrev rm3_fits : Room := { frames := 3, cells := 0, slots := 0, locals := 68 }
theorem hd3_fits : yX3_fits.cls = RX3 ∧ yX3_fits.cls ≠ "java/lang/invoke/MethodHandle" ∧ yX3_fits.cls ≠ "java/lang/invoke/VarHandle" ∧ (parseMethodDescriptor yX3_fits.desc).map (fun d => d.parameters.length) = some 2 := by decide +kernel
set_option maxHeartbeats 4000000 in
set_option maxRecDepth 100000 in
theorem K3_fits (l : Launch) (D : va_G) (cI cZ cS cJ : ClassId) (aO aT : Nat) (ol : Int32) (oS : Nat → Int32) (x1 : Int32) (x2 : Int32) (r : Int32) (hF : f3_fits ol oS x1 x2 = some (r)) : Met l yX3_fits wsX3_fits rm3_fits (rP D (gT cI cZ cS cJ) (W3 cI aO aT ol oS) [.ref aO, .int x1, .int x2]) (rQ (.int r)) 0 0 (fun _ => False) := by
  refine Met.ofW (cc := cX3_fits) (maxL := 5) (ret := (some .boolean)) (by decide) rfl ?_
  intro p e s m args below meth c s₁ B hml hv
  obtain ⟨ha, hK, hP⟩ := hv
  have hx := B.exec
  have hb := B.bytes
  have hr := B.returns
  have hlocks := B.notSynchronized
  have hts : ∀ w ∈ lw_all, w.before args s = true := fun w h => atoms_spec (ws := wsX3_fits) B.pre w (List.mem_cons_of_mem _ h)
  have hown : s.vm.findClass RX3 = some m.cls := findClass_of_methodNamed B.named
  have S : CallFix p m c cX3_fits 5 s args lw_all RX3 := ⟨hx, hb, hml, hown, hts⟩
  have hl := lv_entry ([.ref aO, .int x1, .int x2] : List Value) (n := 5) (Nat.le_of_ble_eq_true rfl)
  refine W.eq (g2 := F0 m 0 ((lg_sl ([.ref aO, .int x1, .int x2] : List Value) ++ List.replicate (5 - (lg_sl ([.ref aO, .int x1, .int x2] : List Value)).length) Slot.unset).toArray) []) (by rw [ha]; exact lg_entry_eq _ _ _) ?_
  generalize (lg_sl ([.ref aO, .int x1, .int x2] : List Value) ++ List.replicate (5 - (lg_sl ([.ref aO, .int x1, .int x2] : List Value)).length) Slot.unset).toArray = ls at hl ⊢
  have hl : lv_has ls 5 [(0, .ref aO), (1, .int x1), (2, .int x2)] := hl
  rw [f3_fits] at hF
  show rW p l e wsX3_fits rm3_fits s m args below meth c (.int r) (F0 m 0 ls [])
  refine lv_aload_n hx hb dX3_fits_0 rfl (lv_at hl 0 rfl) ?_
  refine lv_iload_n hx hb dX3_fits_1 rfl (lv_at hl 2 rfl) ?_
  obtain ⟨q2, h1, hF⟩ := bd1_at hF
  refine rcall (va_runV (As := [.int x2]) (rest := []) S (K3_signAt l D cI cZ cS cJ aO aT ol oS x2 q2 h1) (cwV 1 hts (gd_V wd_523 wd_524 wd_525 wd_27 wd_526) rfl rfl rfl hd3_signAt ⟨Nat.le_of_ble_eq_true rfl, Nat.le_of_ble_eq_true rfl⟩) (rPreV hK hP (ci := 3) (q := (RX3, TX3, 2)) rfl rfl) rfl rfl hl.1 rfl (lv_room (Nat.le_of_ble_eq_true rfl)) dX3_fits_2 ⟨(Nat.zero_le _), (Nat.zero_le _)⟩) ?_
  refine lv_istore_n (lv' := [(3, .int q2), (0, .ref aO), (1, .int x1), (2, .int x2)]) hx hb dX3_fits_5 rfl hl (by decide) rfl (fun ls hl => ?_)
  refine lv_iload_n hx hb dX3_fits_6 rfl (lv_at hl 3 rfl) ?_
  refine lv_iload_n hx hb dX3_fits_7 rfl (lv_at hl 2 rfl) ?_
  refine lv_isub hx hb dX3_fits_8 ?_
  refine lv_istore (lv' := [(4, .int (x2 - x1)), (3, .int q2), (0, .ref aO), (1, .int x1), (2, .int x2)]) hx hb dX3_fits_9 hl (by decide) rfl (fun ls hl => ?_)
  refine lv_iload_n hx hb dX3_fits_11 rfl (lv_at hl 1 rfl) ?_
  refine lv_bipush hx hb dX3_fits_12 kc_bipush_59 ?_
  refine lv_icmp_ne (tgt := 24) hx hb dX3_fits_14 (by decide) (fun c3 => ?_) (fun c3 => ?_)
  · have hF := ite_f c3 hF
    refine lv_iload hx hb dX3_fits_24 (lv_at hl 0 rfl) ?_
    refine lv_if_ne (tgt := 59) hx hb dX3_fits_26 (by decide) (fun c4 => ?_) (fun c4 => ?_)
    · have hF := ite_f c4 hF
      refine lv_iload hx hb dX3_fits_59 (lv_at hl 0 rfl) ?_
      refine lv_bipush hx hb dX3_fits_61 kc_bipush_6 ?_
      refine lv_icmp_gt (tgt := 71) hx hb dX3_fits_63 (by decide) (fun c5 => ?_) (fun c5 => ?_)
      · have hF := ite_t c5 hF
        refine lv_iload hx hb dX3_fits_71 (lv_at hl 0 rfl) ?_
        refine lv_bipush hx hb dX3_fits_73 kc_bipush_8 ?_
        refine lv_icmp_ge (tgt := 88) hx hb dX3_fits_75 (by decide) (fun c6 => ?_) (fun c6 => ?_)
        · have hF := ite_t c6 hF
          refine lv_iload_n hx hb dX3_fits_88 rfl (lv_at hl 1 rfl) ?_
          obtain ⟨q8, h7, hF⟩ := bd1_at hF
          refine rcall (va_runS (As := [.int q2]) (rest := []) S (K3_isDigit l D cI cZ cS cJ q2 q8 h7) (va_cwS 1 hts (gd_S wd_531 wd_532 wd_27 wd_533) rfl rfl rfl hdn3_isDigit ⟨Nat.le_of_ble_eq_true rfl, Nat.le_of_ble_eq_true rfl⟩) (rPreS hK (hP.sub (ws' := ([] : va_W)) [] rfl)) rfl rfl hl.1 rfl (lv_room (Nat.le_of_ble_eq_true rfl)) dX3_fits_89 ⟨(Nat.zero_le _), (Nat.zero_le _)⟩) ?_
          refine lv_if_eq (tgt := 108) hx hb dX3_fits_92 (by decide) (fun c9 => ?_) (fun c9 => ?_)
          · have hF := ite_t c9 hF
            refine lv_iconst hx hb dX3_fits_108 kc_iconst_0 ?_
            exact rretz (by decide) hF hx hb hr hlocks dX3_fits_109
          · have hF := ite_f c9 hF
            refine lv_aload_n hx hb dX3_fits_95 rfl (lv_at hl 2 rfl) ?_
            refine lv_iload_n hx hb dX3_fits_96 rfl (lv_at hl 3 rfl) ?_
            refine lv_iload_n hx hb dX3_fits_97 rfl (lv_at hl 4 rfl) ?_
            obtain ⟨q11, h10, hF⟩ := bd1_at hF
            refine rcall (va_runV (As := [.int x1, .int x2]) (rest := []) S (K3_fitsBehindHead l D cI cZ cS cJ aO aT ol oS x1 x2 q11 h10) (cwV 2 hts (gd_V wd_537 wd_539 wd_13 wd_27 wd_540) rfl rfl rfl hd3_fitsBehindHead ⟨Nat.le_of_ble_eq_true rfl, Nat.le_of_ble_eq_true rfl⟩) (rPreV hK hP (ci := 3) (q := (RX3, TX3, 2)) rfl rfl) rfl rfl hl.1 rfl (lv_room (Nat.le_of_ble_eq_true rfl)) dX3_fits_98 ⟨(Nat.zero_le _), (Nat.zero_le _)⟩) ?_
            refine lv_if_eq (tgt := 108) hx hb dX3_fits_101 (by decide) (fun c12 => ?_) (fun c12 => ?_)
            · rw [if_pos c12] at hF
              refine lv_iconst hx hb dX3_fits_108 kc_iconst_0 ?_
              exact rretz (by decide) hF hx hb hr hlocks dX3_fits_109
            · rw [if_neg c12] at hF
              refine lv_iconst hx hb dX3_fits_104 kc_iconst_1 ?_
              refine lv_goto (tgt := 109) hx hb dX3_fits_105 (by decide) ?_
              exact rretz (by decide) hF hx hb hr hlocks dX3_fits_109
        · have hF := ite_f c6 hF
          refine lv_aload_n hx hb dX3_fits_78 rfl (lv_at hl 2 rfl) ?_
          refine lv_iload_n hx hb dX3_fits_79 rfl (lv_at hl 3 rfl) ?_
          obtain ⟨q14, h13, hF⟩ := bd1_at hF
          refine rcall (va_runV (As := [.int x1]) (rest := []) S (K3_signAt l D cI cZ cS cJ aO aT ol oS x1 q14 h13) (cwV 1 hts (gd_V wd_523 wd_524 wd_525 wd_27 wd_526) rfl rfl rfl hd3_signAt ⟨Nat.le_of_ble_eq_true rfl, Nat.le_of_ble_eq_true rfl⟩) (rPreV hK hP (ci := 3) (q := (RX3, TX3, 2)) rfl rfl) rfl rfl hl.1 rfl (lv_room (Nat.le_of_ble_eq_true rfl)) dX3_fits_80 ⟨(Nat.zero_le _), (Nat.zero_le _)⟩) ?_
          refine lv_iload_n hx hb dX3_fits_83 rfl (lv_at hl 1 rfl) ?_
          obtain ⟨q16, h15, hF⟩ := bd1_at hF
          refine rcall (va_runS (As := [.int q14, .int q2]) (rest := []) S (K3_endsHead l D cI cZ cS cJ q14 q2 q16 h15) (va_cwS 2 hts (gd_S wd_534 wd_535 wd_27 wd_536) rfl rfl rfl hdn3_endsHead ⟨Nat.le_of_ble_eq_true rfl, Nat.le_of_ble_eq_true rfl⟩) (rPreS hK (hP.sub (ws' := ([] : va_W)) [] rfl)) rfl rfl hl.1 rfl (lv_room (Nat.le_of_ble_eq_true rfl)) dX3_fits_84 ⟨(Nat.zero_le _), (Nat.zero_le _)⟩) ?_
          obtain ⟨hz, hF⟩ := gd_at hF
          exact rretz hz hF hx hb hr hlocks dX3_fits_87
      · have hF := ite_f c5 hF
        refine lv_iload_n hx hb dX3_fits_66 rfl (lv_at hl 1 rfl) ?_
        obtain ⟨q18, h17, hF⟩ := bd1_at hF
        refine rcall (va_runS (As := [.int q2]) (rest := []) S (K3_isDigit l D cI cZ cS cJ q2 q18 h17) (va_cwS 1 hts (gd_S wd_531 wd_532 wd_27 wd_533) rfl rfl rfl hdn3_isDigit ⟨Nat.le_of_ble_eq_true rfl, Nat.le_of_ble_eq_true rfl⟩) (rPreS hK (hP.sub (ws' := ([] : va_W)) [] rfl)) rfl rfl hl.1 rfl (lv_room (Nat.le_of_ble_eq_true rfl)) dX3_fits_67 ⟨(Nat.zero_le _), (Nat.zero_le _)⟩) ?_
        obtain ⟨hz, hF⟩ := gd_at hF
        exact rretz hz hF hx hb hr hlocks dX3_fits_70
    · have hF := ite_t c4 hF
      refine lv_iload_n hx hb dX3_fits_29 rfl (lv_at hl 1 rfl) ?_
      refine lv_bipush hx hb dX3_fits_30 kc_bipush_98 ?_
      refine lv_icmp_eq (tgt := 53) hx hb dX3_fits_32 (by decide) (fun c19 => ?_) (fun c19 => ?_)
      · rw [if_pos c19] at hF
        refine lv_iconst hx hb dX3_fits_53 kc_iconst_1 ?_
        refine lv_goto (tgt := 58) hx hb dX3_fits_54 (by decide) ?_
        exact rretz (by decide) hF hx hb hr hlocks dX3_fits_58
      · rw [if_neg c19] at hF
        refine lv_iload_n hx hb dX3_fits_35 rfl (lv_at hl 1 rfl) ?_
        refine lv_bipush hx hb dX3_fits_36 kc_bipush_119 ?_
        refine lv_icmp_eq (tgt := 53) hx hb dX3_fits_38 (by decide) (fun c20 => ?_) (fun c20 => ?_)
        · rw [if_pos c20] at hF
          refine lv_iconst hx hb dX3_fits_53 kc_iconst_1 ?_
          refine lv_goto (tgt := 58) hx hb dX3_fits_54 (by decide) ?_
          exact rretz (by decide) hF hx hb hr hlocks dX3_fits_58
        · rw [if_neg c20] at hF
          refine lv_iload_n hx hb dX3_fits_41 rfl (lv_at hl 1 rfl) ?_
          refine lv_bipush hx hb dX3_fits_42 kc_bipush_99 ?_
          refine lv_icmp_eq (tgt := 53) hx hb dX3_fits_44 (by decide) (fun c21 => ?_) (fun c21 => ?_)
          · rw [if_pos c21] at hF
            refine lv_iconst hx hb dX3_fits_53 kc_iconst_1 ?_
            refine lv_goto (tgt := 58) hx hb dX3_fits_54 (by decide) ?_
            exact rretz (by decide) hF hx hb hr hlocks dX3_fits_58
          · rw [if_neg c21] at hF
            refine lv_iload_n hx hb dX3_fits_47 rfl (lv_at hl 1 rfl) ?_
            refine lv_bipush hx hb dX3_fits_48 kc_bipush_118 ?_
            refine lv_icmp_ne (tgt := 57) hx hb dX3_fits_50 (by decide) (fun c22 => ?_) (fun c22 => ?_)
            · rw [if_neg c22] at hF
              refine lv_iconst hx hb dX3_fits_57 kc_iconst_0 ?_
              exact rretz (by decide) hF hx hb hr hlocks dX3_fits_58
            · rw [if_pos c22] at hF
              refine lv_iconst hx hb dX3_fits_53 kc_iconst_1 ?_
              refine lv_goto (tgt := 58) hx hb dX3_fits_54 (by decide) ?_
              exact rretz (by decide) hF hx hb hr hlocks dX3_fits_58
  · have hF := ite_t c3 hF
    refine lv_aload_n hx hb dX3_fits_17 rfl (lv_at hl 2 rfl) ?_
    refine lv_iload_n hx hb dX3_fits_18 rfl (lv_at hl 3 rfl) ?_
    refine lv_iload_n hx hb dX3_fits_19 rfl (lv_at hl 4 rfl) ?_
    obtain ⟨q24, h23, hF⟩ := bd1_at hF
    refine rcall (va_runV (As := [.int x1, .int x2]) (rest := []) S (K3_isWhole l D cI cZ cS cJ aO aT ol oS x1 x2 q24 h23) (cwV 2 hts (gd_V wd_527 wd_529 wd_12 wd_27 wd_530) rfl rfl rfl hd3_isWhole ⟨Nat.le_of_ble_eq_true rfl, Nat.le_of_ble_eq_true rfl⟩) (rPreV hK hP (ci := 3) (q := (RX3, TX3, 2)) rfl rfl) rfl rfl hl.1 rfl (lv_room (Nat.le_of_ble_eq_true rfl)) dX3_fits_20 ⟨(Nat.zero_le _), (Nat.zero_le _)⟩) ?_
    obtain ⟨hz, hF⟩ := gd_at hF
    exact rretz hz hF hx hb hr hlocks dX3_fits_23
abbrev rm3_errorIndex : Room := { frames := 4, cells := 0, slots := 0, locals := 92 }
theorem hd3_errorIndex : yX3_errorIndex.cls = RX3 ∧ yX3_errorIndex.cls ≠ "java/lang/invoke/MethodHandle" ∧ yX3_errorIndex.cls ≠ "java/lang/invoke/VarHandle" ∧ (parseMethodDescriptor yX3_errorIndex.desc).map (fun d => d.parameters.length) = some 0 := by decide +kernel
set_option maxHeartbeats 4000000 in
set_option maxRecDepth 100000 in
theorem K3_errorIndex (l : Launch) (D : va_G) (cI cZ cS cJ : ClassId) (aO aT : Nat) (ol : Int32) (oS : Nat → Int32) (r : Int32) (hF : f3_errorIndex ol oS = some (r)) : Met l yX3_errorIndex wsX3_errorIndex rm3_errorIndex (rP D (gT cI cZ cS cJ) (W3 cI aO aT ol oS) [.ref aO]) (rQ (.int r)) 0 0 (fun _ => False) := by
  refine Met.ofW (cc := cX3_errorIndex) (maxL := 3) (ret := (some .int)) (by decide) rfl ?_
  intro p e s m args below meth c s₁ B hml hv
  obtain ⟨ha, hK, hP⟩ := hv
  have hx := B.exec
  have hb := B.bytes
  have hr := B.returns
  have hlocks := B.notSynchronized
  have hts : ∀ w ∈ lw_all, w.before args s = true := fun w h => atoms_spec (ws := wsX3_errorIndex) B.pre w (List.mem_cons_of_mem _ h)
  have hown : s.vm.findClass RX3 = some m.cls := findClass_of_methodNamed B.named
  have S : CallFix p m c cX3_errorIndex 3 s args lw_all RX3 := ⟨hx, hb, hml, hown, hts⟩
  have hl := lv_entry ([.ref aO] : List Value) (n := 3) (Nat.le_of_ble_eq_true rfl)
  refine W.eq (g2 := F0 m 0 ((lg_sl ([.ref aO] : List Value) ++ List.replicate (3 - (lg_sl ([.ref aO] : List Value)).length) Slot.unset).toArray) []) (by rw [ha]; exact lg_entry_eq _ _ _) ?_
  generalize (lg_sl ([.ref aO] : List Value) ++ List.replicate (3 - (lg_sl ([.ref aO] : List Value)).length) Slot.unset).toArray = ls at hl ⊢
  have hl : lv_has ls 3 [(0, .ref aO)] := hl
  clear ha
  have W_4 : ∀  (n : Nat) (x1 : Int32) (x2 : Int32), ∀ (ls : Array Slot), lv_has ls 3 [(0, .ref aO), (1, .int x1), (2, .int x2)] → f3_errorIndex_l4 ol oS n x1 x2 = some (r) → rW p l e wsX3_errorIndex rm3_errorIndex s m args below meth c (.int r) (F0 m 4 ls []) := by
    intro   n
    induction n with
    | zero =>
      intro x1 x2 ls hl hF
      rw [f3_errorIndex_l4] at hF
      cases hF
    | succ n ih =>
      intro x1 x2 ls hl hF
      rw [f3_errorIndex_l4] at hF
      refine lv_iload_n hx hb dX3_errorIndex_4 rfl (lv_at hl 2 rfl) ?_
      refine lv_aload_n hx hb dX3_errorIndex_5 rfl (lv_at hl 0 rfl) ?_
      refine va_get (D := D) (ci := 3) (v := .int ol) (C := RX3) (T := TX3) (N := 2) hx hb hts i_X3 hown hK.1 hP 0 rfl rfl 1 (by decide) (hts _ wd_132) (fun _ h9 => h9) rfl dX3_errorIndex_6 ?_
      refine lv_icmp_ge (tgt := 43) hx hb dX3_errorIndex_9 (by decide) (fun c1 => ?_) (fun c1 => ?_)
      · have hF := ite_t c1 hF
        refine lv_aload_n hx hb dX3_errorIndex_43 rfl (lv_at hl 0 rfl) ?_
        refine va_get (D := D) (ci := 3) (v := .int ol) (C := RX3) (T := TX3) (N := 2) hx hb hts i_X3 hown hK.1 hP 0 rfl rfl 1 (by decide) (hts _ wd_132) (fun _ h9 => h9) rfl dX3_errorIndex_44 ?_
        exact rret hF hx hb hr hlocks dX3_errorIndex_47
      · have hF := ite_f c1 hF
        refine lv_aload_n hx hb dX3_errorIndex_12 rfl (lv_at hl 0 rfl) ?_
        refine lv_iload_n hx hb dX3_errorIndex_13 rfl (lv_at hl 1 rfl) ?_
        refine lv_iload_n hx hb dX3_errorIndex_14 rfl (lv_at hl 2 rfl) ?_
        obtain ⟨q3, h2, hF⟩ := bd1_at hF
        refine rcall (va_runV (As := [.int x1, .int x2]) (rest := []) S (K3_fits l D cI cZ cS cJ aO aT ol oS x1 x2 q3 h2) (cwV 2 hts (gd_V wd_519 wd_521 wd_11 wd_27 wd_522) rfl rfl rfl hd3_fits ⟨Nat.le_of_ble_eq_true rfl, Nat.le_of_ble_eq_true rfl⟩) (rPreV hK hP (ci := 3) (q := (RX3, TX3, 2)) rfl rfl) rfl rfl hl.1 rfl (lv_room (Nat.le_of_ble_eq_true rfl)) dX3_errorIndex_15 ⟨(Nat.zero_le _), (Nat.zero_le _)⟩) ?_
        refine lv_if_ne (tgt := 23) hx hb dX3_errorIndex_18 (by decide) (fun c4 => ?_) (fun c4 => ?_)
        · have hF := ite_f c4 hF
          refine lv_aload_n hx hb dX3_errorIndex_23 rfl (lv_at hl 0 rfl) ?_
          refine lv_iload_n hx hb dX3_errorIndex_24 rfl (lv_at hl 2 rfl) ?_
          obtain ⟨q6, h5, hF⟩ := bd1_at hF
          refine rcall (va_runV (As := [.int x2]) (rest := []) S (K3_signAt l D cI cZ cS cJ aO aT ol oS x2 q6 h5) (cwV 1 hts (gd_V wd_523 wd_524 wd_525 wd_27 wd_526) rfl rfl rfl hd3_signAt ⟨Nat.le_of_ble_eq_true rfl, Nat.le_of_ble_eq_true rfl⟩) (rPreV hK hP (ci := 3) (q := (RX3, TX3, 2)) rfl rfl) rfl rfl hl.1 rfl (lv_room (Nat.le_of_ble_eq_true rfl)) dX3_errorIndex_25 ⟨(Nat.zero_le _), (Nat.zero_le _)⟩) ?_
          refine lv_bipush hx hb dX3_errorIndex_28 kc_bipush_59 ?_
          refine lv_icmp_ne (tgt := 37) hx hb dX3_errorIndex_30 (by decide) (fun c7 => ?_) (fun c7 => ?_)
          · rw [if_neg c7] at hF
            refine lv_iinc (v := (x2 + 1)) (lv' := [(2, .int (x2 + 1)), (0, .ref aO), (1, .int x1)]) hx hb dX3_errorIndex_37 hl (k := 2) rfl rfl (by decide) rfl (fun ls hl => ?_)
            refine lv_goto (tgt := 4) hx hb dX3_errorIndex_40 (by decide) ?_
            exact ih x1 (x2 + 1) ls (lv_sub hl [1, 2, 0] rfl) hF
          · rw [if_pos c7] at hF
            refine lv_iload_n hx hb dX3_errorIndex_33 rfl (lv_at hl 2 rfl) ?_
            refine lv_iconst hx hb dX3_errorIndex_34 kc_iconst_1 ?_
            refine lv_iadd hx hb dX3_errorIndex_35 ?_
            refine lv_istore_n (lv' := [(1, .int (x2 + (1 : Int32))), (0, .ref aO), (2, .int x2)]) hx hb dX3_errorIndex_36 rfl hl (by decide) rfl (fun ls hl => ?_)
            refine lv_iinc (v := (x2 + 1)) (lv' := [(2, .int (x2 + 1)), (1, .int (x2 + (1 : Int32))), (0, .ref aO)]) hx hb dX3_errorIndex_37 hl (k := 2) rfl rfl (by decide) rfl (fun ls hl => ?_)
            refine lv_goto (tgt := 4) hx hb dX3_errorIndex_40 (by decide) ?_
            exact ih (x2 + (1 : Int32)) (x2 + 1) ls (lv_sub hl [2, 1, 0] rfl) hF
        · have hF := ite_t c4 hF
          refine lv_iload_n hx hb dX3_errorIndex_21 rfl (lv_at hl 2 rfl) ?_
          exact rret hF hx hb hr hlocks dX3_errorIndex_22
  rw [f3_errorIndex] at hF
  show rW p l e wsX3_errorIndex rm3_errorIndex s m args below meth c (.int r) (F0 m 0 ls [])
  refine lv_iconst hx hb dX3_errorIndex_0 kc_iconst_0 ?_
  refine lv_istore_n (lv' := [(1, .int (0 : Int32)), (0, .ref aO)]) hx hb dX3_errorIndex_1 rfl hl (by decide) rfl (fun ls hl => ?_)
  refine lv_iconst hx hb dX3_errorIndex_2 kc_iconst_0 ?_
  refine lv_istore_n (lv' := [(2, .int (0 : Int32)), (1, .int (0 : Int32)), (0, .ref aO)]) hx hb dX3_errorIndex_3 rfl hl (by decide) rfl (fun ls hl => ?_)
  exact W_4   fu (0 : Int32) (0 : Int32) ls (lv_sub hl [2, 1, 0] rfl) hF
abbrev rm3_isComplete : Room := { frames := 5, cells := 0, slots := 0, locals := 114 }
theorem hd3_isComplete : yX3_isComplete.cls = RX3 ∧ yX3_isComplete.cls ≠ "java/lang/invoke/MethodHandle" ∧ yX3_isComplete.cls ≠ "java/lang/invoke/VarHandle" ∧ (parseMethodDescriptor yX3_isComplete.desc).map (fun d => d.parameters.length) = some 0 := by decide +kernel
set_option maxHeartbeats 4000000 in
set_option maxRecDepth 100000 in
theorem K3_isComplete (l : Launch) (D : va_G) (cI cZ cS cJ : ClassId) (aO aT : Nat) (ol : Int32) (oS : Nat → Int32) (r : Int32) (hF : f3_isComplete ol oS = some (r)) : Met l yX3_isComplete wsX3_isComplete rm3_isComplete (rP D (gT cI cZ cS cJ) (W3 cI aO aT ol oS) [.ref aO]) (rQ (.int r)) 0 0 (fun _ => False) := by
  refine Met.ofW (cc := cX3_isComplete) (maxL := 3) (ret := (some .boolean)) (by decide) rfl ?_
  intro p e s m args below meth c s₁ B hml hv
  obtain ⟨ha, hK, hP⟩ := hv
  have hx := B.exec
  have hb := B.bytes
  have hr := B.returns
  have hlocks := B.notSynchronized
  have hts : ∀ w ∈ lw_all, w.before args s = true := fun w h => atoms_spec (ws := wsX3_isComplete) B.pre w (List.mem_cons_of_mem _ h)
  have hown : s.vm.findClass RX3 = some m.cls := findClass_of_methodNamed B.named
  have S : CallFix p m c cX3_isComplete 3 s args lw_all RX3 := ⟨hx, hb, hml, hown, hts⟩
  have hl := lv_entry ([.ref aO] : List Value) (n := 3) (Nat.le_of_ble_eq_true rfl)
  refine W.eq (g2 := F0 m 0 ((lg_sl ([.ref aO] : List Value) ++ List.replicate (3 - (lg_sl ([.ref aO] : List Value)).length) Slot.unset).toArray) []) (by rw [ha]; exact lg_entry_eq _ _ _) ?_
  generalize (lg_sl ([.ref aO] : List Value) ++ List.replicate (3 - (lg_sl ([.ref aO] : List Value)).length) Slot.unset).toArray = ls at hl ⊢
  have hl : lv_has ls 3 [(0, .ref aO)] := hl
  clear ha
  have W_17 : ∀  (n : Nat) (x1 : Int32) (x2 : Int32), ∀ (ls : Array Slot), lv_has ls 3 [(0, .ref aO), (1, .int x1), (2, .int x2)] → f3_isComplete_l17 ol oS n x1 x2 = some (r) → rW p l e wsX3_isComplete rm3_isComplete s m args below meth c (.int r) (F0 m 17 ls []) := by
    intro   n
    induction n with
    | zero =>
      intro x1 x2 ls hl hF
      rw [f3_isComplete_l17] at hF
      cases hF
    | succ n ih =>
      intro x1 x2 ls hl hF
      rw [f3_isComplete_l17] at hF
      refine lv_iload_n hx hb dX3_isComplete_17 rfl (lv_at hl 2 rfl) ?_
      refine lv_aload_n hx hb dX3_isComplete_18 rfl (lv_at hl 0 rfl) ?_
      refine va_get (D := D) (ci := 3) (v := .int ol) (C := RX3) (T := TX3) (N := 2) hx hb hts i_X3 hown hK.1 hP 0 rfl rfl 1 (by decide) (hts _ wd_132) (fun _ h9 => h9) rfl dX3_isComplete_19 ?_
      refine lv_icmp_ge (tgt := 45) hx hb dX3_isComplete_22 (by decide) (fun c4 => ?_) (fun c4 => ?_)
      · have hF := ite_t c4 hF
        refine lv_aload_n hx hb dX3_isComplete_45 rfl (lv_at hl 0 rfl) ?_
        refine lv_iload_n hx hb dX3_isComplete_46 rfl (lv_at hl 1 rfl) ?_
        refine lv_aload_n hx hb dX3_isComplete_47 rfl (lv_at hl 0 rfl) ?_
        refine va_get (D := D) (ci := 3) (v := .int ol) (C := RX3) (T := TX3) (N := 2) hx hb hts i_X3 hown hK.1 hP 0 rfl rfl 1 (by decide) (hts _ wd_132) (fun _ h9 => h9) rfl dX3_isComplete_48 ?_
        obtain ⟨q6, h5, hF⟩ := bd1_at hF
        refine rcall (va_runV (As := [.int x1, .int ol]) (rest := []) S (K3_isWhole l D cI cZ cS cJ aO aT ol oS x1 ol q6 h5) (cwV 2 hts (gd_V wd_527 wd_529 wd_12 wd_27 wd_530) rfl rfl rfl hd3_isWhole ⟨Nat.le_of_ble_eq_true rfl, Nat.le_of_ble_eq_true rfl⟩) (rPreV hK hP (ci := 3) (q := (RX3, TX3, 2)) rfl rfl) rfl rfl hl.1 rfl (lv_room (Nat.le_of_ble_eq_true rfl)) dX3_isComplete_51 ⟨(Nat.zero_le _), (Nat.zero_le _)⟩) ?_
        obtain ⟨hz, hF⟩ := gd_at hF
        exact rretz hz hF hx hb hr hlocks dX3_isComplete_54
      · have hF := ite_f c4 hF
        refine lv_aload_n hx hb dX3_isComplete_25 rfl (lv_at hl 0 rfl) ?_
        refine lv_iload_n hx hb dX3_isComplete_26 rfl (lv_at hl 2 rfl) ?_
        obtain ⟨q8, h7, hF⟩ := bd1_at hF
        refine rcall (va_runV (As := [.int x2]) (rest := []) S (K3_signAt l D cI cZ cS cJ aO aT ol oS x2 q8 h7) (cwV 1 hts (gd_V wd_523 wd_524 wd_525 wd_27 wd_526) rfl rfl rfl hd3_signAt ⟨Nat.le_of_ble_eq_true rfl, Nat.le_of_ble_eq_true rfl⟩) (rPreV hK hP (ci := 3) (q := (RX3, TX3, 2)) rfl rfl) rfl rfl hl.1 rfl (lv_room (Nat.le_of_ble_eq_true rfl)) dX3_isComplete_27 ⟨(Nat.zero_le _), (Nat.zero_le _)⟩) ?_
        refine lv_bipush hx hb dX3_isComplete_30 kc_bipush_59 ?_
        refine lv_icmp_ne (tgt := 39) hx hb dX3_isComplete_32 (by decide) (fun c9 => ?_) (fun c9 => ?_)
        · rw [if_neg c9] at hF
          refine lv_iinc (v := (x2 + 1)) (lv' := [(2, .int (x2 + 1)), (0, .ref aO), (1, .int x1)]) hx hb dX3_isComplete_39 hl (k := 2) rfl rfl (by decide) rfl (fun ls hl => ?_)
          refine lv_goto (tgt := 17) hx hb dX3_isComplete_42 (by decide) ?_
          exact ih x1 (x2 + 1) ls (lv_sub hl [1, 2, 0] rfl) hF
        · rw [if_pos c9] at hF
          refine lv_iload_n hx hb dX3_isComplete_35 rfl (lv_at hl 2 rfl) ?_
          refine lv_iconst hx hb dX3_isComplete_36 kc_iconst_1 ?_
          refine lv_iadd hx hb dX3_isComplete_37 ?_
          refine lv_istore_n (lv' := [(1, .int (x2 + (1 : Int32))), (0, .ref aO), (2, .int x2)]) hx hb dX3_isComplete_38 rfl hl (by decide) rfl (fun ls hl => ?_)
          refine lv_iinc (v := (x2 + 1)) (lv' := [(2, .int (x2 + 1)), (1, .int (x2 + (1 : Int32))), (0, .ref aO)]) hx hb dX3_isComplete_39 hl (k := 2) rfl rfl (by decide) rfl (fun ls hl => ?_)
          refine lv_goto (tgt := 17) hx hb dX3_isComplete_42 (by decide) ?_
          exact ih (x2 + (1 : Int32)) (x2 + 1) ls (lv_sub hl [2, 1, 0] rfl) hF
  rw [f3_isComplete] at hF
  show rW p l e wsX3_isComplete rm3_isComplete s m args below meth c (.int r) (F0 m 0 ls [])
  refine lv_aload_n hx hb dX3_isComplete_0 rfl (lv_at hl 0 rfl) ?_
  obtain ⟨q2, h1, hF⟩ := bd1_at hF
  refine rcall (va_runV (As := []) (rest := []) S (K3_errorIndex l D cI cZ cS cJ aO aT ol oS q2 h1) (cwV 0 hts (gd_V wd_515 wd_516 wd_517 wd_27 wd_518) rfl rfl rfl hd3_errorIndex ⟨Nat.le_of_ble_eq_true rfl, Nat.le_of_ble_eq_true rfl⟩) (rPreV hK hP (ci := 3) (q := (RX3, TX3, 2)) rfl rfl) rfl rfl hl.1 rfl (lv_room (Nat.le_of_ble_eq_true rfl)) dX3_isComplete_1 ⟨(Nat.zero_le _), (Nat.zero_le _)⟩) ?_
  refine lv_aload_n hx hb dX3_isComplete_4 rfl (lv_at hl 0 rfl) ?_
  refine va_get (D := D) (ci := 3) (v := .int ol) (C := RX3) (T := TX3) (N := 2) hx hb hts i_X3 hown hK.1 hP 0 rfl rfl 1 (by decide) (hts _ wd_132) (fun _ h9 => h9) rfl dX3_isComplete_5 ?_
  refine lv_icmp_ge (tgt := 13) hx hb dX3_isComplete_8 (by decide) (fun c3 => ?_) (fun c3 => ?_)
  · have hF := ite_t c3 hF
    refine lv_iconst hx hb dX3_isComplete_13 kc_iconst_0 ?_
    refine lv_istore_n (lv' := [(1, .int (0 : Int32)), (0, .ref aO)]) hx hb dX3_isComplete_14 rfl hl (by decide) rfl (fun ls hl => ?_)
    refine lv_iconst hx hb dX3_isComplete_15 kc_iconst_0 ?_
    refine lv_istore_n (lv' := [(2, .int (0 : Int32)), (1, .int (0 : Int32)), (0, .ref aO)]) hx hb dX3_isComplete_16 rfl hl (by decide) rfl (fun ls hl => ?_)
    exact W_17   fu (0 : Int32) (0 : Int32) ls (lv_sub hl [2, 1, 0] rfl) hF
  · have hF := ite_f c3 hF
    refine lv_iconst hx hb dX3_isComplete_11 kc_iconst_0 ?_
    exact rretz (by decide) hF hx hb hr hlocks dX3_isComplete_12
