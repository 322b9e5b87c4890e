def f2_weightAt (wW : Nat → Int32) (x1 : Int32) : Option (Int32) :=
  some ((if x1 < 0 then (0 : Int32) else (if (6 : Int32) ≤ x1 then (0 : Int32) else (wW x1.toNatClampNeg))))
def f2_restOf (wm : Int32) (x1 : Int32) : Option (Int32) :=
  if (1 : Int32) ≤ wm then
    if ¬ wm = 0 then
      some ((if 0 ≤ (x1 - x1 / wm * wm) then (x1 - x1 / wm * wm) else ((x1 - x1 / wm * wm) + wm)))
    else none
  else
    some ((0 : Int32))
def f2_letterOf_l7 (wm : Int32) (wW : Nat → Int32) : Nat → Int32 → Int32 → Int32 → Option (Int32)
  | 0, _, _, _ => none
  | n + 1, x2, x3, x4 =>
    if x4 < 0 then
      bd1 (f2_restOf wm x2) (fun q3 =>
        some (q3))
    else
      bd1 (f2_weightAt wW x4) (fun q5 =>
        lt_ (x2 + (q5 * (x3 - x3 / (10 : Int32) * (10 : Int32)))) (fun t6 =>
          (f2_letterOf_l7 wm wW n) t6 (x3 / (10 : Int32)) (x4 + (-1))))
def f2_letterOf (wm : Int32) (wW : Nat → Int32) (x1 : Int32) : Option (Int32) :=
  f2_letterOf_l7 wm wW fu (0 : Int32) x1 (5 : Int32)
def f2_digitAt_l4 (x1 : Int32) : Nat → Int32 → Int32 → Option (Int32)
  | 0, _, _ => none
  | n + 1, x2, x3 =>
    if x3 ≤ x1 then
      some ((x2 - x2 / (10 : Int32) * (10 : Int32)))
    else
      (f2_digitAt_l4 x1 n) (x2 / (10 : Int32)) (x3 + (-1))
def f2_digitAt (x0 : Int32) (x1 : Int32) : Option (Int32) :=
  f2_digitAt_l4 x1 fu x0 (5 : Int32)
def f2_setWeight (wW : Nat → Int32) (x1 : Int32) (x2 : Int32) : Option ((Nat → Int32)) :=
  some ((if x1 < 0 then wW else (if (6 : Int32) ≤ x1 then wW else (upd wW x1.toNatClampNeg x2))))
abbrev rm2_weightAt : Room := { frames := 0, cells := 0, slots := 0, locals := 0 }
theorem hd2_weightAt : yX2_weightAt.cls = RX2 ∧ yX2_weightAt.cls ≠ "java/lang/invoke/MethodHandle" ∧ yX2_weightAt.cls ≠ "java/lang/invoke/VarHandle" ∧ (parseMethodDescriptor yX2_weightAt.desc).map (fun d => d.parameters.length) = some 1 := by decide +kernel
set_option maxHeartbeats 4000000 in
set_option maxRecDepth 100000 in
theorem K2_weightAt (l : Launch) (D : va_G) (cI cZ cS cJ : ClassId) (aL aW : Nat) (wm : Int32) (wW : Nat → Int32) (x1 : Int32) (r : Int32) (hF : f2_weightAt wW x1 = some (r)) : Met l yX2_weightAt wsX2_weightAt rm2_weightAt (rP D (gT cI cZ cS cJ) (W2 cI aL aW wm wW) [.ref aL, .int x1]) (rQ (.int r)) 0 0 (fun _ => False) := by
  refine Met.ofW (cc := cX2_weightAt) (maxL := 2) (ret := (some .int)) (by decide) rfl ?_
  intro p e s m args below meth c s₁ B hml hv
  obtain ⟨ha, hK, hP⟩ := hv
  have hx := B.exec
  have hb := B.bytes
  have hr := B.returns
  have hlocks := B.notSynchronized
  have hts : ∀ w ∈ lw_all, w.before args s = true := fun w h => atoms_spec (ws := wsX2_weightAt) B.pre w (List.mem_cons_of_mem _ h)
  have hown : s.vm.findClass RX2 = some m.cls := findClass_of_methodNamed B.named
  have S : CallFix p m c cX2_weightAt 2 s args lw_all RX2 := ⟨hx, hb, hml, hown, hts⟩
  have hl := lv_entry ([.ref aL, .int x1] : List Value) (n := 2) (Nat.le_of_ble_eq_true rfl)
  refine W.eq (g2 := F0 m 0 ((lg_sl ([.ref aL, .int x1] : List Value) ++ List.replicate (2 - (lg_sl ([.ref aL, .int x1] : List Value)).length) Slot.unset).toArray) []) (by rw [ha]; exact lg_entry_eq _ _ _) ?_
  generalize (lg_sl ([.ref aL, .int x1] : List Value) ++ List.replicate (2 - (lg_sl ([.ref aL, .int x1] : List Value)).length) Slot.unset).toArray = ls at hl ⊢
  have hl : lv_has ls 2 [(0, .ref aL), (1, .int x1)] := hl
  rw [f2_weightAt] at hF
  show rW p l e wsX2_weightAt rm2_weightAt s m args below meth c (.int r) (F0 m 0 ls [])
  refine lv_iload_n hx hb dX2_weightAt_0 rfl (lv_at hl 1 rfl) ?_
  refine lv_if_lt (tgt := 22) hx hb dX2_weightAt_1 (by decide) (fun c1 => ?_) (fun c1 => ?_)
  · rw [if_pos c1] at hF
    refine lv_iconst hx hb dX2_weightAt_22 kc_iconst_0 ?_
    exact rret hF hx hb hr hlocks dX2_weightAt_23
  · rw [if_neg c1] at hF
    refine lv_iload_n hx hb dX2_weightAt_4 rfl (lv_at hl 1 rfl) ?_
    refine lv_aload_n hx hb dX2_weightAt_5 rfl (lv_at hl 0 rfl) ?_
    refine va_get (D := D) (ci := 2) (v := .ref aW) (C := RX2) (T := TX2) (N := 2) hx hb hts i_X2 hown hK.1 hP 0 rfl rfl 0 (by decide) (hts _ wd_95) (fun _ h9 => h9) rfl dX2_weightAt_6 ?_
    refine va_alen (v := (6 : Int32)) hx hb hK.1 hP 1 0 rfl rfl rfl dX2_weightAt_9 ?_
    refine lv_icmp_ge (tgt := 22) hx hb dX2_weightAt_10 (by decide) (fun c2 => ?_) (fun c2 => ?_)
    · rw [if_pos c2] at hF
      refine lv_iconst hx hb dX2_weightAt_22 kc_iconst_0 ?_
      exact rret hF hx hb hr hlocks dX2_weightAt_23
    · rw [if_neg c2] at hF
      refine lv_aload_n hx hb dX2_weightAt_13 rfl (lv_at hl 0 rfl) ?_
      refine va_get (D := D) (ci := 2) (v := .ref aW) (C := RX2) (T := TX2) (N := 2) hx hb hts i_X2 hown hK.1 hP 0 rfl rfl 0 (by decide) (hts _ wd_95) (fun _ h9 => h9) rfl dX2_weightAt_14 ?_
      refine lv_iload_n hx hb dX2_weightAt_17 rfl (lv_at hl 1 rfl) ?_
      refine va_iald hx hb hK.1 hP 1 0 rfl rfl (inb_path (N := 6) (n := 6) (by decide) c1 c2) dX2_weightAt_18 ?_
      refine lv_goto (tgt := 23) hx hb dX2_weightAt_19 (by decide) ?_
      exact rret hF hx hb hr hlocks dX2_weightAt_23
abbrev rm2_restOf : Room := { frames := 0, cells := 0, slots := 0, locals := 0 }
theorem hd2_restOf : yX2_restOf.cls = RX2 ∧ yX2_restOf.cls ≠ "java/lang/invoke/MethodHandle" ∧ yX2_restOf.cls ≠ "java/lang/invoke/VarHandle" ∧ (parseMethodDescriptor yX2_restOf.desc).map (fun d => d.parameters.length) = some 1 := by decide +kernel
set_option maxHeartbeats 4000000 in
set_option maxRecDepth 100000 in
theorem K2_restOf (l : Launch) (D : va_G) (cI cZ cS cJ : ClassId) (aL aW : Nat) (wm : Int32) (wW : Nat → Int32) (x1 : Int32) (r : Int32) (hF : f2_restOf wm x1 = some (r)) : Met l yX2_restOf wsX2_restOf rm2_restOf (rP D (gT cI cZ cS cJ) (W2 cI aL aW wm wW) [.ref aL, .int x1]) (rQ (.int r)) 0 0 (fun _ => False) := by
  refine Met.ofW (cc := cX2_restOf) (maxL := 3) (ret := (some .int)) (by decide) rfl ?_
  intro p e s m args below meth c s₁ B hml hv
  obtain ⟨ha, hK, hP⟩ := hv
  have hx := B.exec
  have hb := B.bytes
  have hr := B.returns
  have hlocks := B.notSynchronized
  have hts : ∀ w ∈ lw_all, w.before args s = true := fun w h => atoms_spec (ws := wsX2_restOf) B.pre w (List.mem_cons_of_mem _ h)
  have hown : s.vm.findClass RX2 = some m.cls := findClass_of_methodNamed B.named
  have S : CallFix p m c cX2_restOf 3 s args lw_all RX2 := ⟨hx, hb, hml, hown, hts⟩
  have hl := lv_entry ([.ref aL, .int x1] : List Value) (n := 3) (Nat.le_of_ble_eq_true rfl)
  refine W.eq (g2 := F0 m 0 ((lg_sl ([.ref aL, .int x1] : List Value) ++ List.replicate (3 - (lg_sl ([.ref aL, .int x1] : List Value)).length) Slot.unset).toArray) []) (by rw [ha]; exact lg_entry_eq _ _ _) ?_
  generalize (lg_sl ([.ref aL, .int x1] : List Value) ++ List.replicate (3 - (lg_sl ([.ref aL, .int x1] : List Value)).length) Slot.unset).toArray = ls at hl ⊢
  have hl : lv_has ls 3 [(0, .ref aL), (1, .int x1)] := hl
  rw [f2_restOf] at hF
  show rW p l e wsX2_restOf rm2_restOf s m args below meth c (.int r) (F0 m 0 ls [])
  refine lv_aload_n hx hb dX2_restOf_0 rfl (lv_at hl 0 rfl) ?_
  refine va_get (D := D) (ci := 2) (v := .int wm) (C := RX2) (T := TX2) (N := 2) hx hb hts i_X2 hown hK.1 hP 0 rfl rfl 1 (by decide) (hts _ wd_96) (fun _ h9 => h9) rfl dX2_restOf_1 ?_
  refine lv_iconst hx hb dX2_restOf_4 kc_iconst_1 ?_
  refine lv_icmp_ge (tgt := 10) hx hb dX2_restOf_5 (by decide) (fun c1 => ?_) (fun c1 => ?_)
  · have hF := ite_t c1 hF
    refine lv_iload_n hx hb dX2_restOf_10 rfl (lv_at hl 1 rfl) ?_
    refine lv_aload_n hx hb dX2_restOf_11 rfl (lv_at hl 0 rfl) ?_
    refine va_get (D := D) (ci := 2) (v := .int wm) (C := RX2) (T := TX2) (N := 2) hx hb hts i_X2 hown hK.1 hP 0 rfl rfl 1 (by decide) (hts _ wd_96) (fun _ h9 => h9) rfl dX2_restOf_12 ?_
    obtain ⟨g2, hF⟩ := gd_at hF
    refine lv_irem hx hb dX2_restOf_15 g2 ?_
    refine lv_istore_n (lv' := [(2, .int (x1 - x1 / wm * wm)), (0, .ref aL), (1, .int x1)]) hx hb dX2_restOf_16 rfl hl (by decide) rfl (fun ls hl => ?_)
    refine lv_iload_n hx hb dX2_restOf_17 rfl (lv_at hl 0 rfl) ?_
    refine lv_if_ge (tgt := 30) hx hb dX2_restOf_18 (by decide) (fun c3 => ?_) (fun c3 => ?_)
    · rw [if_pos c3] at hF
      refine lv_iload_n hx hb dX2_restOf_30 rfl (lv_at hl 0 rfl) ?_
      exact rret hF hx hb hr hlocks dX2_restOf_31
    · rw [if_neg c3] at hF
      refine lv_iload_n hx hb dX2_restOf_21 rfl (lv_at hl 0 rfl) ?_
      refine lv_aload_n hx hb dX2_restOf_22 rfl (lv_at hl 1 rfl) ?_
      refine va_get (D := D) (ci := 2) (v := .int wm) (C := RX2) (T := TX2) (N := 2) hx hb hts i_X2 hown hK.1 hP 0 rfl rfl 1 (by decide) (hts _ wd_96) (fun _ h9 => h9) rfl dX2_restOf_23 ?_
      refine lv_iadd hx hb dX2_restOf_26 ?_
      refine lv_goto (tgt := 31) hx hb dX2_restOf_27 (by decide) ?_
      exact rret hF hx hb hr hlocks dX2_restOf_31
  · have hF := ite_f c1 hF
    refine lv_iconst hx hb dX2_restOf_8 kc_iconst_0 ?_
    exact rret hF hx hb hr hlocks dX2_restOf_9
abbrev rm2_letterOf : Room := { frames := 1, cells := 0, slots := 0, locals := 22 }
theorem hd2_letterOf : yX2_letterOf.cls = RX2 ∧ yX2_letterOf.cls ≠ "java/lang/invoke/MethodHandle" ∧ yX2_letterOf.cls ≠ "java/lang/invoke/VarHandle" ∧ (parseMethodDescriptor yX2_letterOf.desc).map (fun d => d.parameters.length) = some 1 := by decide +kernel
set_option maxHeartbeats 4000000 in
set_option maxRecDepth 100000 in
theorem K2_letterOf (l : Launch) (D : va_G) (cI cZ cS cJ : ClassId) (aL aW : Nat) (wm : Int32) (wW : Nat → Int32) (x1 : Int32) (r : Int32) (hF : f2_letterOf wm wW x1 = some (r)) : Met l yX2_letterOf wsX2_letterOf rm2_letterOf (rP D (gT cI cZ cS cJ) (W2 cI aL aW wm wW) [.ref aL, .int x1]) (rQ (.int r)) 0 0 (fun _ => False) := by
  refine Met.ofW (cc := cX2_letterOf) (maxL := 5) (ret := (some .int)) (by decide) rfl ?_
  intro p e s m args below meth c s₁ B hml hv
  obtain ⟨ha, hK, hP⟩ := hv
  have hx := B.exec
  have hb := B.bytes
  have hr := B.returns
  have hlocks := B.notSynchronized
  have hts : ∀ w ∈ lw_all, w.before args s = true := fun w h => atoms_spec (ws := wsX2_letterOf) B.pre w (List.mem_cons_of_mem _ h)
  have hown : s.vm.findClass RX2 = some m.cls := findClass_of_methodNamed B.named
  have S : CallFix p m c cX2_letterOf 5 s args lw_all RX2 := ⟨hx, hb, hml, hown, hts⟩
  have hl := lv_entry ([.ref aL, .int x1] : List Value) (n := 5) (Nat.le_of_ble_eq_true rfl)
  refine W.eq (g2 := F0 m 0 ((lg_sl ([.ref aL, .int x1] : List Value) ++ List.replicate (5 - (lg_sl ([.ref aL, .int x1] : List Value)).length) Slot.unset).toArray) []) (by rw [ha]; exact lg_entry_eq _ _ _) ?_
  generalize (lg_sl ([.ref aL, .int x1] : List Value) ++ List.replicate (5 - (lg_sl ([.ref aL, .int x1] : List Value)).length) Slot.unset).toArray = ls at hl ⊢
  have hl : lv_has ls 5 [(0, .ref aL), (1, .int x1)] := hl
  clear ha
  have W_7 : ∀  (n : Nat) (x2 : Int32) (x3 : Int32) (x4 : Int32), ∀ (ls : Array Slot), lv_has ls 5 [(0, .ref aL), (2, .int x2), (3, .int x3), (4, .int x4)] → f2_letterOf_l7 wm wW n x2 x3 x4 = some (r) → rW p l e wsX2_letterOf rm2_letterOf s m args below meth c (.int r) (F0 m 7 ls []) := by
    intro   n
    induction n with
    | zero =>
      intro x2 x3 x4 ls hl hF
      rw [f2_letterOf_l7] at hF
      cases hF
    | succ n ih =>
      intro x2 x3 x4 ls hl hF
      rw [f2_letterOf_l7] at hF
      refine lv_iload hx hb dX2_letterOf_7 (lv_at hl 3 rfl) ?_
      refine lv_if_lt (tgt := 37) hx hb dX2_letterOf_9 (by decide) (fun c1 => ?_) (fun c1 => ?_)
      · have hF := ite_t c1 hF
        refine lv_aload_n hx hb dX2_letterOf_37 rfl (lv_at hl 0 rfl) ?_
        refine lv_iload_n hx hb dX2_letterOf_38 rfl (lv_at hl 1 rfl) ?_
        obtain ⟨q3, h2, hF⟩ := bd1_at hF
        refine rcall (va_runV (As := [.int x2]) (rest := []) S (K2_restOf l D cI cZ cS cJ aL aW wm wW x2 q3 h2) (cwV 1 hts (gd_V wd_484 wd_486 wd_11 wd_63 wd_487) rfl rfl rfl hd2_restOf ⟨Nat.le_of_ble_eq_true rfl, Nat.le_of_ble_eq_true rfl⟩) (rPreV hK hP (ci := 2) (q := (RX2, TX2, 2)) rfl rfl) rfl rfl hl.1 rfl (lv_room (Nat.le_of_ble_eq_true rfl)) dX2_letterOf_39 ⟨Nat.zero_le _, Nat.zero_le _⟩) ?_
        exact rret hF hx hb hr hlocks dX2_letterOf_42
      · have hF := ite_f c1 hF
        refine lv_iload_n hx hb dX2_letterOf_12 rfl (lv_at hl 1 rfl) ?_
        refine lv_aload_n hx hb dX2_letterOf_13 rfl (lv_at hl 0 rfl) ?_
        refine lv_iload hx hb dX2_letterOf_14 (lv_at hl 3 rfl) ?_
        obtain ⟨q5, h4, hF⟩ := bd1_at hF
        refine rcall (va_runV (As := [.int x4]) (rest := [.int x2]) S (K2_weightAt l D cI cZ cS cJ aL aW wm wW x4 q5 h4) (cwV 1 hts (gd_V wd_483 wd_395 wd_396 wd_63 wd_397) rfl rfl rfl hd2_weightAt ⟨Nat.le_of_ble_eq_true rfl, Nat.le_of_ble_eq_true rfl⟩) (rPreV hK hP (ci := 2) (q := (RX2, TX2, 2)) rfl rfl) rfl rfl hl.1 rfl (lv_room (Nat.le_of_ble_eq_true rfl)) dX2_letterOf_16 ⟨Nat.zero_le _, Nat.zero_le _⟩) ?_
        refine lv_iload_n hx hb dX2_letterOf_19 rfl (lv_at hl 2 rfl) ?_
        refine lv_bipush hx hb dX2_letterOf_20 kc_bipush_10 ?_
        refine lv_irem hx hb dX2_letterOf_22 (by decide) ?_
        refine lv_imul hx hb dX2_letterOf_23 ?_
        refine lv_iadd hx hb dX2_letterOf_24 ?_
        refine lv_topi (fun t6 e7 => ?_)
        have hF := lt_at e7 hF
        refine lv_istore_n (lv' := [(2, .int t6), (0, .ref aL), (3, .int x3), (4, .int x4)]) hx hb dX2_letterOf_25 rfl hl (by decide) rfl (fun ls hl => ?_)
        refine lv_iload_n hx hb dX2_letterOf_26 rfl (lv_at hl 2 rfl) ?_
        refine lv_bipush hx hb dX2_letterOf_27 kc_bipush_10 ?_
        refine lv_idiv hx hb dX2_letterOf_29 (by decide) ?_
        refine lv_istore_n (lv' := [(3, .int (x3 / (10 : Int32))), (2, .int t6), (0, .ref aL), (4, .int x4)]) hx hb dX2_letterOf_30 rfl hl (by decide) rfl (fun ls hl => ?_)
        refine lv_iinc (v := (x4 + (-1))) (lv' := [(4, .int (x4 + (-1))), (3, .int (x3 / (10 : Int32))), (2, .int t6), (0, .ref aL)]) hx hb dX2_letterOf_31 hl (k := 3) rfl rfl (by decide) rfl (fun ls hl => ?_)
        refine lv_goto (tgt := 7) hx hb dX2_letterOf_34 (by decide) ?_
        exact ih t6 (x3 / (10 : Int32)) (x4 + (-1)) ls (lv_sub hl [3, 2, 1, 0] rfl) hF
  rw [f2_letterOf] at hF
  show rW p l e wsX2_letterOf rm2_letterOf s m args below meth c (.int r) (F0 m 0 ls [])
  refine lv_iconst hx hb dX2_letterOf_0 kc_iconst_0 ?_
  refine lv_istore_n (lv' := [(2, .int (0 : Int32)), (0, .ref aL), (1, .int x1)]) hx hb dX2_letterOf_1 rfl hl (by decide) rfl (fun ls hl => ?_)
  refine lv_iload_n hx hb dX2_letterOf_2 rfl (lv_at hl 2 rfl) ?_
  refine lv_istore_n (lv' := [(3, .int x1), (2, .int (0 : Int32)), (0, .ref aL), (1, .int x1)]) hx hb dX2_letterOf_3 rfl hl (by decide) rfl (fun ls hl => ?_)
  refine lv_iconst hx hb dX2_letterOf_4 kc_iconst_5 ?_
  refine lv_istore (lv' := [(4, .int (5 : Int32)), (3, .int x1), (2, .int (0 : Int32)), (0, .ref aL), (1, .int x1)]) hx hb dX2_letterOf_5 hl (by decide) rfl (fun ls hl => ?_)
  exact W_7   fu (0 : Int32) x1 (5 : Int32) ls (lv_sub hl [3, 2, 1, 0] rfl) hF
abbrev rm2_digitAt : Room := { frames := 0, cells := 0, slots := 0, locals := 0 }
theorem hdn2_digitAt : yX2_digitAt.cls ≠ "java/lang/invoke/MethodHandle" ∧ yX2_digitAt.cls ≠ "java/lang/invoke/VarHandle" ∧ (parseMethodDescriptor yX2_digitAt.desc).map (fun d => d.parameters.length) = some 2 := by decide +kernel
set_option maxHeartbeats 4000000 in
set_option maxRecDepth 100000 in
theorem K2_digitAt (l : Launch) (D : va_G) (cI cZ cS cJ : ClassId) (x0 : Int32) (x1 : Int32) (r : Int32) (hF : f2_digitAt x0 x1 = some (r)) : Met l yX2_digitAt wsX2_digitAt rm2_digitAt (rP D (gT cI cZ cS cJ) ([] : va_W) [.int x0, .int x1]) (rQ (.int r)) 0 0 (fun _ => False) := by
  refine Met.ofW (cc := cX2_digitAt) (maxL := 4) (ret := (some .int)) (by decide) rfl ?_
  intro p e s m args below meth c s₁ B hml hv
  obtain ⟨ha, hK, hP⟩ := hv
  have hx := B.exec
  have hb := B.bytes
  have hr := B.returns
  have hlocks := B.notSynchronized
  have hts : ∀ w ∈ lw_all, w.before args s = true := fun w h => atoms_spec (ws := wsX2_digitAt) B.pre w (List.mem_cons_of_mem _ h)
  have hown : s.vm.findClass RX2 = some m.cls := findClass_of_methodNamed B.named
  have S : CallFix p m c cX2_digitAt 4 s args lw_all RX2 := ⟨hx, hb, hml, hown, hts⟩
  have hl := lv_entry ([.int x0, .int x1] : List Value) (n := 4) (Nat.le_of_ble_eq_true rfl)
  refine W.eq (g2 := F0 m 0 ((lg_sl ([.int x0, .int x1] : List Value) ++ List.replicate (4 - (lg_sl ([.int x0, .int x1] : List Value)).length) Slot.unset).toArray) []) (by rw [ha]; exact lg_entry_eq _ _ _) ?_
  generalize (lg_sl ([.int x0, .int x1] : List Value) ++ List.replicate (4 - (lg_sl ([.int x0, .int x1] : List Value)).length) Slot.unset).toArray = ls at hl ⊢
  have hl : lv_has ls 4 [(0, .int x0), (1, .int x1)] := hl
  clear ha
  have W_4 : ∀ (x1 : Int32) (n : Nat) (x2 : Int32) (x3 : Int32), ∀ (ls : Array Slot), lv_has ls 4 [(1, .int x1), (2, .int x2), (3, .int x3)] → f2_digitAt_l4 x1 n x2 x3 = some (r) → rW p l e wsX2_digitAt rm2_digitAt s m args below meth c (.int r) (F0 m 4 ls []) := by
    intro x1  n
    induction n with
    | zero =>
      intro x2 x3 ls hl hF
      rw [f2_digitAt_l4] at hF
      cases hF
    | succ n ih =>
      intro x2 x3 ls hl hF
      rw [f2_digitAt_l4] at hF
      refine lv_iload_n hx hb dX2_digitAt_4 rfl (lv_at hl 2 rfl) ?_
      refine lv_iload_n hx hb dX2_digitAt_5 rfl (lv_at hl 0 rfl) ?_
      refine lv_icmp_le (tgt := 20) hx hb dX2_digitAt_6 (by decide) (fun c1 => ?_) (fun c1 => ?_)
      · have hF := ite_t c1 hF
        refine lv_iload_n hx hb dX2_digitAt_20 rfl (lv_at hl 1 rfl) ?_
        refine lv_bipush hx hb dX2_digitAt_21 kc_bipush_10 ?_
        refine lv_irem hx hb dX2_digitAt_23 (by decide) ?_
        exact rret hF hx hb hr hlocks dX2_digitAt_24
      · have hF := ite_f c1 hF
        refine lv_iload_n hx hb dX2_digitAt_9 rfl (lv_at hl 1 rfl) ?_
        refine lv_bipush hx hb dX2_digitAt_10 kc_bipush_10 ?_
        refine lv_idiv hx hb dX2_digitAt_12 (by decide) ?_
        refine lv_istore_n (lv' := [(2, .int (x2 / (10 : Int32))), (1, .int x1), (3, .int x3)]) hx hb dX2_digitAt_13 rfl hl (by decide) rfl (fun ls hl => ?_)
        refine lv_iinc (v := (x3 + (-1))) (lv' := [(3, .int (x3 + (-1))), (2, .int (x2 / (10 : Int32))), (1, .int x1)]) hx hb dX2_digitAt_14 hl (k := 2) rfl rfl (by decide) rfl (fun ls hl => ?_)
        refine lv_goto (tgt := 4) hx hb dX2_digitAt_17 (by decide) ?_
        exact ih (x2 / (10 : Int32)) (x3 + (-1)) ls (lv_sub hl [2, 1, 0] rfl) hF
  rw [f2_digitAt] at hF
  show rW p l e wsX2_digitAt rm2_digitAt s m args below meth c (.int r) (F0 m 0 ls [])
  refine lv_iload_n hx hb dX2_digitAt_0 rfl (lv_at hl 0 rfl) ?_
  refine lv_istore_n (lv' := [(2, .int x0), (0, .int x0), (1, .int x1)]) hx hb dX2_digitAt_1 rfl hl (by decide) rfl (fun ls hl => ?_)
  refine lv_iconst hx hb dX2_digitAt_2 kc_iconst_5 ?_
  refine lv_istore_n (lv' := [(3, .int (5 : Int32)), (2, .int x0), (0, .int x0), (1, .int x1)]) hx hb dX2_digitAt_3 rfl hl (by decide) rfl (fun ls hl => ?_)
  exact W_4 x1  fu x0 (5 : Int32) ls (lv_sub hl [3, 1, 0] rfl) hF
abbrev rm2_setWeight : Room := { frames := 0, cells := 0, slots := 0, locals := 0 }
theorem hd2_setWeight : yX2_setWeight.cls = RX2 ∧ yX2_setWeight.cls ≠ "java/lang/invoke/MethodHandle" ∧ yX2_setWeight.cls ≠ "java/lang/invoke/VarHandle" ∧ (parseMethodDescriptor yX2_setWeight.desc).map (fun d => d.parameters.length) = some 2 := by decide +kernel
set_option maxHeartbeats 4000000 in
set_option maxRecDepth 100000 in
theorem K2_setWeight (l : Launch) (D : va_G) (cI cZ cS cJ : ClassId) (aL aW : Nat) (wm : Int32) (wW : Nat → Int32) (x1 : Int32) (x2 : Int32) (z_wW : Nat → Int32) (hF : f2_setWeight wW x1 x2 = some (z_wW)) : Met l yX2_setWeight wsX2_setWeight rm2_setWeight (uP D (gT cI cZ cS cJ) (W2 cI aL aW wm wW) [.ref aL, .int x1, .int x2]) (uQ D none (uA (W2 cI aL aW wm wW)) (W2 cI aL aW wm z_wW)) 0 0 (uA (W2 cI aL aW wm wW)) := by
  refine Met.ofW (cc := cX2_setWeight) (maxL := 3) (ret := none) (by decide) rfl ?_
  intro p e s m args below meth c s₁ B hml hv
  obtain ⟨ha, hK, hP, hD0⟩ := hv
  have hx := B.exec
  have hb := B.bytes
  have hr := B.returns
  have hlocks := B.notSynchronized
  have hts : ∀ w ∈ lw_all, w.before args s = true := fun w h => atoms_spec (ws := wsX2_setWeight) B.pre w (List.mem_cons_of_mem _ h)
  have hown : s.vm.findClass RX2 = some m.cls := findClass_of_methodNamed B.named
  have S : CallFix p m c cX2_setWeight 3 s args lw_all RX2 := ⟨hx, hb, hml, hown, hts⟩
  have hD := hD0.own
  generalize uA (W2 cI aL aW wm wW) = A0 at hD ⊢
  have hS : va_S A0 s.heap s.heap [] := va_S.rf
  have hl := lv_entry ([.ref aL, .int x1, .int x2] : List Value) (n := 3) (Nat.le_of_ble_eq_true rfl)
  refine W.eq (g2 := F0 m 0 ((lg_sl ([.ref aL, .int x1, .int x2] : List Value) ++ List.replicate (3 - (lg_sl ([.ref aL, .int x1, .int x2] : List Value)).length) Slot.unset).toArray) []) (by rw [ha]; exact lg_entry_eq _ _ _) ?_
  generalize (lg_sl ([.ref aL, .int x1, .int x2] : List Value) ++ List.replicate (3 - (lg_sl ([.ref aL, .int x1, .int x2] : List Value)).length) Slot.unset).toArray = ls at hl ⊢
  have hl : lv_has ls 3 [(0, .ref aL), (1, .int x1), (2, .int x2)] := hl
  rw [f2_setWeight] at hF
  show uW p l e wsX2_setWeight rm2_setWeight s m args below meth c D none A0 (W2 cI aL aW wm z_wW) s.heap [] (F0 m 0 ls [])
  refine lv_iload_n hx hb dX2_setWeight_0 rfl (lv_at hl 1 rfl) ?_
  refine lv_if_lt (tgt := 20) hx hb dX2_setWeight_1 (by decide) (fun c1 => ?_) (fun c1 => ?_)
  · rw [if_pos c1] at hF
    cases hF
    exact uretv hx hb hr hlocks hP hS dX2_setWeight_20
  · rw [if_neg c1] at hF
    refine lv_iload_n hx hb dX2_setWeight_4 rfl (lv_at hl 1 rfl) ?_
    refine lv_aload_n hx hb dX2_setWeight_5 rfl (lv_at hl 0 rfl) ?_
    refine va_get (D := D) (ci := 2) (v := .ref aW) (C := RX2) (T := TX2) (N := 2) hx hb hts i_X2 hown hK.1 hP 0 rfl rfl 0 (by decide) (hts _ wd_95) (fun _ h9 => h9) rfl dX2_setWeight_6 ?_
    refine va_alen (v := (6 : Int32)) hx hb hK.1 hP 1 0 rfl rfl rfl dX2_setWeight_9 ?_
    refine lv_icmp_ge (tgt := 20) hx hb dX2_setWeight_10 (by decide) (fun c2 => ?_) (fun c2 => ?_)
    · rw [if_pos c2] at hF
      cases hF
      exact uretv hx hb hr hlocks hP hS dX2_setWeight_20
    · rw [if_neg c2] at hF
      refine lv_aload_n hx hb dX2_setWeight_13 rfl (lv_at hl 0 rfl) ?_
      refine va_get (D := D) (ci := 2) (v := .ref aW) (C := RX2) (T := TX2) (N := 2) hx hb hts i_X2 hown hK.1 hP 0 rfl rfl 0 (by decide) (hts _ wd_95) (fun _ h9 => h9) rfl dX2_setWeight_14 ?_
      refine lv_iload_n hx hb dX2_setWeight_17 rfl (lv_at hl 1 rfl) ?_
      refine lv_iload_n hx hb dX2_setWeight_18 rfl (lv_at hl 2 rfl) ?_
      refine va_iast hx hb hK.1 hP hD hS 1 0 rfl rfl (inb_path (N := 6) (n := 6) (by decide) c1 c2) dX2_setWeight_19 (fun H locs hP hD hS => ?_)
      have hP : va_P D vwCl (W2 cI aL aW wm (upd wW x1.toNatClampNeg x2)) H := hP
      have hD : va_D A0 (W2 cI aL aW wm (upd wW x1.toNatClampNeg x2)) := hD
      cases hF
      exact uretv hx hb hr hlocks hP hS dX2_setWeight_20
