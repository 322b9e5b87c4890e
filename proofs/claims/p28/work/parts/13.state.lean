abbrev rm4_reasonAgainstCashing : Room := { frames := 2, cells := 0, slots := 0, locals := 46 }
theorem hd4_reasonAgainstCashing : yX4_reasonAgainstCashing.cls = RX4 ∧ yX4_reasonAgainstCashing.cls ≠ "java/lang/invoke/MethodHandle" ∧ yX4_reasonAgainstCashing.cls ≠ "java/lang/invoke/VarHandle" ∧ (parseMethodDescriptor yX4_reasonAgainstCashing.desc).map (fun d => d.parameters.length) = some 2 := by decide +kernel
set_option maxHeartbeats 4000000 in
set_option maxRecDepth 100000 in
theorem K4_reasonAgainstCashing (l : Launch) (D : va_G) (cI cZ cS cJ : ClassId) (aS aL aW aB aF aZ aK aM : Nat) (sr : Int32) (wm : Int32) (wW : Nat → Int32) (bh : Int32) (bF : Nat → Int32) (bZ : Nat → Int32) (bK : Nat → Int32) (bM : Nat → Int32) (x1 : Int32) (x2 : Int32) (r : Int32) (hF : f4_reasonAgainstCashing wm wW bh bF bZ bK x1 x2 = some (r)) : Met l yX4_reasonAgainstCashing wsX4_reasonAgainstCashing rm4_reasonAgainstCashing (rP D (gT cI cZ cS cJ) (W4 cI aS aL aW aB aF aZ aK aM sr wm wW bh bF bZ bK bM) [.ref aS, .int x1, .int x2]) (rQ (.int r)) 0 0 (fun _ => False) := by
  refine Met.ofW (cc := cX4_reasonAgainstCashing) (maxL := 4) (ret := (some .int)) (by decide) rfl ?_
  intro p e s m args below meth c s₁ B hml hv
  obtain ⟨ha, hK, hP⟩ := hv
  have hx := B.exec
  have hb := B.bytes
  have hr := B.returns
  have hlocks := B.notSynchronized
  have hts : ∀ w ∈ lw_all, w.before args s = true := fun w h => atoms_spec (ws := wsX4_reasonAgainstCashing) B.pre w (List.mem_cons_of_mem _ h)
  have hown : s.vm.findClass RX4 = some m.cls := findClass_of_methodNamed B.named
  have S : CallFix p m c cX4_reasonAgainstCashing 4 s args lw_all RX4 := ⟨hx, hb, hml, hown, hts⟩
  have hl := lv_entry ([.ref aS, .int x1, .int x2] : List Value) (n := 4) (Nat.le_of_ble_eq_true rfl)
  refine W.eq (g2 := F0 m 0 ((lg_sl ([.ref aS, .int x1, .int x2] : List Value) ++ List.replicate (4 - (lg_sl ([.ref aS, .int x1, .int x2] : List Value)).length) Slot.unset).toArray) []) (by rw [ha]; exact lg_entry_eq _ _ _) ?_
  generalize (lg_sl ([.ref aS, .int x1, .int x2] : List Value) ++ List.replicate (4 - (lg_sl ([.ref aS, .int x1, .int x2] : List Value)).length) Slot.unset).toArray = ls at hl ⊢
  have hl : lv_has ls 4 [(0, .ref aS), (1, .int x1), (2, .int x2)] := hl
  rw [f4_reasonAgainstCashing] at hF
  show rW p l e wsX4_reasonAgainstCashing rm4_reasonAgainstCashing s m args below meth c (.int r) (F0 m 0 ls [])
  refine lv_aload_n hx hb dX4_reasonAgainstCashing_0 rfl (lv_at hl 0 rfl) ?_
  refine va_get (D := D) (ci := 4) (v := .ref aL) (C := RX4) (T := TX4) (N := 3) hx hb hts i_X4 hown hK.1 hP 0 rfl rfl 0 (by decide) (hts _ wd_88) (fun _ h9 => h9) rfl dX4_reasonAgainstCashing_1 ?_
  refine lv_iload_n hx hb dX4_reasonAgainstCashing_4 rfl (lv_at hl 1 rfl) ?_
  obtain ⟨q2, h1, hF⟩ := bd1_at hF
  refine rcall (va_runV (As := [.int x1]) (rest := []) S (K2_letterOf l D cI cZ cS cJ aL aW wm wW x1 q2 h1) (cwV 1 hts (gd_V wd_363 wd_332 wd_333 wd_24 wd_334) rfl rfl rfl hd2_letterOf ⟨Nat.le_of_ble_eq_true rfl, Nat.le_of_ble_eq_true rfl⟩) (rPreV hK (hP.sub (ws' := (W2 cI aL aW wm wW)) [1, 2] rfl) (ci := 2) (q := (RX2, TX2, 2)) rfl rfl) rfl rfl hl.1 rfl (lv_room (Nat.le_of_ble_eq_true rfl)) dX4_reasonAgainstCashing_5 ⟨(Nat.zero_le _), (Nat.zero_le _)⟩) ?_
  refine lv_iload_n hx hb dX4_reasonAgainstCashing_8 rfl (lv_at hl 2 rfl) ?_
  refine lv_icmp_eq (tgt := 14) hx hb dX4_reasonAgainstCashing_9 (by decide) (fun c3 => ?_) (fun c3 => ?_)
  · have hF := ite_t c3 hF
    refine lv_aload_n hx hb dX4_reasonAgainstCashing_14 rfl (lv_at hl 0 rfl) ?_
    refine va_get (D := D) (ci := 4) (v := .ref aB) (C := RX4) (T := TX4) (N := 3) hx hb hts i_X4 hown hK.1 hP 0 rfl rfl 1 (by decide) (hts _ wd_90) (fun _ h9 => h9) rfl dX4_reasonAgainstCashing_15 ?_
    refine lv_iload_n hx hb dX4_reasonAgainstCashing_18 rfl (lv_at hl 1 rfl) ?_
    obtain ⟨q5, h4, hF⟩ := bd1_at hF
    refine rcall (va_runV (As := [.int x1]) (rest := []) S (K0_cellOf l D cI cZ cS cJ aB aF aZ aK aM bh bF bZ bK bM x1 q5 h4) (cwV 1 hts (gd_V wd_364 wd_320 wd_321 wd_25 wd_322) rfl rfl rfl hd0_cellOf ⟨Nat.le_of_ble_eq_true rfl, Nat.le_of_ble_eq_true rfl⟩) (rPreV hK (hP.sub (ws' := (W0 cI aB aF aZ aK aM bh bF bZ bK bM)) [3, 4, 5, 6, 7] rfl) (ci := 0) (q := (RX0, TX0, 5)) rfl rfl) rfl rfl hl.1 rfl (lv_room (Nat.le_of_ble_eq_true rfl)) dX4_reasonAgainstCashing_19 ⟨(Nat.zero_le _), (Nat.zero_le _)⟩) ?_
    refine lv_istore_n (lv' := [(3, .int q5), (0, .ref aS), (1, .int x1), (2, .int x2)]) hx hb dX4_reasonAgainstCashing_22 rfl hl (by decide) rfl (fun ls hl => ?_)
    refine lv_iload_n hx hb dX4_reasonAgainstCashing_23 rfl (lv_at hl 0 rfl) ?_
    refine lv_iconst hx hb dX4_reasonAgainstCashing_24 kc_iconst_m1 ?_
    refine lv_icmp_ne (tgt := 30) hx hb dX4_reasonAgainstCashing_25 (by decide) (fun c6 => ?_) (fun c6 => ?_)
    · have hF := ite_f c6 hF
      refine lv_aload_n hx hb dX4_reasonAgainstCashing_30 rfl (lv_at hl 1 rfl) ?_
      refine va_get (D := D) (ci := 4) (v := .ref aB) (C := RX4) (T := TX4) (N := 3) hx hb hts i_X4 hown hK.1 hP 0 rfl rfl 1 (by decide) (hts _ wd_90) (fun _ h9 => h9) rfl dX4_reasonAgainstCashing_31 ?_
      refine lv_iload_n hx hb dX4_reasonAgainstCashing_34 rfl (lv_at hl 0 rfl) ?_
      obtain ⟨q8, h7, hF⟩ := bd1_at hF
      refine rcall (va_runV (As := [.int q5]) (rest := []) S (K0_kindAt l D cI cZ cS cJ aB aF aZ aK aM bh bF bZ bK bM q5 q8 h7) (cwV 1 hts (gd_V wd_365 wd_324 wd_325 wd_25 wd_326) rfl rfl rfl hd0_kindAt ⟨Nat.le_of_ble_eq_true rfl, Nat.le_of_ble_eq_true rfl⟩) (rPreV hK (hP.sub (ws' := (W0 cI aB aF aZ aK aM bh bF bZ bK bM)) [3, 4, 5, 6, 7] rfl) (ci := 0) (q := (RX0, TX0, 5)) rfl rfl) rfl rfl hl.1 rfl (lv_room (Nat.le_of_ble_eq_true rfl)) dX4_reasonAgainstCashing_35 ⟨(Nat.zero_le _), (Nat.zero_le _)⟩) ?_
      refine lv_iconst hx hb dX4_reasonAgainstCashing_38 kc_iconst_1 ?_
      refine lv_icmp_ne (tgt := 46) hx hb dX4_reasonAgainstCashing_39 (by decide) (fun c9 => ?_) (fun c9 => ?_)
      · rw [if_neg c9] at hF
        refine lv_iconst hx hb dX4_reasonAgainstCashing_46 kc_iconst_3 ?_
        exact rret hF hx hb hr hlocks dX4_reasonAgainstCashing_47
      · rw [if_pos c9] at hF
        refine lv_iconst hx hb dX4_reasonAgainstCashing_42 kc_iconst_0 ?_
        refine lv_goto (tgt := 47) hx hb dX4_reasonAgainstCashing_43 (by decide) ?_
        exact rret hF hx hb hr hlocks dX4_reasonAgainstCashing_47
    · have hF := ite_t c6 hF
      refine lv_iconst hx hb dX4_reasonAgainstCashing_28 kc_iconst_2 ?_
      exact rret hF hx hb hr hlocks dX4_reasonAgainstCashing_29
  · have hF := ite_f c3 hF
    refine lv_iconst hx hb dX4_reasonAgainstCashing_12 kc_iconst_1 ?_
    exact rret hF hx hb hr hlocks dX4_reasonAgainstCashing_13
abbrev rm4_cashByReading : Room := { frames := 3, cells := 0, slots := 0, locals := 69 }
theorem hd4_cashByReading : yX4_cashByReading.cls = RX4 ∧ yX4_cashByReading.cls ≠ "java/lang/invoke/MethodHandle" ∧ yX4_cashByReading.cls ≠ "java/lang/invoke/VarHandle" ∧ (parseMethodDescriptor yX4_cashByReading.desc).map (fun d => d.parameters.length) = some 2 := by decide +kernel
set_option maxHeartbeats 4000000 in
set_option maxRecDepth 100000 in
theorem K4_cashByReading (l : Launch) (D : va_G) (cI cZ cS cJ : ClassId) (aS aL aW aB aF aZ aK aM : Nat) (sr : Int32) (wm : Int32) (wW : Nat → Int32) (bh : Int32) (bF : Nat → Int32) (bZ : Nat → Int32) (bK : Nat → Int32) (bM : Nat → Int32) (x1 : Int32) (x2 : Int32) (r : Int32) (z_sr : Int32) (z_bK : Nat → Int32) (z_bM : Nat → Int32) (hF : f4_cashByReading sr wm wW bh bF bZ bK bM x1 x2 = some (r, z_sr, z_bK, z_bM)) : Met l yX4_cashByReading wsX4_cashByReading rm4_cashByReading (uP D (gT cI cZ cS cJ) (W4 cI aS aL aW aB aF aZ aK aM sr wm wW bh bF bZ bK bM) [.ref aS, .int x1, .int x2]) (uQ D (some (.int r)) (uA (W4 cI aS aL aW aB aF aZ aK aM sr wm wW bh bF bZ bK bM)) (W4 cI aS aL aW aB aF aZ aK aM z_sr wm wW bh bF bZ z_bK z_bM)) 0 0 (uA (W4 cI aS aL aW aB aF aZ aK aM sr wm wW bh bF bZ bK bM)) := by
  refine Met.ofW (cc := cX4_cashByReading) (maxL := 5) (ret := (some .int)) (by decide) rfl ?_
  intro p e s m args below meth c s₁ B hml hv
  obtain ⟨ha, hK, hP, hD0⟩ := hv
  have hx := B.exec
  have hb := B.bytes
  have hr := B.returns
  have hlocks := B.notSynchronized
  have hts : ∀ w ∈ lw_all, w.before args s = true := fun w h => atoms_spec (ws := wsX4_cashByReading) B.pre w (List.mem_cons_of_mem _ h)
  have hown : s.vm.findClass RX4 = some m.cls := findClass_of_methodNamed B.named
  have S : CallFix p m c cX4_cashByReading 5 s args lw_all RX4 := ⟨hx, hb, hml, hown, hts⟩
  have hD := hD0.own
  generalize uA (W4 cI aS aL aW aB aF aZ aK aM sr wm wW bh bF bZ bK bM) = A0 at hD ⊢
  have hS : va_S A0 s.heap s.heap [] := va_S.rf
  have hl := lv_entry ([.ref aS, .int x1, .int x2] : List Value) (n := 5) (Nat.le_of_ble_eq_true rfl)
  refine W.eq (g2 := F0 m 0 ((lg_sl ([.ref aS, .int x1, .int x2] : List Value) ++ List.replicate (5 - (lg_sl ([.ref aS, .int x1, .int x2] : List Value)).length) Slot.unset).toArray) []) (by rw [ha]; exact lg_entry_eq _ _ _) ?_
  generalize (lg_sl ([.ref aS, .int x1, .int x2] : List Value) ++ List.replicate (5 - (lg_sl ([.ref aS, .int x1, .int x2] : List Value)).length) Slot.unset).toArray = ls at hl ⊢
  have hl : lv_has ls 5 [(0, .ref aS), (1, .int x1), (2, .int x2)] := hl
  rw [f4_cashByReading] at hF
  show uW p l e wsX4_cashByReading rm4_cashByReading s m args below meth c D (some (.int r)) A0 (W4 cI aS aL aW aB aF aZ aK aM z_sr wm wW bh bF bZ z_bK z_bM) s.heap [] (F0 m 0 ls [])
  refine lv_aload_n hx hb dX4_cashByReading_0 rfl (lv_at hl 0 rfl) ?_
  refine lv_iload_n hx hb dX4_cashByReading_1 rfl (lv_at hl 1 rfl) ?_
  refine lv_iload_n hx hb dX4_cashByReading_2 rfl (lv_at hl 2 rfl) ?_
  obtain ⟨q2, h1, hF⟩ := bd1_at hF
  refine rcall (va_runV (As := [.int x1, .int x2]) (rest := []) S (K4_reasonAgainstCashing l D cI cZ cS cJ aS aL aW aB aF aZ aK aM sr wm wW bh bF bZ bK bM x1 x2 q2 h1) (cwV 2 hts (gd_V wd_359 wd_361 wd_6 wd_23 wd_362) rfl rfl rfl hd4_reasonAgainstCashing ⟨Nat.le_of_ble_eq_true rfl, Nat.le_of_ble_eq_true rfl⟩) (rPreV hK hP (ci := 4) (q := (RX4, TX4, 3)) rfl rfl) rfl rfl hl.1 rfl (lv_room (Nat.le_of_ble_eq_true rfl)) dX4_cashByReading_3 ⟨(Nat.zero_le _), (Nat.zero_le _)⟩) ?_
  refine lv_istore_n (lv' := [(3, .int q2), (0, .ref aS), (1, .int x1), (2, .int x2)]) hx hb dX4_cashByReading_6 rfl hl (by decide) rfl (fun ls hl => ?_)
  refine lv_iload_n hx hb dX4_cashByReading_7 rfl (lv_at hl 0 rfl) ?_
  refine lv_if_eq (tgt := 24) hx hb dX4_cashByReading_8 (by decide) (fun c3 => ?_) (fun c3 => ?_)
  · have hF := ite_t c3 hF
    refine lv_aload_n hx hb dX4_cashByReading_24 rfl (lv_at hl 1 rfl) ?_
    refine va_get (D := D) (ci := 4) (v := .ref aB) (C := RX4) (T := TX4) (N := 3) hx hb hts i_X4 hown hK.1 hP 0 rfl rfl 1 (by decide) (hts _ wd_90) (fun _ h9 => h9) rfl dX4_cashByReading_25 ?_
    refine lv_iload_n hx hb dX4_cashByReading_28 rfl (lv_at hl 2 rfl) ?_
    obtain ⟨q5, h4, hF⟩ := bd1_at hF
    refine rcall (va_runV (As := [.int x1]) (rest := []) S (K0_cellOf l D cI cZ cS cJ aB aF aZ aK aM bh bF bZ bK bM x1 q5 h4) (cwV 1 hts (gd_V wd_364 wd_320 wd_321 wd_25 wd_322) rfl rfl rfl hd0_cellOf ⟨Nat.le_of_ble_eq_true rfl, Nat.le_of_ble_eq_true rfl⟩) (rPreV hK (hP.sub (ws' := (W0 cI aB aF aZ aK aM bh bF bZ bK bM)) [3, 4, 5, 6, 7] rfl) (ci := 0) (q := (RX0, TX0, 5)) rfl rfl) rfl rfl hl.1 rfl (lv_room (Nat.le_of_ble_eq_true rfl)) dX4_cashByReading_29 ⟨(Nat.zero_le _), (Nat.zero_le _)⟩) ?_
    refine lv_istore (lv' := [(4, .int q5), (3, .int q2), (0, .ref aS), (1, .int x1), (2, .int x2)]) hx hb dX4_cashByReading_32 hl (by decide) rfl (fun ls hl => ?_)
    refine lv_aload_n hx hb dX4_cashByReading_34 rfl (lv_at hl 2 rfl) ?_
    refine va_get (D := D) (ci := 4) (v := .ref aB) (C := RX4) (T := TX4) (N := 3) hx hb hts i_X4 hown hK.1 hP 0 rfl rfl 1 (by decide) (hts _ wd_90) (fun _ h9 => h9) rfl dX4_cashByReading_35 ?_
    refine lv_iload hx hb dX4_cashByReading_38 (lv_at hl 0 rfl) ?_
    obtain ⟨u7, u8, h6, hF⟩ := bd2_at hF
    refine ucallv (ws' := (W4 cI aS aL aW aB aF aZ aK aM sr wm wW bh bF bZ u7 u8)) (va_runV (As := [.int q5]) (rest := []) S (K0_makeCashed l D cI cZ cS cJ aB aF aZ aK aM bh bF bZ bK bM q5 u7 u8 h6) (cwV 1 hts (gd_V wd_366 wd_367 wd_368 wd_25 wd_369) rfl rfl rfl hd0_makeCashed ⟨Nat.le_of_ble_eq_true rfl, Nat.le_of_ble_eq_true rfl⟩) (uPreV hK (hP.sub (ws' := (W0 cI aB aF aZ aK aM bh bF bZ bK bM)) [3, 4, 5, 6, 7] rfl) (hD.sub (ws' := (W0 cI aB aF aZ aK aM bh bF bZ bK bM)) [3, 4, 5, 6, 7] (by decide) rfl) (ci := 0) (q := (RX0, TX0, 5)) rfl rfl) rfl rfl hl.1 rfl (lv_room (Nat.le_of_ble_eq_true rfl)) dX4_cashByReading_40 ⟨(Nat.zero_le _), (Nat.zero_le _)⟩) hS hP hD [3, 4, 5, 6, 7] rfl rfl rfl rfl (fun H locs hP hD hS => ?_)
    refine lv_aload_n hx hb dX4_cashByReading_43 rfl (lv_at hl 2 rfl) ?_
    refine va_get (D := D) (ci := 4) (v := .ref aB) (C := RX4) (T := TX4) (N := 3) hx hb hts i_X4 hown hK.1 hP 0 rfl rfl 1 (by decide) (hts _ wd_90) (fun _ h9 => h9) rfl dX4_cashByReading_44 ?_
    refine lv_iload hx hb dX4_cashByReading_47 (lv_at hl 0 rfl) ?_
    obtain ⟨q10, h9, hF⟩ := bd1_at hF
    refine rcall (va_runV (As := [.int q5]) (rest := []) S (K0_amountAt l D cI cZ cS cJ aB aF aZ aK aM bh bF bZ u7 u8 q5 q10 h9) (cwV 1 hts (gd_V wd_374 wd_371 wd_372 wd_25 wd_373) rfl rfl rfl hd0_amountAt ⟨Nat.le_of_ble_eq_true rfl, Nat.le_of_ble_eq_true rfl⟩) (rPreV hK (hP.sub (ws' := (W0 cI aB aF aZ aK aM bh bF bZ u7 u8)) [3, 4, 5, 6, 7] rfl) (ci := 0) (q := (RX0, TX0, 5)) rfl rfl) rfl rfl hl.1 rfl (lv_room (Nat.le_of_ble_eq_true rfl)) dX4_cashByReading_49 ⟨(Nat.zero_le _), (Nat.zero_le _)⟩) ?_
    cases hF
    exact ureti hx hb hr hlocks hP hS dX4_cashByReading_52
  · have hF := ite_f c3 hF
    refine lv_aload_n hx hb dX4_cashByReading_11 rfl (lv_at hl 1 rfl) ?_
    refine lv_dup hx hb dX4_cashByReading_12 rfl ?_
    refine va_get (D := D) (ci := 4) (v := .int sr) (C := RX4) (T := TX4) (N := 3) hx hb hts i_X4 hown hK.1 hP 0 rfl rfl 2 (by decide) (hts _ wd_92) (fun _ h9 => h9) rfl dX4_cashByReading_13 ?_
    refine lv_iconst hx hb dX4_cashByReading_16 kc_iconst_1 ?_
    refine lv_iadd hx hb dX4_cashByReading_17 ?_
    refine va_put (D := D) (ci := 4) (v := .int (sr + (1 : Int32))) (ty := .int) (C := RX4) (T := TX4) (N := 3) hx hb hts i_X4 tyX4 tyX4_ok nmX4 hown hK.1 hP hD hS 0 rfl rfl 2 (by decide) (hts _ wd_92) (fun _ h9 => h9) rfl (by decide +kernel) rfl rfl (Nat.le_of_ble_eq_true rfl) dX4_cashByReading_18 (fun H locs hP hD hS => ?_)
    have hP : va_P D vwCl (W4 cI aS aL aW aB aF aZ aK aM (sr + (1 : Int32)) wm wW bh bF bZ bK bM) H := hP
    have hD : va_D A0 (W4 cI aS aL aW aB aF aZ aK aM (sr + (1 : Int32)) wm wW bh bF bZ bK bM) := hD
    refine lv_iload_n hx hb dX4_cashByReading_21 rfl (lv_at hl 0 rfl) ?_
    refine lv_ineg hx hb dX4_cashByReading_22 ?_
    cases hF
    exact ureti hx hb hr hlocks hP hS dX4_cashByReading_23
abbrev rm4_meantCheques : Room := { frames := 4, cells := 0, slots := 0, locals := 93 }
theorem hd4_meantCheques : yX4_meantCheques.cls = RX4 ∧ yX4_meantCheques.cls ≠ "java/lang/invoke/MethodHandle" ∧ yX4_meantCheques.cls ≠ "java/lang/invoke/VarHandle" ∧ (parseMethodDescriptor yX4_meantCheques.desc).map (fun d => d.parameters.length) = some 3 := by decide +kernel
set_option maxHeartbeats 4000000 in
set_option maxRecDepth 100000 in
theorem K4_meantCheques (l : Launch) (D : va_G) (cI cZ cS cJ : ClassId) (aS aL aW aB aF aZ aK aM : Nat) (sr : Int32) (wm : Int32) (wW : Nat → Int32) (bh : Int32) (bF : Nat → Int32) (bZ : Nat → Int32) (bK : Nat → Int32) (bM : Nat → Int32) (x1 : Int32) (x2 : Int32) (x3 : Int32) (r : Int32) (hF : f4_meantCheques wm wW bh bF bZ x1 x2 x3 = some (r)) : Met l yX4_meantCheques wsX4_meantCheques rm4_meantCheques (rP D (gT cI cZ cS cJ) (W4 cI aS aL aW aB aF aZ aK aM sr wm wW bh bF bZ bK bM) [.ref aS, .int x1, .int x2, .int x3]) (rQ (.int r)) 0 0 (fun _ => False) := by
  refine Met.ofW (cc := cX4_meantCheques) (maxL := 9) (ret := (some .int)) (by decide) rfl ?_
  intro p e s m args below meth c s₁ B hml hv
  obtain ⟨ha, hK, hP⟩ := hv
  have hx := B.exec
  have hb := B.bytes
  have hr := B.returns
  have hlocks := B.notSynchronized
  have hts : ∀ w ∈ lw_all, w.before args s = true := fun w h => atoms_spec (ws := wsX4_meantCheques) B.pre w (List.mem_cons_of_mem _ h)
  have hown : s.vm.findClass RX4 = some m.cls := findClass_of_methodNamed B.named
  have S : CallFix p m c cX4_meantCheques 9 s args lw_all RX4 := ⟨hx, hb, hml, hown, hts⟩
  have hl := lv_entry ([.ref aS, .int x1, .int x2, .int x3] : List Value) (n := 9) (Nat.le_of_ble_eq_true rfl)
  refine W.eq (g2 := F0 m 0 ((lg_sl ([.ref aS, .int x1, .int x2, .int x3] : List Value) ++ List.replicate (9 - (lg_sl ([.ref aS, .int x1, .int x2, .int x3] : List Value)).length) Slot.unset).toArray) []) (by rw [ha]; exact lg_entry_eq _ _ _) ?_
  generalize (lg_sl ([.ref aS, .int x1, .int x2, .int x3] : List Value) ++ List.replicate (9 - (lg_sl ([.ref aS, .int x1, .int x2, .int x3] : List Value)).length) Slot.unset).toArray = ls at hl ⊢
  have hl : lv_has ls 9 [(0, .ref aS), (1, .int x1), (2, .int x2), (3, .int x3)] := hl
  clear ha
  have W_61 : ∀ (x1 : Int32) (x2 : Int32) (x3 : Int32) (x5 : Int32) (x7 : Int32) (k6 : Int32 → Int32 → Option (Int32)) (hk6 : ∀ (x4 : Int32) (x5 : Int32), ∀ (ls : Array Slot), lv_has ls 9 [(0, .ref aS), (1, .int x1), (2, .int x2), (3, .int x3), (4, .int x4), (5, .int x5)] → k6 x4 x5 = some (r) → rW p l e wsX4_meantCheques rm4_meantCheques s m args below meth c (.int r) (F0 m 6 ls [])) (n : Nat) (x4 : Int32) (x8 : Int32), ∀ (ls : Array Slot), lv_has ls 9 [(0, .ref aS), (1, .int x1), (2, .int x2), (3, .int x3), (4, .int x4), (5, .int x5), (7, .int x7), (8, .int x8)] → f4_meantCheques_l61 k6 wm wW bh bF bZ x1 x2 x3 x5 x7 n x4 x8 = some (r) → rW p l e wsX4_meantCheques rm4_meantCheques s m args below meth c (.int r) (F0 m 61 ls []) := by
    intro x1 x2 x3 x5 x7 k6 hk6 n
    induction n with
    | zero =>
      intro x4 x8 ls hl hF
      rw [f4_meantCheques_l61] at hF
      cases hF
    | succ n ih =>
      intro x4 x8 ls hl hF
      rw [f4_meantCheques_l61] at hF
      refine lv_iload hx hb dX4_meantCheques_61 (lv_at hl 7 rfl) ?_
      refine lv_iload hx hb dX4_meantCheques_63 (lv_at hl 6 rfl) ?_
      refine lv_icmp_ge (tgt := 101) hx hb dX4_meantCheques_65 (by decide) (fun c11 => ?_) (fun c11 => ?_)
      · have hF := ite_t c11 hF
        refine lv_iinc (v := (x5 + 1)) (lv' := [(5, .int (x5 + 1)), (0, .ref aS), (1, .int x1), (2, .int x2), (3, .int x3), (4, .int x4), (7, .int x7), (8, .int x8)]) hx hb dX4_meantCheques_101 hl (k := 5) rfl rfl (by decide) rfl (fun ls hl => ?_)
        refine lv_goto (tgt := 6) hx hb dX4_meantCheques_104 (by decide) ?_
        exact hk6 x4 (x5 + 1) ls (lv_sub hl [1, 2, 3, 4, 5, 0] rfl) hF
      · have hF := ite_f c11 hF
        refine lv_aload_n hx hb dX4_meantCheques_68 rfl (lv_at hl 0 rfl) ?_
        refine va_get (D := D) (ci := 4) (v := .ref aL) (C := RX4) (T := TX4) (N := 3) hx hb hts i_X4 hown hK.1 hP 0 rfl rfl 0 (by decide) (hts _ wd_88) (fun _ h9 => h9) rfl dX4_meantCheques_69 ?_
        refine lv_iload hx hb dX4_meantCheques_72 (lv_at hl 7 rfl) ?_
        refine lv_iload_n hx hb dX4_meantCheques_74 rfl (lv_at hl 1 rfl) ?_
        refine lv_iload_n hx hb dX4_meantCheques_75 rfl (lv_at hl 2 rfl) ?_
        obtain ⟨q13, h12, hF⟩ := bd1_at hF
        refine rcall (va_runV (As := [.int x8, .int x1, .int x2]) (rest := []) S (K2_slipKind l D cI cZ cS cJ aL aW wm wW x8 x1 x2 q13 h12) (cwV 3 hts (gd_V wd_672 wd_673 wd_674 wd_24 wd_675) rfl rfl rfl hd2_slipKind ⟨Nat.le_of_ble_eq_true rfl, Nat.le_of_ble_eq_true rfl⟩) (rPreV hK (hP.sub (ws' := (W2 cI aL aW wm wW)) [1, 2] rfl) (ci := 2) (q := (RX2, TX2, 2)) rfl rfl) rfl rfl hl.1 rfl (lv_room (Nat.le_of_ble_eq_true rfl)) dX4_meantCheques_76 ⟨(Nat.zero_le _), (Nat.zero_le _)⟩) ?_
        refine lv_iconst hx hb dX4_meantCheques_79 kc_iconst_m1 ?_
        refine lv_icmp_eq (tgt := 95) hx hb dX4_meantCheques_80 (by decide) (fun c14 => ?_) (fun c14 => ?_)
        · have hF := ite_t c14 hF
          refine lv_iinc (v := (x8 + 1)) (lv' := [(8, .int (x8 + 1)), (0, .ref aS), (1, .int x1), (2, .int x2), (3, .int x3), (4, .int x4), (5, .int x5), (7, .int x7)]) hx hb dX4_meantCheques_95 hl (k := 7) rfl rfl (by decide) rfl (fun ls hl => ?_)
          refine lv_goto (tgt := 61) hx hb dX4_meantCheques_98 (by decide) ?_
          exact ih x4 (x8 + 1) ls (lv_sub hl [1, 2, 3, 4, 5, 6, 7, 0] rfl) hF
        · have hF := ite_f c14 hF
          refine lv_iload hx hb dX4_meantCheques_83 (lv_at hl 4 rfl) ?_
          refine lv_iload_n hx hb dX4_meantCheques_85 rfl (lv_at hl 3 rfl) ?_
          refine lv_icmp_ne (tgt := 92) hx hb dX4_meantCheques_86 (by decide) (fun c15 => ?_) (fun c15 => ?_)
          · have hF := ite_f c15 hF
            refine lv_iinc (v := (x4 + 1)) (lv' := [(4, .int (x4 + 1)), (0, .ref aS), (1, .int x1), (2, .int x2), (3, .int x3), (5, .int x5), (7, .int x7), (8, .int x8)]) hx hb dX4_meantCheques_92 hl (k := 4) rfl rfl (by decide) rfl (fun ls hl => ?_)
            refine lv_iinc (v := (x8 + 1)) (lv' := [(8, .int (x8 + 1)), (4, .int (x4 + 1)), (0, .ref aS), (1, .int x1), (2, .int x2), (3, .int x3), (5, .int x5), (7, .int x7)]) hx hb dX4_meantCheques_95 hl (k := 7) rfl rfl (by decide) rfl (fun ls hl => ?_)
            refine lv_goto (tgt := 61) hx hb dX4_meantCheques_98 (by decide) ?_
            exact ih (x4 + 1) (x8 + 1) ls (lv_sub hl [2, 3, 4, 5, 1, 6, 7, 0] rfl) hF
          · have hF := ite_t c15 hF
            refine lv_iload hx hb dX4_meantCheques_89 (lv_at hl 7 rfl) ?_
            exact rret hF hx hb hr hlocks dX4_meantCheques_91
  have W_6 : ∀ (x1 : Int32) (x2 : Int32) (x3 : Int32) (n : Nat) (x4 : Int32) (x5 : Int32), ∀ (ls : Array Slot), lv_has ls 9 [(0, .ref aS), (1, .int x1), (2, .int x2), (3, .int x3), (4, .int x4), (5, .int x5)] → f4_meantCheques_l6 wm wW bh bF bZ x1 x2 x3 n x4 x5 = some (r) → rW p l e wsX4_meantCheques rm4_meantCheques s m args below meth c (.int r) (F0 m 6 ls []) := by
    intro x1 x2 x3  n
    induction n with
    | zero =>
      intro x4 x5 ls hl hF
      rw [f4_meantCheques_l6] at hF
      cases hF
    | succ n ih =>
      intro x4 x5 ls hl hF
      rw [f4_meantCheques_l6] at hF
      refine lv_iload hx hb dX4_meantCheques_6 (lv_at hl 5 rfl) ?_
      refine lv_aload_n hx hb dX4_meantCheques_8 rfl (lv_at hl 0 rfl) ?_
      refine va_get (D := D) (ci := 4) (v := .ref aB) (C := RX4) (T := TX4) (N := 3) hx hb hts i_X4 hown hK.1 hP 0 rfl rfl 1 (by decide) (hts _ wd_90) (fun _ h9 => h9) rfl dX4_meantCheques_9 ?_
      refine va_get (D := D) (ci := 0) (v := .int bh) (C := RX0) (T := TX0) (N := 5) hx hb hts i_X0 hown hK.1 hP 3 rfl rfl 4 (by decide) (hts _ wd_75) (fun _ h9 => h9) rfl dX4_meantCheques_12 ?_
      refine lv_icmp_ge (tgt := 107) hx hb dX4_meantCheques_15 (by decide) (fun c1 => ?_) (fun c1 => ?_)
      · have hF := ite_t c1 hF
        refine lv_iload_n hx hb dX4_meantCheques_107 rfl (lv_at hl 3 rfl) ?_
        refine lv_iconst hx hb dX4_meantCheques_108 kc_iconst_m1 ?_
        refine lv_icmp_ne (tgt := 117) hx hb dX4_meantCheques_109 (by decide) (fun c2 => ?_) (fun c2 => ?_)
        · rw [if_neg c2] at hF
          refine lv_iconst hx hb dX4_meantCheques_117 kc_iconst_m1 ?_
          exact rret hF hx hb hr hlocks dX4_meantCheques_118
        · rw [if_pos c2] at hF
          refine lv_iload hx hb dX4_meantCheques_112 (lv_at hl 4 rfl) ?_
          refine lv_goto (tgt := 118) hx hb dX4_meantCheques_114 (by decide) ?_
          exact rret hF hx hb hr hlocks dX4_meantCheques_118
      · have hF := ite_f c1 hF
        refine lv_aload_n hx hb dX4_meantCheques_18 rfl (lv_at hl 0 rfl) ?_
        refine va_get (D := D) (ci := 4) (v := .ref aB) (C := RX4) (T := TX4) (N := 3) hx hb hts i_X4 hown hK.1 hP 0 rfl rfl 1 (by decide) (hts _ wd_90) (fun _ h9 => h9) rfl dX4_meantCheques_19 ?_
        refine lv_iload hx hb dX4_meantCheques_22 (lv_at hl 5 rfl) ?_
        obtain ⟨q4, h3, hF⟩ := bd1_at hF
        refine rcall (va_runV (As := [.int x5]) (rest := []) S (K0_bookOfRank l D cI cZ cS cJ aB aF aZ aK aM bh bF bZ bK bM x5 q4 h3) (cwV 1 hts (gd_V wd_669 wd_600 wd_601 wd_25 wd_602) rfl rfl rfl hd0_bookOfRank ⟨Nat.le_of_ble_eq_true rfl, Nat.le_of_ble_eq_true rfl⟩) (rPreV hK (hP.sub (ws' := (W0 cI aB aF aZ aK aM bh bF bZ bK bM)) [3, 4, 5, 6, 7] rfl) (ci := 0) (q := (RX0, TX0, 5)) rfl rfl) rfl rfl hl.1 rfl (lv_room (Nat.le_of_ble_eq_true rfl)) dX4_meantCheques_24 ⟨(Nat.zero_le _), (Nat.zero_le _)⟩) ?_
        refine lv_istore (lv' := [(6, .int q4), (0, .ref aS), (1, .int x1), (2, .int x2), (3, .int x3), (4, .int x4), (5, .int x5)]) hx hb dX4_meantCheques_27 hl (by decide) rfl (fun ls hl => ?_)
        refine lv_aload_n hx hb dX4_meantCheques_29 rfl (lv_at hl 1 rfl) ?_
        refine va_get (D := D) (ci := 4) (v := .ref aB) (C := RX4) (T := TX4) (N := 3) hx hb hts i_X4 hown hK.1 hP 0 rfl rfl 1 (by decide) (hts _ wd_90) (fun _ h9 => h9) rfl dX4_meantCheques_30 ?_
        refine lv_iload hx hb dX4_meantCheques_33 (lv_at hl 0 rfl) ?_
        obtain ⟨q6, h5, hF⟩ := bd1_at hF
        refine rcall (va_runV (As := [.int q4]) (rest := []) S (K0_firstOf l D cI cZ cS cJ aB aF aZ aK aM bh bF bZ bK bM q4 q6 h5) (cwV 1 hts (gd_V wd_670 wd_166 wd_167 wd_25 wd_168) rfl rfl rfl hd0_firstOf ⟨Nat.le_of_ble_eq_true rfl, Nat.le_of_ble_eq_true rfl⟩) (rPreV hK (hP.sub (ws' := (W0 cI aB aF aZ aK aM bh bF bZ bK bM)) [3, 4, 5, 6, 7] rfl) (ci := 0) (q := (RX0, TX0, 5)) rfl rfl) rfl rfl hl.1 rfl (lv_room (Nat.le_of_ble_eq_true rfl)) dX4_meantCheques_35 ⟨(Nat.zero_le _), (Nat.zero_le _)⟩) ?_
        refine lv_aload_n hx hb dX4_meantCheques_38 rfl (lv_at hl 1 rfl) ?_
        refine va_get (D := D) (ci := 4) (v := .ref aB) (C := RX4) (T := TX4) (N := 3) hx hb hts i_X4 hown hK.1 hP 0 rfl rfl 1 (by decide) (hts _ wd_90) (fun _ h9 => h9) rfl dX4_meantCheques_39 ?_
        refine lv_iload hx hb dX4_meantCheques_42 (lv_at hl 0 rfl) ?_
        obtain ⟨q8, h7, hF⟩ := bd1_at hF
        refine rcall (va_runV (As := [.int q4]) (rest := [.int q6]) S (K0_sizeOf l D cI cZ cS cJ aB aF aZ aK aM bh bF bZ bK bM q4 q8 h7) (cwV 1 hts (gd_V wd_671 wd_170 wd_171 wd_25 wd_172) rfl rfl rfl hd0_sizeOf ⟨Nat.le_of_ble_eq_true rfl, Nat.le_of_ble_eq_true rfl⟩) (rPreV hK (hP.sub (ws' := (W0 cI aB aF aZ aK aM bh bF bZ bK bM)) [3, 4, 5, 6, 7] rfl) (ci := 0) (q := (RX0, TX0, 5)) rfl rfl) rfl rfl hl.1 rfl (lv_room (Nat.le_of_ble_eq_true rfl)) dX4_meantCheques_44 ⟨(Nat.zero_le _), (Nat.zero_le _)⟩) ?_
        refine lv_iadd hx hb dX4_meantCheques_47 ?_
        refine lv_istore (lv' := [(7, .int (q6 + q8)), (6, .int q4), (0, .ref aS), (1, .int x1), (2, .int x2), (3, .int x3), (4, .int x4), (5, .int x5)]) hx hb dX4_meantCheques_48 hl (by decide) rfl (fun ls hl => ?_)
        refine lv_aload_n hx hb dX4_meantCheques_50 rfl (lv_at hl 2 rfl) ?_
        refine va_get (D := D) (ci := 4) (v := .ref aB) (C := RX4) (T := TX4) (N := 3) hx hb hts i_X4 hown hK.1 hP 0 rfl rfl 1 (by decide) (hts _ wd_90) (fun _ h9 => h9) rfl dX4_meantCheques_51 ?_
        refine lv_iload hx hb dX4_meantCheques_54 (lv_at hl 1 rfl) ?_
        obtain ⟨q10, h9, hF⟩ := bd1_at hF
        refine rcall (va_runV (As := [.int q4]) (rest := []) S (K0_firstOf l D cI cZ cS cJ aB aF aZ aK aM bh bF bZ bK bM q4 q10 h9) (cwV 1 hts (gd_V wd_670 wd_166 wd_167 wd_25 wd_168) rfl rfl rfl hd0_firstOf ⟨Nat.le_of_ble_eq_true rfl, Nat.le_of_ble_eq_true rfl⟩) (rPreV hK (hP.sub (ws' := (W0 cI aB aF aZ aK aM bh bF bZ bK bM)) [3, 4, 5, 6, 7] rfl) (ci := 0) (q := (RX0, TX0, 5)) rfl rfl) rfl rfl hl.1 rfl (lv_room (Nat.le_of_ble_eq_true rfl)) dX4_meantCheques_56 ⟨(Nat.zero_le _), (Nat.zero_le _)⟩) ?_
        refine lv_istore (lv' := [(8, .int q10), (7, .int (q6 + q8)), (6, .int q4), (0, .ref aS), (1, .int x1), (2, .int x2), (3, .int x3), (4, .int x4), (5, .int x5)]) hx hb dX4_meantCheques_59 hl (by decide) rfl (fun ls hl => ?_)
        exact W_61 x1 x2 x3 x5 (q6 + q8) (f4_meantCheques_l6 wm wW bh bF bZ x1 x2 x3 n) ih fu x4 q10 ls (lv_sub hl [3, 4, 5, 6, 7, 8, 1, 0] rfl) hF
  rw [f4_meantCheques] at hF
  show rW p l e wsX4_meantCheques rm4_meantCheques s m args below meth c (.int r) (F0 m 0 ls [])
  refine lv_iconst hx hb dX4_meantCheques_0 kc_iconst_0 ?_
  refine lv_istore (lv' := [(4, .int (0 : Int32)), (0, .ref aS), (1, .int x1), (2, .int x2), (3, .int x3)]) hx hb dX4_meantCheques_1 hl (by decide) rfl (fun ls hl => ?_)
  refine lv_iconst hx hb dX4_meantCheques_3 kc_iconst_0 ?_
  refine lv_istore (lv' := [(5, .int (0 : Int32)), (4, .int (0 : Int32)), (0, .ref aS), (1, .int x1), (2, .int x2), (3, .int x3)]) hx hb dX4_meantCheques_4 hl (by decide) rfl (fun ls hl => ?_)
  exact W_6 x1 x2 x3  fu (0 : Int32) (0 : Int32) ls (lv_sub hl [2, 3, 4, 5, 1, 0] rfl) hF
abbrev rm4_copyFrom : Room := { frames := 2, cells := 0, slots := 0, locals := 43 }
theorem hd4_copyFrom : yX4_copyFrom.cls = RX4 ∧ yX4_copyFrom.cls ≠ "java/lang/invoke/MethodHandle" ∧ yX4_copyFrom.cls ≠ "java/lang/invoke/VarHandle" ∧ (parseMethodDescriptor yX4_copyFrom.desc).map (fun d => d.parameters.length) = some 1 := by decide +kernel
set_option maxHeartbeats 4000000 in
set_option maxRecDepth 100000 in
theorem K4_copyFrom (l : Launch) (D : va_G) (cI cZ cS cJ : ClassId) (aS aL aW aB aF aZ aK aM aSo aLo aWo aBo aFo aZo aKo aMo : Nat) (sr : Int32) (wm : Int32) (wW : Nat → Int32) (bh : Int32) (bF : Nat → Int32) (bZ : Nat → Int32) (bK : Nat → Int32) (bM : Nat → Int32) (sro : Int32) (wmo : Int32) (wWo : Nat → Int32) (bho : Int32) (bFo : Nat → Int32) (bZo : Nat → Int32) (bKo : Nat → Int32) (bMo : Nat → Int32) (z_sr : Int32) (z_wm : Int32) (z_wW : Nat → Int32) (z_bh : Int32) (z_bF : Nat → Int32) (z_bZ : Nat → Int32) (z_bK : Nat → Int32) (z_bM : Nat → Int32) (hF : f4_copyFrom sr wm wW bh bF bZ bK bM sro wmo wWo bho bFo bZo bKo bMo = some (z_sr, z_wm, z_wW, z_bh, z_bF, z_bZ, z_bK, z_bM)) : Met l yX4_copyFrom wsX4_copyFrom rm4_copyFrom (uP D (gT cI cZ cS cJ) (W44 cI aS aL aW aB aF aZ aK aM aSo aLo aWo aBo aFo aZo aKo aMo sr wm wW bh bF bZ bK bM sro wmo wWo bho bFo bZo bKo bMo) [.ref aS, .ref aSo]) (uQ D none (uA (W44 cI aS aL aW aB aF aZ aK aM aSo aLo aWo aBo aFo aZo aKo aMo sr wm wW bh bF bZ bK bM sro wmo wWo bho bFo bZo bKo bMo)) (W44 cI aS aL aW aB aF aZ aK aM aSo aLo aWo aBo aFo aZo aKo aMo z_sr z_wm z_wW z_bh z_bF z_bZ z_bK z_bM sro wmo wWo bho bFo bZo bKo bMo)) 0 0 (uA (W44 cI aS aL aW aB aF aZ aK aM aSo aLo aWo aBo aFo aZo aKo aMo sr wm wW bh bF bZ bK bM sro wmo wWo bho bFo bZo bKo bMo)) := by
  refine Met.ofW (cc := cX4_copyFrom) (maxL := 2) (ret := none) (by decide) rfl ?_
  intro p e s m args below meth c s₁ B hml hv
  obtain ⟨ha, hK, hP, hD0⟩ := hv
  have hx := B.exec
  have hb := B.bytes
  have hr := B.returns
  have hlocks := B.notSynchronized
  have hts : ∀ w ∈ lw_all, w.before args s = true := fun w h => atoms_spec (ws := wsX4_copyFrom) B.pre w (List.mem_cons_of_mem _ h)
  have hown : s.vm.findClass RX4 = some m.cls := findClass_of_methodNamed B.named
  have S : CallFix p m c cX4_copyFrom 2 s args lw_all RX4 := ⟨hx, hb, hml, hown, hts⟩
  have hD := hD0.own
  generalize uA (W44 cI aS aL aW aB aF aZ aK aM aSo aLo aWo aBo aFo aZo aKo aMo sr wm wW bh bF bZ bK bM sro wmo wWo bho bFo bZo bKo bMo) = A0 at hD ⊢
  have hS : va_S A0 s.heap s.heap [] := va_S.rf
  have hl := lv_entry ([.ref aS, .ref aSo] : List Value) (n := 2) (Nat.le_of_ble_eq_true rfl)
  refine W.eq (g2 := F0 m 0 ((lg_sl ([.ref aS, .ref aSo] : List Value) ++ List.replicate (2 - (lg_sl ([.ref aS, .ref aSo] : List Value)).length) Slot.unset).toArray) []) (by rw [ha]; exact lg_entry_eq _ _ _) ?_
  generalize (lg_sl ([.ref aS, .ref aSo] : List Value) ++ List.replicate (2 - (lg_sl ([.ref aS, .ref aSo] : List Value)).length) Slot.unset).toArray = ls at hl ⊢
  have hl : lv_has ls 2 [(0, .ref aS), (1, .ref aSo)] := hl
  rw [f4_copyFrom] at hF
  show uW p l e wsX4_copyFrom rm4_copyFrom s m args below meth c D none A0 (W44 cI aS aL aW aB aF aZ aK aM aSo aLo aWo aBo aFo aZo aKo aMo z_sr z_wm z_wW z_bh z_bF z_bZ z_bK z_bM sro wmo wWo bho bFo bZo bKo bMo) s.heap [] (F0 m 0 ls [])
  refine lv_aload_n hx hb dX4_copyFrom_0 rfl (lv_at hl 0 rfl) ?_
  refine va_get (D := D) (ci := 4) (v := .ref aL) (C := RX4) (T := TX4) (N := 3) hx hb hts i_X4 hown hK.1 hP 0 rfl rfl 0 (by decide) (hts _ wd_88) (fun _ h9 => h9) rfl dX4_copyFrom_1 ?_
  refine lv_aload_n hx hb dX4_copyFrom_4 rfl (lv_at hl 1 rfl) ?_
  refine va_get (D := D) (ci := 4) (v := .ref aLo) (C := RX4) (T := TX4) (N := 3) hx hb hts i_X4 hown hK.1 hP 8 rfl rfl 0 (by decide) (hts _ wd_88) (fun _ h9 => h9) rfl dX4_copyFrom_5 ?_
  obtain ⟨u2, u3, h1, hF⟩ := bd2_at hF
  refine ucallv (ws' := (W44 cI aS aL aW aB aF aZ aK aM aSo aLo aWo aBo aFo aZo aKo aMo sr u2 u3 bh bF bZ bK bM sro wmo wWo bho bFo bZo bKo bMo)) (va_runV (As := [.ref aLo]) (rest := []) S (K2_copyFrom l D cI cZ cS cJ aL aW aLo aWo wm wW wmo wWo u2 u3 h1) (cwV 1 hts (gd_V wd_291 wd_292 wd_293 wd_24 wd_294) rfl rfl rfl hd2_copyFrom ⟨Nat.le_of_ble_eq_true rfl, Nat.le_of_ble_eq_true rfl⟩) (uPreV hK (hP.sub (ws' := (W22 cI aL aW aLo aWo wm wW wmo wWo)) [1, 2, 9, 10] rfl) (hD.sub (ws' := (W22 cI aL aW aLo aWo wm wW wmo wWo)) [1, 2, 9, 10] (by decide) rfl) (ci := 2) (q := (RX2, TX2, 2)) rfl rfl) rfl rfl hl.1 rfl (lv_room (Nat.le_of_ble_eq_true rfl)) dX4_copyFrom_8 ⟨(Nat.zero_le _), (Nat.zero_le _)⟩) hS hP hD [1, 2, 9, 10] rfl rfl rfl rfl (fun H locs hP hD hS => ?_)
  refine lv_aload_n hx hb dX4_copyFrom_11 rfl (lv_at hl 0 rfl) ?_
  refine va_get (D := D) (ci := 4) (v := .ref aB) (C := RX4) (T := TX4) (N := 3) hx hb hts i_X4 hown hK.1 hP 0 rfl rfl 1 (by decide) (hts _ wd_90) (fun _ h9 => h9) rfl dX4_copyFrom_12 ?_
  refine lv_aload_n hx hb dX4_copyFrom_15 rfl (lv_at hl 1 rfl) ?_
  refine va_get (D := D) (ci := 4) (v := .ref aBo) (C := RX4) (T := TX4) (N := 3) hx hb hts i_X4 hown hK.1 hP 8 rfl rfl 1 (by decide) (hts _ wd_90) (fun _ h9 => h9) rfl dX4_copyFrom_16 ?_
  obtain ⟨u5, u6, u7, u8, u9, h4, hF⟩ := bd5_at hF
  refine ucallv (ws' := (W44 cI aS aL aW aB aF aZ aK aM aSo aLo aWo aBo aFo aZo aKo aMo sr u2 u3 u5 u6 u7 u8 u9 sro wmo wWo bho bFo bZo bKo bMo)) (va_runV (As := [.ref aBo]) (rest := []) S (K0_copyFrom l D cI cZ cS cJ aB aF aZ aK aM aBo aFo aZo aKo aMo bh bF bZ bK bM bho bFo bZo bKo bMo u5 u6 u7 u8 u9 h4) (cwV 1 hts (gd_V wd_298 wd_299 wd_300 wd_25 wd_301) rfl rfl rfl hd0_copyFrom ⟨Nat.le_of_ble_eq_true rfl, Nat.le_of_ble_eq_true rfl⟩) (uPreV hK (hP.sub (ws' := (W00 cI aB aF aZ aK aM aBo aFo aZo aKo aMo bh bF bZ bK bM bho bFo bZo bKo bMo)) [3, 4, 5, 6, 7, 11, 12, 13, 14, 15] rfl) (hD.sub (ws' := (W00 cI aB aF aZ aK aM aBo aFo aZo aKo aMo bh bF bZ bK bM bho bFo bZo bKo bMo)) [3, 4, 5, 6, 7, 11, 12, 13, 14, 15] (by decide) rfl) (ci := 0) (q := (RX0, TX0, 5)) rfl rfl) rfl rfl hl.1 rfl (lv_room (Nat.le_of_ble_eq_true rfl)) dX4_copyFrom_19 ⟨(Nat.zero_le _), (Nat.zero_le _)⟩) hS hP hD [3, 4, 5, 6, 7, 11, 12, 13, 14, 15] rfl rfl rfl rfl (fun H locs hP hD hS => ?_)
  refine lv_aload_n hx hb dX4_copyFrom_22 rfl (lv_at hl 0 rfl) ?_
  refine lv_aload_n hx hb dX4_copyFrom_23 rfl (lv_at hl 1 rfl) ?_
  refine va_get (D := D) (ci := 4) (v := .int sro) (C := RX4) (T := TX4) (N := 3) hx hb hts i_X4 hown hK.1 hP 8 rfl rfl 2 (by decide) (hts _ wd_92) (fun _ h9 => h9) rfl dX4_copyFrom_24 ?_
  refine va_put (D := D) (ci := 4) (v := .int sro) (ty := .int) (C := RX4) (T := TX4) (N := 3) hx hb hts i_X4 tyX4 tyX4_ok nmX4 hown hK.1 hP hD hS 0 rfl rfl 2 (by decide) (hts _ wd_92) (fun _ h9 => h9) rfl (by decide +kernel) rfl rfl (Nat.le_of_ble_eq_true rfl) dX4_copyFrom_27 (fun H locs hP hD hS => ?_)
  have hP : va_P D vwCl (W44 cI aS aL aW aB aF aZ aK aM aSo aLo aWo aBo aFo aZo aKo aMo sro u2 u3 u5 u6 u7 u8 u9 sro wmo wWo bho bFo bZo bKo bMo) H := hP
  have hD : va_D A0 (W44 cI aS aL aW aB aF aZ aK aM aSo aLo aWo aBo aFo aZo aKo aMo sro u2 u3 u5 u6 u7 u8 u9 sro wmo wWo bho bFo bZo bKo bMo) := hD
  cases hF
  exact uretv hx hb hr hlocks hP hS dX4_copyFrom_30
