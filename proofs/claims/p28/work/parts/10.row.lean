abbrev rm5_copyRow : Room := { frames := 0, cells := 0, slots := 0, locals := 0 }
theorem hdn5_copyRow : yX5_copyRow.cls ≠ "java/lang/invoke/MethodHandle" ∧ yX5_copyRow.cls ≠ "java/lang/invoke/VarHandle" ∧ (parseMethodDescriptor yX5_copyRow.desc).map (fun d => d.parameters.length) = some 2 := by decide +kernel
set_option maxHeartbeats 4000000 in
set_option maxRecDepth 100000 in
theorem K5_copyRow (l : Launch) (D : va_G) (cI cZ cS cJ : ClassId) (aG aH nG nH : Nat) (gA : Nat → Int32) (gB : Nat → Int32) (z_gB : Nat → Int32) (hF : f5_copyRow nG nH gA gB = some (z_gB)) : Met l yX5_copyRow wsX5_copyRow rm5_copyRow (uP D (gT cI cZ cS cJ) (WC cI aG aH nG nH gA gB) [.ref aG, .ref aH]) (uQ D none (uA (WC cI aG aH nG nH gA gB)) (WC cI aG aH nG nH gA z_gB)) 0 0 (uA (WC cI aG aH nG nH gA gB)) := by
  refine Met.ofW (cc := cX5_copyRow) (maxL := 3) (ret := none) (by decide) rfl ?_
  intro p e s m args below meth c s₁ B hml hv
  obtain ⟨ha, hK, hP, hD0⟩ := hv
  have hx := B.exec
  have hb := B.bytes
  have hr := B.returns
  have hlocks := B.notSynchronized
  have hts : ∀ w ∈ lw_all, w.before args s = true := fun w h => atoms_spec (ws := wsX5_copyRow) B.pre w (List.mem_cons_of_mem _ h)
  have hown : s.vm.findClass RX5 = some m.cls := findClass_of_methodNamed B.named
  have S : CallFix p m c cX5_copyRow 3 s args lw_all RX5 := ⟨hx, hb, hml, hown, hts⟩
  have hD := hD0.own
  generalize uA (WC cI aG aH nG nH gA gB) = A0 at hD ⊢
  have hS : va_S A0 s.heap s.heap [] := va_S.rf
  have hl := lv_entry ([.ref aG, .ref aH] : List Value) (n := 3) (Nat.le_of_ble_eq_true rfl)
  refine W.eq (g2 := F0 m 0 ((lg_sl ([.ref aG, .ref aH] : List Value) ++ List.replicate (3 - (lg_sl ([.ref aG, .ref aH] : List Value)).length) Slot.unset).toArray) []) (by rw [ha]; exact lg_entry_eq _ _ _) ?_
  generalize (lg_sl ([.ref aG, .ref aH] : List Value) ++ List.replicate (3 - (lg_sl ([.ref aG, .ref aH] : List Value)).length) Slot.unset).toArray = ls at hl ⊢
  have hl : lv_has ls 3 [(0, .ref aG), (1, .ref aH)] := hl
  clear ha
  have W_2 : ∀  (n : Nat) (x2 : Int32) (gB : Nat → Int32), ∀ (H : Heap) (locs : List Loc), va_P D vwCl (WC cI aG aH nG nH gA gB) H → va_D A0 (WC cI aG aH nG nH gA gB) → va_S A0 s.heap H locs → ∀ (ls : Array Slot), lv_has ls 3 [(0, .ref aG), (1, .ref aH), (2, .int x2)] → f5_copyRow_l2 nG nH gA n x2 gB = some (z_gB) → uW p l e wsX5_copyRow rm5_copyRow s m args below meth c D none A0 (WC cI aG aH nG nH gA z_gB) H locs (F0 m 2 ls []) := by
    intro   n
    induction n with
    | zero =>
      intro x2 gB H locs hP hD hS ls hl hF
      rw [f5_copyRow_l2] at hF
      cases hF
    | succ n ih =>
      intro x2 gB H locs hP hD hS ls hl hF
      rw [f5_copyRow_l2] at hF
      refine lv_iload_n hx hb dX5_copyRow_2 rfl (lv_at hl 2 rfl) ?_
      refine lv_aload_n hx hb dX5_copyRow_3 rfl (lv_at hl 1 rfl) ?_
      refine va_alen (v := (Int32.ofNat nH)) hx hb hK.1 hP 1 0 rfl rfl rfl dX5_copyRow_4 ?_
      refine lv_icmp_ge (tgt := 26) hx hb dX5_copyRow_5 (by decide) (fun c1 => ?_) (fun c1 => ?_)
      · have hF := ite_t c1 hF
        cases hF
        exact uretv hx hb hr hlocks hP hS dX5_copyRow_26
      · have hF := ite_f c1 hF
        refine lv_iload_n hx hb dX5_copyRow_8 rfl (lv_at hl 2 rfl) ?_
        refine lv_aload_n hx hb dX5_copyRow_9 rfl (lv_at hl 0 rfl) ?_
        refine va_alen (v := (Int32.ofNat nG)) hx hb hK.1 hP 0 0 rfl rfl rfl dX5_copyRow_10 ?_
        refine lv_icmp_ge (tgt := 26) hx hb dX5_copyRow_11 (by decide) (fun c2 => ?_) (fun c2 => ?_)
        · have hF := ite_t c2 hF
          cases hF
          exact uretv hx hb hr hlocks hP hS dX5_copyRow_26
        · have hF := ite_f c2 hF
          refine lv_aload_n hx hb dX5_copyRow_14 rfl (lv_at hl 1 rfl) ?_
          refine lv_iload_n hx hb dX5_copyRow_15 rfl (lv_at hl 2 rfl) ?_
          refine lv_aload_n hx hb dX5_copyRow_16 rfl (lv_at hl 0 rfl) ?_
          refine lv_iload_n hx hb dX5_copyRow_17 rfl (lv_at hl 2 rfl) ?_
          obtain ⟨g3, hF⟩ := gd_at hF
          refine va_iald hx hb hK.1 hP 0 0 rfl rfl g3 dX5_copyRow_18 ?_
          obtain ⟨g4, hF⟩ := gd_at hF
          refine va_iast hx hb hK.1 hP hD hS 1 0 rfl rfl g4 dX5_copyRow_19 (fun H locs hP hD hS => ?_)
          have hP : va_P D vwCl (WC cI aG aH nG nH gA (upd gB x2.toNatClampNeg (gA x2.toNatClampNeg))) H := hP
          have hD : va_D A0 (WC cI aG aH nG nH gA (upd gB x2.toNatClampNeg (gA x2.toNatClampNeg))) := hD
          refine lv_iinc (v := (x2 + 1)) (lv' := [(2, .int (x2 + 1)), (0, .ref aG), (1, .ref aH)]) hx hb dX5_copyRow_20 hl (k := 2) rfl rfl (by decide) rfl (fun ls hl => ?_)
          refine lv_goto (tgt := 2) hx hb dX5_copyRow_23 (by decide) ?_
          exact ih (x2 + 1) (upd gB x2.toNatClampNeg (gA x2.toNatClampNeg)) _ _ hP hD hS ls (lv_sub hl [1, 2, 0] rfl) hF
  rw [f5_copyRow] at hF
  show uW p l e wsX5_copyRow rm5_copyRow s m args below meth c D none A0 (WC cI aG aH nG nH gA z_gB) s.heap [] (F0 m 0 ls [])
  refine lv_iconst hx hb dX5_copyRow_0 kc_iconst_0 ?_
  refine lv_istore_n (lv' := [(2, .int (0 : Int32)), (0, .ref aG), (1, .ref aH)]) hx hb dX5_copyRow_1 rfl hl (by decide) rfl (fun ls hl => ?_)
  exact W_2   fu (0 : Int32) gB _ _ hP hD hS ls (lv_sub hl [1, 2, 0] rfl) hF
abbrev rm5_positionsOf : Room := { frames := 0, cells := 0, slots := 0, locals := 0 }
theorem hdn5_positionsOf : yX5_positionsOf.cls ≠ "java/lang/invoke/MethodHandle" ∧ yX5_positionsOf.cls ≠ "java/lang/invoke/VarHandle" ∧ (parseMethodDescriptor yX5_positionsOf.desc).map (fun d => d.parameters.length) = some 1 := by decide +kernel
set_option maxHeartbeats 4000000 in
set_option maxRecDepth 100000 in
theorem K5_positionsOf (l : Launch) (D : va_G) (cI cZ cS cJ : ClassId) (x0 : Int32) (r : Int32) (hF : f5_positionsOf x0 = some (r)) : Met l yX5_positionsOf wsX5_positionsOf rm5_positionsOf (rP D (gT cI cZ cS cJ) ([] : va_W) [.int x0]) (rQ (.int r)) 0 0 (fun _ => False) := by
  refine Met.ofW (cc := cX5_positionsOf) (maxL := 1) (ret := (some .int)) (by decide) rfl ?_
  intro p e s m args below meth c s₁ B hml hv
  obtain ⟨ha, hK, hP⟩ := hv
  have hx := B.exec
  have hb := B.bytes
  have hr := B.returns
  have hlocks := B.notSynchronized
  have hts : ∀ w ∈ lw_all, w.before args s = true := fun w h => atoms_spec (ws := wsX5_positionsOf) B.pre w (List.mem_cons_of_mem _ h)
  have hown : s.vm.findClass RX5 = some m.cls := findClass_of_methodNamed B.named
  have S : CallFix p m c cX5_positionsOf 1 s args lw_all RX5 := ⟨hx, hb, hml, hown, hts⟩
  have hl := lv_entry ([.int x0] : List Value) (n := 1) (Nat.le_of_ble_eq_true rfl)
  refine W.eq (g2 := F0 m 0 ((lg_sl ([.int x0] : List Value) ++ List.replicate (1 - (lg_sl ([.int x0] : List Value)).length) Slot.unset).toArray) []) (by rw [ha]; exact lg_entry_eq _ _ _) ?_
  generalize (lg_sl ([.int x0] : List Value) ++ List.replicate (1 - (lg_sl ([.int x0] : List Value)).length) Slot.unset).toArray = ls at hl ⊢
  have hl : lv_has ls 1 [(0, .int x0)] := hl
  rw [f5_positionsOf] at hF
  show rW p l e wsX5_positionsOf rm5_positionsOf s m args below meth c (.int r) (F0 m 0 ls [])
  refine lv_iload_n hx hb dX5_positionsOf_0 rfl (lv_at hl 0 rfl) ?_
  refine lv_iconst hx hb dX5_positionsOf_1 kc_iconst_1 ?_
  refine lv_icmp_ne (tgt := 9) hx hb dX5_positionsOf_2 (by decide) (fun c1 => ?_) (fun c1 => ?_)
  · rw [if_neg c1] at hF
    refine lv_bipush hx hb dX5_positionsOf_9 kc_bipush_6 ?_
    exact rret hF hx hb hr hlocks dX5_positionsOf_11
  · rw [if_pos c1] at hF
    refine lv_iconst hx hb dX5_positionsOf_5 kc_iconst_5 ?_
    refine lv_goto (tgt := 11) hx hb dX5_positionsOf_6 (by decide) ?_
    exact rret hF hx hb hr hlocks dX5_positionsOf_11
abbrev rm5_isSerial : Room := { frames := 0, cells := 0, slots := 0, locals := 0 }
theorem hdn5_isSerial : yX5_isSerial.cls ≠ "java/lang/invoke/MethodHandle" ∧ yX5_isSerial.cls ≠ "java/lang/invoke/VarHandle" ∧ (parseMethodDescriptor yX5_isSerial.desc).map (fun d => d.parameters.length) = some 1 := by decide +kernel
set_option maxHeartbeats 4000000 in
set_option maxRecDepth 100000 in
theorem K5_isSerial (l : Launch) (D : va_G) (cI cZ cS cJ : ClassId) (x0 : Int32) (r : Int32) (hF : f5_isSerial x0 = some (r)) : Met l yX5_isSerial wsX5_isSerial rm5_isSerial (rP D (gT cI cZ cS cJ) ([] : va_W) [.int x0]) (rQ (.int r)) 0 0 (fun _ => False) := by
  refine Met.ofW (cc := cX5_isSerial) (maxL := 1) (ret := (some .boolean)) (by decide) rfl ?_
  intro p e s m args below meth c s₁ B hml hv
  obtain ⟨ha, hK, hP⟩ := hv
  have hx := B.exec
  have hb := B.bytes
  have hr := B.returns
  have hlocks := B.notSynchronized
  have hts : ∀ w ∈ lw_all, w.before args s = true := fun w h => atoms_spec (ws := wsX5_isSerial) B.pre w (List.mem_cons_of_mem _ h)
  have hown : s.vm.findClass RX5 = some m.cls := findClass_of_methodNamed B.named
  have S : CallFix p m c cX5_isSerial 1 s args lw_all RX5 := ⟨hx, hb, hml, hown, hts⟩
  have hl := lv_entry ([.int x0] : List Value) (n := 1) (Nat.le_of_ble_eq_true rfl)
  refine W.eq (g2 := F0 m 0 ((lg_sl ([.int x0] : List Value) ++ List.replicate (1 - (lg_sl ([.int x0] : List Value)).length) Slot.unset).toArray) []) (by rw [ha]; exact lg_entry_eq _ _ _) ?_
  generalize (lg_sl ([.int x0] : List Value) ++ List.replicate (1 - (lg_sl ([.int x0] : List Value)).length) Slot.unset).toArray = ls at hl ⊢
  have hl : lv_has ls 1 [(0, .int x0)] := hl
  rw [f5_isSerial] at hF
  show rW p l e wsX5_isSerial rm5_isSerial s m args below meth c (.int r) (F0 m 0 ls [])
  refine lv_iload_n hx hb dX5_isSerial_0 rfl (lv_at hl 0 rfl) ?_
  refine lv_if_lt (tgt := 15) hx hb dX5_isSerial_1 (by decide) (fun c1 => ?_) (fun c1 => ?_)
  · rw [if_pos c1] at hF
    refine lv_iconst hx hb dX5_isSerial_15 kc_iconst_0 ?_
    exact rretz (by decide) hF hx hb hr hlocks dX5_isSerial_16
  · rw [if_neg c1] at hF
    refine lv_iload_n hx hb dX5_isSerial_4 rfl (lv_at hl 0 rfl) ?_
    refine lv_ldcw hx hb hown (hts _ wd_160) dX5_isSerial_5 ?_
    refine lv_icmp_ge (tgt := 15) hx hb dX5_isSerial_8 (by decide) (fun c2 => ?_) (fun c2 => ?_)
    · rw [if_pos c2] at hF
      refine lv_iconst hx hb dX5_isSerial_15 kc_iconst_0 ?_
      exact rretz (by decide) hF hx hb hr hlocks dX5_isSerial_16
    · rw [if_neg c2] at hF
      refine lv_iconst hx hb dX5_isSerial_11 kc_iconst_1 ?_
      refine lv_goto (tgt := 16) hx hb dX5_isSerial_12 (by decide) ?_
      exact rretz (by decide) hF hx hb hr hlocks dX5_isSerial_16
abbrev rm5_faultOfRun : Room := { frames := 1, cells := 0, slots := 0, locals := 20 }
theorem hdn5_faultOfRun : yX5_faultOfRun.cls ≠ "java/lang/invoke/MethodHandle" ∧ yX5_faultOfRun.cls ≠ "java/lang/invoke/VarHandle" ∧ (parseMethodDescriptor yX5_faultOfRun.desc).map (fun d => d.parameters.length) = some 2 := by decide +kernel
set_option maxHeartbeats 4000000 in
set_option maxRecDepth 100000 in
theorem K5_faultOfRun (l : Launch) (D : va_G) (cI cZ cS cJ : ClassId) (x0 : Int32) (x1 : Int32) (r : Int32) (hF : f5_faultOfRun x0 x1 = some (r)) : Met l yX5_faultOfRun wsX5_faultOfRun rm5_faultOfRun (rP D (gT cI cZ cS cJ) ([] : va_W) [.int x0, .int x1]) (rQ (.int r)) 0 0 (fun _ => False) := by
  refine Met.ofW (cc := cX5_faultOfRun) (maxL := 2) (ret := (some .int)) (by decide) rfl ?_
  intro p e s m args below meth c s₁ B hml hv
  obtain ⟨ha, hK, hP⟩ := hv
  have hx := B.exec
  have hb := B.bytes
  have hr := B.returns
  have hlocks := B.notSynchronized
  have hts : ∀ w ∈ lw_all, w.before args s = true := fun w h => atoms_spec (ws := wsX5_faultOfRun) B.pre w (List.mem_cons_of_mem _ h)
  have hown : s.vm.findClass RX5 = some m.cls := findClass_of_methodNamed B.named
  have S : CallFix p m c cX5_faultOfRun 2 s args lw_all RX5 := ⟨hx, hb, hml, hown, hts⟩
  have hl := lv_entry ([.int x0, .int x1] : List Value) (n := 2) (Nat.le_of_ble_eq_true rfl)
  refine W.eq (g2 := F0 m 0 ((lg_sl ([.int x0, .int x1] : List Value) ++ List.replicate (2 - (lg_sl ([.int x0, .int x1] : List Value)).length) Slot.unset).toArray) []) (by rw [ha]; exact lg_entry_eq _ _ _) ?_
  generalize (lg_sl ([.int x0, .int x1] : List Value) ++ List.replicate (2 - (lg_sl ([.int x0, .int x1] : List Value)).length) Slot.unset).toArray = ls at hl ⊢
  have hl : lv_has ls 2 [(0, .int x0), (1, .int x1)] := hl
  rw [f5_faultOfRun] at hF
  show rW p l e wsX5_faultOfRun rm5_faultOfRun s m args below meth c (.int r) (F0 m 0 ls [])
  refine lv_iload_n hx hb dX5_faultOfRun_0 rfl (lv_at hl 0 rfl) ?_
  obtain ⟨q2, h1, hF⟩ := bd1_at hF
  refine rcall (va_runS (As := [.int x0]) (rest := []) S (K5_isSerial l D cI cZ cS cJ x0 q2 h1) (va_cwS 1 hts (gd_S wd_157 wd_158 wd_22 wd_159) rfl rfl rfl hdn5_isSerial ⟨Nat.le_of_ble_eq_true rfl, Nat.le_of_ble_eq_true rfl⟩) (rPreS hK hP) rfl rfl hl.1 rfl (lv_room (Nat.le_of_ble_eq_true rfl)) dX5_faultOfRun_1 ⟨(Nat.zero_le _), (Nat.zero_le _)⟩) ?_
  refine lv_if_eq (tgt := 14) hx hb dX5_faultOfRun_4 (by decide) (fun c3 => ?_) (fun c3 => ?_)
  · have hF := ite_t c3 hF
    refine lv_iconst hx hb dX5_faultOfRun_14 kc_iconst_1 ?_
    exact rret hF hx hb hr hlocks dX5_faultOfRun_15
  · have hF := ite_f c3 hF
    refine lv_iload_n hx hb dX5_faultOfRun_7 rfl (lv_at hl 1 rfl) ?_
    obtain ⟨q5, h4, hF⟩ := bd1_at hF
    refine rcall (va_runS (As := [.int x1]) (rest := []) S (K5_isSerial l D cI cZ cS cJ x1 q5 h4) (va_cwS 1 hts (gd_S wd_157 wd_158 wd_22 wd_159) rfl rfl rfl hdn5_isSerial ⟨Nat.le_of_ble_eq_true rfl, Nat.le_of_ble_eq_true rfl⟩) (rPreS hK hP) rfl rfl hl.1 rfl (lv_room (Nat.le_of_ble_eq_true rfl)) dX5_faultOfRun_8 ⟨(Nat.zero_le _), (Nat.zero_le _)⟩) ?_
    refine lv_if_ne (tgt := 16) hx hb dX5_faultOfRun_11 (by decide) (fun c6 => ?_) (fun c6 => ?_)
    · rw [if_neg c6] at hF
      refine lv_iload_n hx hb dX5_faultOfRun_16 rfl (lv_at hl 1 rfl) ?_
      refine lv_iload_n hx hb dX5_faultOfRun_17 rfl (lv_at hl 0 rfl) ?_
      refine lv_icmp_ge (tgt := 25) hx hb dX5_faultOfRun_18 (by decide) (fun c7 => ?_) (fun c7 => ?_)
      · rw [if_pos c7] at hF
        refine lv_iconst hx hb dX5_faultOfRun_25 kc_iconst_0 ?_
        exact rret hF hx hb hr hlocks dX5_faultOfRun_26
      · rw [if_neg c7] at hF
        refine lv_iconst hx hb dX5_faultOfRun_21 kc_iconst_2 ?_
        refine lv_goto (tgt := 26) hx hb dX5_faultOfRun_22 (by decide) ?_
        exact rret hF hx hb hr hlocks dX5_faultOfRun_26
    · rw [if_pos c6] at hF
      refine lv_iconst hx hb dX5_faultOfRun_14 kc_iconst_1 ?_
      exact rret hF hx hb hr hlocks dX5_faultOfRun_15
/-- copying a row of the same length: in the end the two rows hold the same -/
theorem f5_copyRow_turn (n : Nat) (gA : Nat → Int32) (hn : n < 4000) : ∀ (t i : Nat) (gB : Nat → Int32), i ≤ n → n - i < t → (∀ j, j < i → gB j = gA j) → ∃ g, f5_copyRow_l2 n n gA t (nI i) gB = some g ∧ ∀ j, j < n → g j = gA j := by
  intro t
  induction t with
  | zero => intro i gB hi ht; omega
  | succ t ih =>
    intro i gB hi ht hB
    rw [f5_copyRow_l2]
    by_cases h : n ≤ i
    · have h1 : Int32.ofNat n ≤ nI i := nI_le h (by omega)
      rw [if_pos h1]
      exact ⟨gB, rfl, fun j hj => hB j (by omega)⟩
    · have h1 : ¬ Int32.ofNat n ≤ nI i := nI_ge (by omega) (by omega)
      have h2 : inb (nI i) n := vp_in_nI (by omega) (by omega)
      rw [if_neg h1, if_neg h1, if_pos h2, if_pos h2, nI_1]
      refine ih (i + 1) _ (by omega) (by omega) fun j hj => ?_
      rw [nI_clamp (by omega)]
      by_cases hji : j = i
      · subst hji
        exact pk_us
      · rw [pk_un hji]
        exact hB j (by omega)
theorem K5_copyRowE (l : Launch) (D : va_G) (cI cZ cS cJ : ClassId) (aG aH nG nH : Nat) (gA : Nat → Int32) (gB : Nat → Int32) (z_gB : Nat → Int32) (hF : f5_copyRowE nG nH gA gB = some (z_gB)) : Met l yX5_copyRow wsX5_copyRow rm5_copyRow (uP D (gT cI cZ cS cJ) (WC cI aG aH nG nH gA gB) [.ref aG, .ref aH]) (uQ D none (uA (WC cI aG aH nG nH gA gB)) (WC cI aG aH nG nH gA z_gB)) 0 0 (uA (WC cI aG aH nG nH gA gB)) := by
  obtain ⟨⟨rfl, hn⟩, hF2⟩ := gd_at hF
  obtain rfl := Option.some.inj hF2
  obtain ⟨g, h1, h2⟩ := f5_copyRow_turn nG gA hn 4000 0 gB (Nat.zero_le _) (by omega) (fun j hj => by omega)
  refine Met.weaken (K5_copyRow l D cI cZ cS cJ aG aH nG nG gA gB g (by rw [f5_copyRow]; exact h1)) (fun _ _ h => h) (fun a s o t h => ⟨h.1, ?_, h.2.2⟩)
  exact h.2.1.re 1 rfl h2 rfl
