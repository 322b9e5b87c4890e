
/-! ===== what is made: rows and their words ===== -/
/-- the zeros of a new row -/
abbrev i0 : Nat → Int32 := fun _ => 0
/-- the nest links of constructors; rows of states can be made -/
def gM (U : State) : Prop := va_Nw (.methodLinkNest RX5 9 yX4_init RX5) U ∧ va_Nw (.methodLinkNest RX4 20 yX0_init RX5) U ∧ va_Nw (.methodLinkNest RX1 24 yX4_init RX5) U ∧ va_Nw (.methodLinkNest RX5 25 yX3_init RX5) U ∧ va_AO RX4 U
theorem gM.warm {s U : State} (hW : s.WarmedH U.vm) (h : gM s) : gM U := ⟨va_Nw.warmM hW h.1, va_Nw.warmM hW h.2.1, va_Nw.warmM hW h.2.2.1, va_Nw.warmM hW h.2.2.2.1, va_AO.moved hW.alike h.2.2.2.2⟩
theorem gM.same {s U : State} (hW : s.vm = U.vm) (h : gM s) : gM U := ⟨va_Nw.same rfl hW h.1, va_Nw.same rfl hW h.2.1, va_Nw.same rfl hW h.2.2.1, va_Nw.same rfl hW h.2.2.2.1, va_AO.moved (by rw [hW]; exact Vm.Alike.refl U.vm) h.2.2.2.2⟩
/-- a constructor's start, and its end: what u tells of its cells -/
def cP (D : va_G) (tys : List (ClassId × FieldType)) (ws : va_W) (av : List Value) (sz : Nat) : Array Value → State → Prop := fun v U => v = av.toArray ∧ U.heap.size = sz ∧ gK D tys U ∧ gM U ∧ va_P D vwCl ws U.heap ∧ va_D (fun _ => True) ws
theorem cP_blind (D : va_G) (tys : List (ClassId × FieldType)) (ws : va_W) (av : List Value) (sz : Nat) : FrameBlind (cP D tys ws av sz) := fun _ U _ _ h => ⟨h.1, h.2.1, h.2.2.1.same rfl, gM.same (s := U) rfl h.2.2.2.1, h.2.2.2.2.1, h.2.2.2.2.2⟩
abbrev cQ {S : Type} (D : va_G) (A : Nat → Prop) (wf : S → va_W) : Array Value → State → Outcome → State → Prop := va_Qv (fun _ : S => True) (fun u t => va_P D vwCl (wf u) t.heap ∧ va_D A (wf u)) A
section MRows
variable {p : Program} {l : Launch} {e : Env} {R : Room} {s : State} {m : MethodId} {args : Array Value} {below : List Frame} {meth : Method} {c : Code} {H : Heap} {locs : List Loc} {cells slots : Nat} {Q : State → Prop}
variable {cc : ByteArray} {pc : Nat} {ls : Array Slot} {rest : List Value} {D : va_G} {A : Nat → Prop} {cI cZ cS cJ : ClassId} {ws wc : va_W} {H0 : Heap} {As : List Value} {tys : List (ClassId × FieldType)}
theorem cPreS (hK : gK D tys s) (hM : gM s) (hP : va_P D vwCl wc H) (hD : va_D A wc) : PreS s H (cP D tys wc As H.size) As :=
  ⟨cP_blind D tys wc _ _, fun U hU hW => ⟨rfl, by rw [hU], hK.warm hW, hM.warm hW, by rw [hU]; exact hP, hD.weaken (fun _ _ _ _ => trivial)⟩⟩
theorem nw_int (hx : p.tables.exec = Jvm.exec) (hb : c.code = cc) (harr : (Cond.arrayClass .int).before args s = true) (hK : gK D (gT cI cZ cS cJ) s) (hP : va_P D vwCl ws H) (hD : va_D A ws) (hS : va_S A H0 H locs) (hA : ∀ q, H0.size ≤ q → A q)
    {n : Int32} {N' : Nat} (hn : ¬ n < 0) (hN : n.toNatClampNeg = N') (hbytes : N' * 4 ≤ 536870912) (hcells : cells + 1 ≤ R.cells) (hslots : slots + N' ≤ R.slots) (hdg : decode cc pc = .ok (.newarray .int, 2))
    (kk : ∀ (q : Nat) (H1 : Heap), va_P D vwCl (ws ++ [(q, .inl (cI, N', .inl i0))]) H1 → va_D A (ws ++ [(q, .inl (cI, N', .inl i0))]) → va_S A H0 H1 locs → W p l e R s m args below meth c H1 locs (cells + 1) (slots + N') Q (F0 m (pc + 2) ls (.ref q :: rest))) : W p l e R s m args below meth c H locs cells slots Q (F0 m pc ls (.int n :: rest)) := by
  refine va_newa (atype := .int) (ty := .int) (a0 := (N', .inl i0)) hx hb harr rfl hK.1 hP hD hS hA (fun _ => rfl) hn hN hbytes hcells hslots hdg (fun q cA H1 hK2 hP1 hD1 hS1 => ?_)
  have h1 : s.vm.findClass ("[" ++ FieldType.int.toString) = some cA := (hK2.2 4 (cA, .int) rfl).2
  have h2 : s.vm.findClass ("[" ++ FieldType.int.toString) = some cI := (hK.1.2 0 (cI, .int) rfl).2
  obtain rfl : cA = cI := Option.some.inj (h1.symm.trans h2)
  exact kk q H1 hP1 hD1 hS1
theorem nw_boolean (hx : p.tables.exec = Jvm.exec) (hb : c.code = cc) (harr : (Cond.arrayClass .boolean).before args s = true) (hK : gK D (gT cI cZ cS cJ) s) (hP : va_P D vwCl ws H) (hD : va_D A ws) (hS : va_S A H0 H locs) (hA : ∀ q, H0.size ≤ q → A q)
    {n : Int32} {N' : Nat} (hn : ¬ n < 0) (hN : n.toNatClampNeg = N') (hbytes : N' * componentBytes .boolean ≤ 536870912) (hcells : cells + 1 ≤ R.cells) (hslots : slots + N' ≤ R.slots) (hdg : decode cc pc = .ok (.newarray .boolean, 2))
    (kk : ∀ (q : Nat) (H1 : Heap), va_P D vwCl (ws ++ [(q, .inl (cZ, N', .inl i0))]) H1 → va_D A (ws ++ [(q, .inl (cZ, N', .inl i0))]) → va_S A H0 H1 locs → W p l e R s m args below meth c H1 locs (cells + 1) (slots + N') Q (F0 m (pc + 2) ls (.ref q :: rest))) : W p l e R s m args below meth c H locs cells slots Q (F0 m pc ls (.int n :: rest)) := by
  refine va_newa (atype := .boolean) (ty := .boolean) (a0 := (N', .inl i0)) hx hb harr rfl hK.1 hP hD hS hA (fun _ => rfl) hn hN hbytes hcells hslots hdg (fun q cA H1 hK2 hP1 hD1 hS1 => ?_)
  have h1 : s.vm.findClass ("[" ++ FieldType.boolean.toString) = some cA := (hK2.2 4 (cA, .boolean) rfl).2
  have h2 : s.vm.findClass ("[" ++ FieldType.boolean.toString) = some cZ := (hK.1.2 1 (cZ, .boolean) rfl).2
  obtain rfl : cA = cZ := Option.some.inj (h1.symm.trans h2)
  exact kk q H1 hP1 hD1 hS1
theorem nw_state {own : String} {index : Nat} (hx : p.tables.exec = Jvm.exec) (hb : c.code = cc) (hown : s.vm.findClass own = some m.cls) (hcl : (Cond.classLink own index RX4).before args s = true) (hO : va_AO RX4 s) (hK : gK D (gT cI cZ cS cJ) s) (hP : va_P D vwCl ws H) (hD : va_D A ws) (hS : va_S A H0 H locs) (hA : ∀ q, H0.size ≤ q → A q)
    {n : Int32} {N' : Nat} (hn : ¬ n < 0) (hN : n.toNatClampNeg = N') (hbytes : N' * 4 ≤ 536870912) (hcells : cells + 1 ≤ R.cells) (hslots : slots + N' ≤ R.slots) (hdg : decode cc pc = .ok (.anewarray index, 3))
    (kk : ∀ (q : Nat) (H1 : Heap), va_P D vwCl (ws ++ [(q, .inl (cS, N', .inr (.inr (.inr (.inr (fun _ => none))))))]) H1 → va_D A (ws ++ [(q, .inl (cS, N', .inr (.inr (.inr (.inr (fun _ => none))))))]) → va_S A H0 H1 locs → W p l e R s m args below meth c H1 locs (cells + 1) (slots + N') Q (F0 m (pc + 3) ls (.ref q :: rest))) : W p l e R s m args below meth c H locs cells slots Q (F0 m pc ls (.int n :: rest)) := by
  refine va_newq hx hb hown hcl hO hK.1 hP hD hS hA hn hN hbytes hcells hslots hdg (fun q cA H1 hK2 hP1 hD1 hS1 => ?_)
  obtain ⟨-, -, -, -, -, h1⟩ := (hK2.2 4 (cA, .object RX4) rfl).2
  obtain ⟨-, -, -, -, -, h2⟩ := (hK.1.2 2 (cS, .object RX4) rfl).2
  obtain rfl : cA = cS := Option.some.inj (h1.symm.trans h2)
  exact kk q H1 hP1 hD1 hS1
end MRows
/-- the weights of a new object -/
abbrev iW : Nat → Int32 := upd (upd (upd (upd (upd (upd i0 (0 : Int32).toNatClampNeg 1) (1 : Int32).toNatClampNeg 2) (2 : Int32).toNatClampNeg 3) (3 : Int32).toNatClampNeg 4) (4 : Int32).toNatClampNeg 5) (5 : Int32).toNatClampNeg 6
abbrev iV : SV := (0, 11, iW, 0, i0, i0, i0, i0)
def mk6 (t0 t1 t2 t3 t4 t5 : SA) : Nat → SA := fun i => match i with | 0 => t0 | 1 => t1 | 2 => t2 | 3 => t3 | 4 => t4 | _ => t5
def mk2 (t0 t1 : SA) : Nat → SA := fun i => match i with | 0 => t0 | _ => t1
/-- the reference's row when it is new -/
abbrev iN : Nat → Int32 := upd (upd (upd (upd (upd (upd (upd i0 (1 : Int32).toNatClampNeg (11 : Int32)) (3 : Int32).toNatClampNeg (1 : Int32)) (4 : Int32).toNatClampNeg (2 : Int32)) (5 : Int32).toNatClampNeg (3 : Int32)) (6 : Int32).toNatClampNeg (4 : Int32)) (7 : Int32).toNatClampNeg (5 : Int32)) (8 : Int32).toNatClampNeg (6 : Int32)
theorem kc_bipush_11 : (Int8.ofInt (11)).toInt32 = (11 : Int32) := by decide
theorem kc_bipush_60 : (Int8.ofInt (60)).toInt32 = (60 : Int32) := by decide
theorem kc_sipush_240 : (Int16.ofInt (240)).toInt32 = (240 : Int32) := by decide
abbrev rm2_init : Room := { frames := 1, cells := 1, slots := 6, locals := 20 }
theorem hdn2_init : yX2_init.cls ≠ "java/lang/invoke/MethodHandle" ∧ yX2_init.cls ≠ "java/lang/invoke/VarHandle" ∧ (parseMethodDescriptor yX2_init.desc).map (fun d => d.parameters.length) = some 0 := by decide +kernel
set_option maxHeartbeats 8000000 in
set_option maxRecDepth 100000 in
theorem K2_init (l : Launch) (D : va_G) (cI cZ cS cJ : ClassId) (h0 sz : Nat) : Met l yX2_init wsX2_init rm2_init (cP D (gT cI cZ cS cJ) [(h0, .inr (2, [.null, .int 0]))] [.ref h0] sz) (cQ D (va_A [(h0, .inr (2, [.null, .int 0]))] sz) (fun u : Nat => (W2 cI h0 u 11 iW))) 1 6 (va_A [(h0, .inr (2, [.null, .int 0]))] sz) := by
  refine Met.ofW (cc := cX2_init) (maxL := 2) (ret := none) (by decide) rfl ?_
  intro p e s m args below meth c s₁ B hml hv
  obtain ⟨ha, hsz, hK, hM, hP, hD0⟩ := hv
  have hx := B.exec
  have hb := B.bytes
  have hr := B.returns
  have hlocks := B.notSynchronized
  have hin : meth.name = "<init>" := (name_of_methodNamed B.named B.method).1
  have hts : ∀ w ∈ lw_all, w.before args s = true := fun w h => atoms_spec (ws := wsX2_init) B.pre w (List.mem_cons_of_mem _ h)
  have hown : s.vm.findClass RX2 = some m.cls := findClass_of_methodNamed B.named
  have S : CallFix p m c cX2_init 2 s args lw_all RX2 := ⟨hx, hb, hml, hown, hts⟩
  subst hsz
  have hD := hD0.self (sz := s.heap.size)
  generalize hAe : va_A [(h0, .inr (2, [.null, .int 0]))] s.heap.size = A0 at hD ⊢
  have hA : ∀ q : Nat, s.heap.size ≤ q → A0 q := fun q h => by rw [← hAe]; exact Or.inr h
  have hS : va_S A0 s.heap s.heap [] := va_S.rf
  have hl := lv_entry ([.ref h0] : List Value) (n := 2) (Nat.le_of_ble_eq_true rfl)
  refine W.eq (g2 := F0 m 0 ((lg_sl ([.ref h0] : List Value) ++ List.replicate (2 - (lg_sl ([.ref h0] : List Value)).length) Slot.unset).toArray) []) (by rw [ha]; exact lg_entry_eq _ _ _) ?_
  generalize (lg_sl ([.ref h0] : List Value) ++ List.replicate (2 - (lg_sl ([.ref h0] : List Value)).length) Slot.unset).toArray = ls at hl ⊢
  have hl : lv_has ls 2 [(0, .ref h0)] := hl
  refine lv_aload_n hx hb dX2_init_0 rfl (lv_at hl 0 rfl) ?_
  refine W.objInit hx hb hown (hts _ wd_54) (hts _ wd_41) (hts _ wd_42) rfl (by rw [hml]; exact hl.1) rfl dX2_init_1 (Nat.le_of_ble_eq_true rfl) (Nat.le_of_ble_eq_true rfl) ?_
  refine W.eq (g2 := F0 m 4 ls []) rfl ?_
  refine lv_aload_n hx hb dX2_init_4 rfl (lv_at hl 0 rfl) ?_
  refine lv_bipush hx hb dX2_init_5 kc_bipush_6 ?_
  refine nw_int (N' := 6) hx hb (hts _ wd_63) hK hP hD hS hA (by decide) (by decide) (Nat.le_of_ble_eq_true rfl) (Nat.le_of_ble_eq_true rfl) (Nat.le_of_ble_eq_true rfl) dX2_init_7 (fun q1 H hP hD hS => ?_)
  have hP : va_P D vwCl [(h0, .inr (2, [.null, .int 0])), (q1, .inl (cI, 6, .inl i0))] H := hP
  have hD : va_D A0 [(h0, .inr (2, [.null, .int 0])), (q1, .inl (cI, 6, .inl i0))] := hD
  refine va_putF (D := D) (ci := 2) (v := .ref q1) (ty := tyX2 0) (C := RX2) (T := TX2) (N := 2) hx hb hts i_X2 tyX2 tyX2_ok nmX2 hown hK.1 hP hD hS 0 rfl rfl 0 (by decide) (hts _ wd_55) (fun _ h9 => h9) rfl hin rfl (by decide +kernel) rfl rfl (Nat.le_of_ble_eq_true rfl) dX2_init_9 (fun H locs hP hD hS => ?_)
  have hP : va_P D vwCl [(h0, .inr (2, [.ref q1, .int 0])), (q1, .inl (cI, 6, .inl i0))] H := hP
  have hD : va_D A0 [(h0, .inr (2, [.ref q1, .int 0])), (q1, .inl (cI, 6, .inl i0))] := hD
  refine lv_aload_n hx hb dX2_init_12 rfl (lv_at hl 0 rfl) ?_
  refine lv_bipush hx hb dX2_init_13 kc_bipush_11 ?_
  refine va_put (D := D) (ci := 2) (v := .int (11 : Int32)) (ty := tyX2 1) (C := RX2) (T := TX2) (N := 2) hx hb hts i_X2 tyX2 tyX2_ok nmX2 hown hK.1 hP hD hS 0 rfl rfl 1 (by decide) (hts _ wd_56) (fun _ h9 => h9) rfl (by decide +kernel) rfl rfl (Nat.le_of_ble_eq_true rfl) dX2_init_15 (fun H locs hP hD hS => ?_)
  have hP : va_P D vwCl [(h0, .inr (2, [.ref q1, .int (11 : Int32)])), (q1, .inl (cI, 6, .inl i0))] H := hP
  have hD : va_D A0 [(h0, .inr (2, [.ref q1, .int (11 : Int32)])), (q1, .inl (cI, 6, .inl i0))] := hD
  refine lv_iconst hx hb dX2_init_18 kc_iconst_0 ?_
  refine lv_istore_n (lv' := [(1, .int (0 : Int32)), (0, .ref h0)]) hx hb dX2_init_19 rfl hl (by decide) rfl (fun ls hl => ?_)
  refine lv_iload_n hx hb dX2_init_20 rfl (lv_at hl 0 rfl) ?_
  refine lv_aload_n hx hb dX2_init_21 rfl (lv_at hl 1 rfl) ?_
  refine va_get (D := D) (ci := 2) (v := .ref q1) (C := RX2) (T := TX2) (N := 2) hx hb hts i_X2 hown hK.1 hP 0 rfl rfl 0 (by decide) (hts _ wd_55) (fun _ h9 => h9) rfl dX2_init_22 ?_
  refine va_alen (v := (6 : Int32)) hx hb hK.1 hP 1 0 rfl rfl rfl dX2_init_25 ?_
  refine lv_icmp_ge (tgt := 44) hx hb dX2_init_26 (by decide) (fun c => absurd c (by decide)) (fun _ => ?_)
  refine lv_aload_n hx hb dX2_init_29 rfl (lv_at hl 1 rfl) ?_
  refine va_get (D := D) (ci := 2) (v := .ref q1) (C := RX2) (T := TX2) (N := 2) hx hb hts i_X2 hown hK.1 hP 0 rfl rfl 0 (by decide) (hts _ wd_55) (fun _ h9 => h9) rfl dX2_init_30 ?_
  refine lv_iload_n hx hb dX2_init_33 rfl (lv_at hl 0 rfl) ?_
  refine lv_iconst hx hb dX2_init_34 kc_iconst_1 ?_
  refine lv_iload_n hx hb dX2_init_35 rfl (lv_at hl 0 rfl) ?_
  refine lv_iadd hx hb dX2_init_36 ?_
  refine lv_topi (fun t2 e2 => ?_)
  obtain rfl : t2 = (1 : Int32) := e2.trans (by decide)
  refine va_iast hx hb hK.1 hP hD hS 1 0 rfl rfl (inb_lit (by decide)) dX2_init_37 (fun H locs hP hD hS => ?_)
  have hP : va_P D vwCl [(h0, .inr (2, [.ref q1, .int (11 : Int32)])), (q1, .inl (cI, 6, .inl (upd i0 (0 : Int32).toNatClampNeg (1 : Int32))))] H := hP
  have hD : va_D A0 [(h0, .inr (2, [.ref q1, .int (11 : Int32)])), (q1, .inl (cI, 6, .inl (upd i0 (0 : Int32).toNatClampNeg (1 : Int32))))] := hD
  refine lv_iinc (v := (1 : Int32)) (lv' := [(1, .int (1 : Int32)), (0, .ref h0)]) hx hb dX2_init_38 hl (k := 0) rfl (by decide) (by decide) rfl (fun ls hl => ?_)
  refine lv_goto (tgt := 20) hx hb dX2_init_41 (by decide) ?_
  refine lv_iload_n hx hb dX2_init_20 rfl (lv_at hl 0 rfl) ?_
  refine lv_aload_n hx hb dX2_init_21 rfl (lv_at hl 1 rfl) ?_
  refine va_get (D := D) (ci := 2) (v := .ref q1) (C := RX2) (T := TX2) (N := 2) hx hb hts i_X2 hown hK.1 hP 0 rfl rfl 0 (by decide) (hts _ wd_55) (fun _ h9 => h9) rfl dX2_init_22 ?_
  refine va_alen (v := (6 : Int32)) hx hb hK.1 hP 1 0 rfl rfl rfl dX2_init_25 ?_
  refine lv_icmp_ge (tgt := 44) hx hb dX2_init_26 (by decide) (fun c => absurd c (by decide)) (fun _ => ?_)
  refine lv_aload_n hx hb dX2_init_29 rfl (lv_at hl 1 rfl) ?_
  refine va_get (D := D) (ci := 2) (v := .ref q1) (C := RX2) (T := TX2) (N := 2) hx hb hts i_X2 hown hK.1 hP 0 rfl rfl 0 (by decide) (hts _ wd_55) (fun _ h9 => h9) rfl dX2_init_30 ?_
  refine lv_iload_n hx hb dX2_init_33 rfl (lv_at hl 0 rfl) ?_
  refine lv_iconst hx hb dX2_init_34 kc_iconst_1 ?_
  refine lv_iload_n hx hb dX2_init_35 rfl (lv_at hl 0 rfl) ?_
  refine lv_iadd hx hb dX2_init_36 ?_
  refine lv_topi (fun t3 e3 => ?_)
  obtain rfl : t3 = (2 : Int32) := e3.trans (by decide)
  refine va_iast hx hb hK.1 hP hD hS 1 0 rfl rfl (inb_lit (by decide)) dX2_init_37 (fun H locs hP hD hS => ?_)
  have hP : va_P D vwCl [(h0, .inr (2, [.ref q1, .int (11 : Int32)])), (q1, .inl (cI, 6, .inl (upd (upd i0 (0 : Int32).toNatClampNeg (1 : Int32)) (1 : Int32).toNatClampNeg (2 : Int32))))] H := hP
  have hD : va_D A0 [(h0, .inr (2, [.ref q1, .int (11 : Int32)])), (q1, .inl (cI, 6, .inl (upd (upd i0 (0 : Int32).toNatClampNeg (1 : Int32)) (1 : Int32).toNatClampNeg (2 : Int32))))] := hD
  refine lv_iinc (v := (2 : Int32)) (lv' := [(1, .int (2 : Int32)), (0, .ref h0)]) hx hb dX2_init_38 hl (k := 0) rfl (by decide) (by decide) rfl (fun ls hl => ?_)
  refine lv_goto (tgt := 20) hx hb dX2_init_41 (by decide) ?_
  refine lv_iload_n hx hb dX2_init_20 rfl (lv_at hl 0 rfl) ?_
  refine lv_aload_n hx hb dX2_init_21 rfl (lv_at hl 1 rfl) ?_
  refine va_get (D := D) (ci := 2) (v := .ref q1) (C := RX2) (T := TX2) (N := 2) hx hb hts i_X2 hown hK.1 hP 0 rfl rfl 0 (by decide) (hts _ wd_55) (fun _ h9 => h9) rfl dX2_init_22 ?_
  refine va_alen (v := (6 : Int32)) hx hb hK.1 hP 1 0 rfl rfl rfl dX2_init_25 ?_
  refine lv_icmp_ge (tgt := 44) hx hb dX2_init_26 (by decide) (fun c => absurd c (by decide)) (fun _ => ?_)
  refine lv_aload_n hx hb dX2_init_29 rfl (lv_at hl 1 rfl) ?_
  refine va_get (D := D) (ci := 2) (v := .ref q1) (C := RX2) (T := TX2) (N := 2) hx hb hts i_X2 hown hK.1 hP 0 rfl rfl 0 (by decide) (hts _ wd_55) (fun _ h9 => h9) rfl dX2_init_30 ?_
  refine lv_iload_n hx hb dX2_init_33 rfl (lv_at hl 0 rfl) ?_
  refine lv_iconst hx hb dX2_init_34 kc_iconst_1 ?_
  refine lv_iload_n hx hb dX2_init_35 rfl (lv_at hl 0 rfl) ?_
  refine lv_iadd hx hb dX2_init_36 ?_
  refine lv_topi (fun t4 e4 => ?_)
  obtain rfl : t4 = (3 : Int32) := e4.trans (by decide)
  refine va_iast hx hb hK.1 hP hD hS 1 0 rfl rfl (inb_lit (by decide)) dX2_init_37 (fun H locs hP hD hS => ?_)
  have hP : va_P D vwCl [(h0, .inr (2, [.ref q1, .int (11 : Int32)])), (q1, .inl (cI, 6, .inl (upd (upd (upd i0 (0 : Int32).toNatClampNeg (1 : Int32)) (1 : Int32).toNatClampNeg (2 : Int32)) (2 : Int32).toNatClampNeg (3 : Int32))))] H := hP
  have hD : va_D A0 [(h0, .inr (2, [.ref q1, .int (11 : Int32)])), (q1, .inl (cI, 6, .inl (upd (upd (upd i0 (0 : Int32).toNatClampNeg (1 : Int32)) (1 : Int32).toNatClampNeg (2 : Int32)) (2 : Int32).toNatClampNeg (3 : Int32))))] := hD
  refine lv_iinc (v := (3 : Int32)) (lv' := [(1, .int (3 : Int32)), (0, .ref h0)]) hx hb dX2_init_38 hl (k := 0) rfl (by decide) (by decide) rfl (fun ls hl => ?_)
  refine lv_goto (tgt := 20) hx hb dX2_init_41 (by decide) ?_
  refine lv_iload_n hx hb dX2_init_20 rfl (lv_at hl 0 rfl) ?_
  refine lv_aload_n hx hb dX2_init_21 rfl (lv_at hl 1 rfl) ?_
  refine va_get (D := D) (ci := 2) (v := .ref q1) (C := RX2) (T := TX2) (N := 2) hx hb hts i_X2 hown hK.1 hP 0 rfl rfl 0 (by decide) (hts _ wd_55) (fun _ h9 => h9) rfl dX2_init_22 ?_
  refine va_alen (v := (6 : Int32)) hx hb hK.1 hP 1 0 rfl rfl rfl dX2_init_25 ?_
  refine lv_icmp_ge (tgt := 44) hx hb dX2_init_26 (by decide) (fun c => absurd c (by decide)) (fun _ => ?_)
  refine lv_aload_n hx hb dX2_init_29 rfl (lv_at hl 1 rfl) ?_
  refine va_get (D := D) (ci := 2) (v := .ref q1) (C := RX2) (T := TX2) (N := 2) hx hb hts i_X2 hown hK.1 hP 0 rfl rfl 0 (by decide) (hts _ wd_55) (fun _ h9 => h9) rfl dX2_init_30 ?_
  refine lv_iload_n hx hb dX2_init_33 rfl (lv_at hl 0 rfl) ?_
  refine lv_iconst hx hb dX2_init_34 kc_iconst_1 ?_
  refine lv_iload_n hx hb dX2_init_35 rfl (lv_at hl 0 rfl) ?_
  refine lv_iadd hx hb dX2_init_36 ?_
  refine lv_topi (fun t5 e5 => ?_)
  obtain rfl : t5 = (4 : Int32) := e5.trans (by decide)
  refine va_iast hx hb hK.1 hP hD hS 1 0 rfl rfl (inb_lit (by decide)) dX2_init_37 (fun H locs hP hD hS => ?_)
  have hP : va_P D vwCl [(h0, .inr (2, [.ref q1, .int (11 : Int32)])), (q1, .inl (cI, 6, .inl (upd (upd (upd (upd i0 (0 : Int32).toNatClampNeg (1 : Int32)) (1 : Int32).toNatClampNeg (2 : Int32)) (2 : Int32).toNatClampNeg (3 : Int32)) (3 : Int32).toNatClampNeg (4 : Int32))))] H := hP
  have hD : va_D A0 [(h0, .inr (2, [.ref q1, .int (11 : Int32)])), (q1, .inl (cI, 6, .inl (upd (upd (upd (upd i0 (0 : Int32).toNatClampNeg (1 : Int32)) (1 : Int32).toNatClampNeg (2 : Int32)) (2 : Int32).toNatClampNeg (3 : Int32)) (3 : Int32).toNatClampNeg (4 : Int32))))] := hD
  refine lv_iinc (v := (4 : Int32)) (lv' := [(1, .int (4 : Int32)), (0, .ref h0)]) hx hb dX2_init_38 hl (k := 0) rfl (by decide) (by decide) rfl (fun ls hl => ?_)
  refine lv_goto (tgt := 20) hx hb dX2_init_41 (by decide) ?_
  refine lv_iload_n hx hb dX2_init_20 rfl (lv_at hl 0 rfl) ?_
  refine lv_aload_n hx hb dX2_init_21 rfl (lv_at hl 1 rfl) ?_
  refine va_get (D := D) (ci := 2) (v := .ref q1) (C := RX2) (T := TX2) (N := 2) hx hb hts i_X2 hown hK.1 hP 0 rfl rfl 0 (by decide) (hts _ wd_55) (fun _ h9 => h9) rfl dX2_init_22 ?_
  refine va_alen (v := (6 : Int32)) hx hb hK.1 hP 1 0 rfl rfl rfl dX2_init_25 ?_
  refine lv_icmp_ge (tgt := 44) hx hb dX2_init_26 (by decide) (fun c => absurd c (by decide)) (fun _ => ?_)
  refine lv_aload_n hx hb dX2_init_29 rfl (lv_at hl 1 rfl) ?_
  refine va_get (D := D) (ci := 2) (v := .ref q1) (C := RX2) (T := TX2) (N := 2) hx hb hts i_X2 hown hK.1 hP 0 rfl rfl 0 (by decide) (hts _ wd_55) (fun _ h9 => h9) rfl dX2_init_30 ?_
  refine lv_iload_n hx hb dX2_init_33 rfl (lv_at hl 0 rfl) ?_
  refine lv_iconst hx hb dX2_init_34 kc_iconst_1 ?_
  refine lv_iload_n hx hb dX2_init_35 rfl (lv_at hl 0 rfl) ?_
  refine lv_iadd hx hb dX2_init_36 ?_
  refine lv_topi (fun t6 e6 => ?_)
  obtain rfl : t6 = (5 : Int32) := e6.trans (by decide)
  refine va_iast hx hb hK.1 hP hD hS 1 0 rfl rfl (inb_lit (by decide)) dX2_init_37 (fun H locs hP hD hS => ?_)
  have hP : va_P D vwCl [(h0, .inr (2, [.ref q1, .int (11 : Int32)])), (q1, .inl (cI, 6, .inl (upd (upd (upd (upd (upd i0 (0 : Int32).toNatClampNeg (1 : Int32)) (1 : Int32).toNatClampNeg (2 : Int32)) (2 : Int32).toNatClampNeg (3 : Int32)) (3 : Int32).toNatClampNeg (4 : Int32)) (4 : Int32).toNatClampNeg (5 : Int32))))] H := hP
  have hD : va_D A0 [(h0, .inr (2, [.ref q1, .int (11 : Int32)])), (q1, .inl (cI, 6, .inl (upd (upd (upd (upd (upd i0 (0 : Int32).toNatClampNeg (1 : Int32)) (1 : Int32).toNatClampNeg (2 : Int32)) (2 : Int32).toNatClampNeg (3 : Int32)) (3 : Int32).toNatClampNeg (4 : Int32)) (4 : Int32).toNatClampNeg (5 : Int32))))] := hD
  refine lv_iinc (v := (5 : Int32)) (lv' := [(1, .int (5 : Int32)), (0, .ref h0)]) hx hb dX2_init_38 hl (k := 0) rfl (by decide) (by decide) rfl (fun ls hl => ?_)
  refine lv_goto (tgt := 20) hx hb dX2_init_41 (by decide) ?_
  refine lv_iload_n hx hb dX2_init_20 rfl (lv_at hl 0 rfl) ?_
  refine lv_aload_n hx hb dX2_init_21 rfl (lv_at hl 1 rfl) ?_
  refine va_get (D := D) (ci := 2) (v := .ref q1) (C := RX2) (T := TX2) (N := 2) hx hb hts i_X2 hown hK.1 hP 0 rfl rfl 0 (by decide) (hts _ wd_55) (fun _ h9 => h9) rfl dX2_init_22 ?_
  refine va_alen (v := (6 : Int32)) hx hb hK.1 hP 1 0 rfl rfl rfl dX2_init_25 ?_
  refine lv_icmp_ge (tgt := 44) hx hb dX2_init_26 (by decide) (fun c => absurd c (by decide)) (fun _ => ?_)
  refine lv_aload_n hx hb dX2_init_29 rfl (lv_at hl 1 rfl) ?_
  refine va_get (D := D) (ci := 2) (v := .ref q1) (C := RX2) (T := TX2) (N := 2) hx hb hts i_X2 hown hK.1 hP 0 rfl rfl 0 (by decide) (hts _ wd_55) (fun _ h9 => h9) rfl dX2_init_30 ?_
  refine lv_iload_n hx hb dX2_init_33 rfl (lv_at hl 0 rfl) ?_
  refine lv_iconst hx hb dX2_init_34 kc_iconst_1 ?_
  refine lv_iload_n hx hb dX2_init_35 rfl (lv_at hl 0 rfl) ?_
  refine lv_iadd hx hb dX2_init_36 ?_
  refine lv_topi (fun t7 e7 => ?_)
  obtain rfl : t7 = (6 : Int32) := e7.trans (by decide)
  refine va_iast hx hb hK.1 hP hD hS 1 0 rfl rfl (inb_lit (by decide)) dX2_init_37 (fun H locs hP hD hS => ?_)
  have hP : va_P D vwCl [(h0, .inr (2, [.ref q1, .int (11 : Int32)])), (q1, .inl (cI, 6, .inl (upd (upd (upd (upd (upd (upd i0 (0 : Int32).toNatClampNeg (1 : Int32)) (1 : Int32).toNatClampNeg (2 : Int32)) (2 : Int32).toNatClampNeg (3 : Int32)) (3 : Int32).toNatClampNeg (4 : Int32)) (4 : Int32).toNatClampNeg (5 : Int32)) (5 : Int32).toNatClampNeg (6 : Int32))))] H := hP
  have hD : va_D A0 [(h0, .inr (2, [.ref q1, .int (11 : Int32)])), (q1, .inl (cI, 6, .inl (upd (upd (upd (upd (upd (upd i0 (0 : Int32).toNatClampNeg (1 : Int32)) (1 : Int32).toNatClampNeg (2 : Int32)) (2 : Int32).toNatClampNeg (3 : Int32)) (3 : Int32).toNatClampNeg (4 : Int32)) (4 : Int32).toNatClampNeg (5 : Int32)) (5 : Int32).toNatClampNeg (6 : Int32))))] := hD
  refine lv_iinc (v := (6 : Int32)) (lv' := [(1, .int (6 : Int32)), (0, .ref h0)]) hx hb dX2_init_38 hl (k := 0) rfl (by decide) (by decide) rfl (fun ls hl => ?_)
  refine lv_goto (tgt := 20) hx hb dX2_init_41 (by decide) ?_
  refine lv_iload_n hx hb dX2_init_20 rfl (lv_at hl 0 rfl) ?_
  refine lv_aload_n hx hb dX2_init_21 rfl (lv_at hl 1 rfl) ?_
  refine va_get (D := D) (ci := 2) (v := .ref q1) (C := RX2) (T := TX2) (N := 2) hx hb hts i_X2 hown hK.1 hP 0 rfl rfl 0 (by decide) (hts _ wd_55) (fun _ h9 => h9) rfl dX2_init_22 ?_
  refine va_alen (v := (6 : Int32)) hx hb hK.1 hP 1 0 rfl rfl rfl dX2_init_25 ?_
  refine lv_icmp_ge (tgt := 44) hx hb dX2_init_26 (by decide) (fun _ => ?_) (fun c => absurd c (by decide))
  have hP9 := hP.sub (ws' := [(h0, .inr (2, [.ref q1, .int (11 : Int32)])), (q1, .inl (cI, 6, .inl (upd (upd (upd (upd (upd (upd i0 (0 : Int32).toNatClampNeg (1 : Int32)) (1 : Int32).toNatClampNeg (2 : Int32)) (2 : Int32).toNatClampNeg (3 : Int32)) (3 : Int32).toNatClampNeg (4 : Int32)) (4 : Int32).toNatClampNeg (5 : Int32)) (5 : Int32).toNatClampNeg (6 : Int32))))]) [0, 1] rfl
  have hD9 := hD.sub (ws' := [(h0, .inr (2, [.ref q1, .int (11 : Int32)])), (q1, .inl (cI, 6, .inl (upd (upd (upd (upd (upd (upd i0 (0 : Int32).toNatClampNeg (1 : Int32)) (1 : Int32).toNatClampNeg (2 : Int32)) (2 : Int32).toNatClampNeg (3 : Int32)) (3 : Int32).toNatClampNeg (4 : Int32)) (4 : Int32).toNatClampNeg (5 : Int32)) (5 : Int32).toNatClampNeg (6 : Int32))))]) [0, 1] (by decide +kernel) rfl
  refine W.widen (k := 1) (n := 6) (Nat.le_of_ble_eq_true rfl) (Nat.le_of_ble_eq_true rfl) ?_
  exact W.vret hx hb hr (fun t ht hW => ⟨⟨q1, rfl, trivial, by rw [ht]; exact hP9, hD9⟩, hS.F ht⟩) hS.2.2 dX2_init_44
abbrev rm0_init : Room := { frames := 1, cells := 4, slots := 492, locals := 20 }
theorem hdn0_init : yX0_init.cls ≠ "java/lang/invoke/MethodHandle" ∧ yX0_init.cls ≠ "java/lang/invoke/VarHandle" ∧ (parseMethodDescriptor yX0_init.desc).map (fun d => d.parameters.length) = some 0 := by decide +kernel
set_option maxHeartbeats 8000000 in
set_option maxRecDepth 100000 in
theorem K0_init (l : Launch) (D : va_G) (cI cZ cS cJ : ClassId) (h0 sz : Nat) : Met l yX0_init wsX0_init rm0_init (cP D (gT cI cZ cS cJ) [(h0, .inr (0, [.null, .null, .null, .null, .int 0]))] [.ref h0] sz) (cQ D (va_A [(h0, .inr (0, [.null, .null, .null, .null, .int 0]))] sz) (fun u : Nat × Nat × Nat × Nat => (W0 cI h0 u.1 u.2.1 u.2.2.1 u.2.2.2 0 i0 i0 i0 i0))) 4 492 (va_A [(h0, .inr (0, [.null, .null, .null, .null, .int 0]))] sz) := by
  refine Met.ofW (cc := cX0_init) (maxL := 1) (ret := none) (by decide) rfl ?_
  intro p e s m args below meth c s₁ B hml hv
  obtain ⟨ha, hsz, hK, hM, hP, hD0⟩ := hv
  have hx := B.exec
  have hb := B.bytes
  have hr := B.returns
  have hlocks := B.notSynchronized
  have hin : meth.name = "<init>" := (name_of_methodNamed B.named B.method).1
  have hts : ∀ w ∈ lw_all, w.before args s = true := fun w h => atoms_spec (ws := wsX0_init) B.pre w (List.mem_cons_of_mem _ h)
  have hown : s.vm.findClass RX0 = some m.cls := findClass_of_methodNamed B.named
  have S : CallFix p m c cX0_init 1 s args lw_all RX0 := ⟨hx, hb, hml, hown, hts⟩
  subst hsz
  have hD := hD0.self (sz := s.heap.size)
  generalize hAe : va_A [(h0, .inr (0, [.null, .null, .null, .null, .int 0]))] s.heap.size = A0 at hD ⊢
  have hA : ∀ q : Nat, s.heap.size ≤ q → A0 q := fun q h => by rw [← hAe]; exact Or.inr h
  have hS : va_S A0 s.heap s.heap [] := va_S.rf
  have hl := lv_entry ([.ref h0] : List Value) (n := 1) (Nat.le_of_ble_eq_true rfl)
  refine W.eq (g2 := F0 m 0 ((lg_sl ([.ref h0] : List Value) ++ List.replicate (1 - (lg_sl ([.ref h0] : List Value)).length) Slot.unset).toArray) []) (by rw [ha]; exact lg_entry_eq _ _ _) ?_
  generalize (lg_sl ([.ref h0] : List Value) ++ List.replicate (1 - (lg_sl ([.ref h0] : List Value)).length) Slot.unset).toArray = ls at hl ⊢
  have hl : lv_has ls 1 [(0, .ref h0)] := hl
  refine lv_aload_n hx hb dX0_init_0 rfl (lv_at hl 0 rfl) ?_
  refine W.objInit hx hb hown (hts _ wd_69) (hts _ wd_41) (hts _ wd_42) rfl (by rw [hml]; exact hl.1) rfl dX0_init_1 (Nat.le_of_ble_eq_true rfl) (Nat.le_of_ble_eq_true rfl) ?_
  refine W.eq (g2 := F0 m 4 ls []) rfl ?_
  refine lv_aload_n hx hb dX0_init_4 rfl (lv_at hl 0 rfl) ?_
  refine lv_bipush hx hb dX0_init_5 kc_bipush_6 ?_
  refine nw_int (N' := 6) hx hb (hts _ wd_63) hK hP hD hS hA (by decide) (by decide) (Nat.le_of_ble_eq_true rfl) (Nat.le_of_ble_eq_true rfl) (Nat.le_of_ble_eq_true rfl) dX0_init_7 (fun q1 H hP hD hS => ?_)
  have hP : va_P D vwCl [(h0, .inr (0, [.null, .null, .null, .null, .int 0])), (q1, .inl (cI, 6, .inl i0))] H := hP
  have hD : va_D A0 [(h0, .inr (0, [.null, .null, .null, .null, .int 0])), (q1, .inl (cI, 6, .inl i0))] := hD
  refine va_putF (D := D) (ci := 0) (v := .ref q1) (ty := tyX0 0) (C := RX0) (T := TX0) (N := 5) hx hb hts i_X0 tyX0 tyX0_ok nmX0 hown hK.1 hP hD hS 0 rfl rfl 0 (by decide) (hts _ wd_70) (fun _ h9 => h9) rfl hin rfl (by decide +kernel) rfl rfl (Nat.le_of_ble_eq_true rfl) dX0_init_9 (fun H locs hP hD hS => ?_)
  have hP : va_P D vwCl [(h0, .inr (0, [.ref q1, .null, .null, .null, .int 0])), (q1, .inl (cI, 6, .inl i0))] H := hP
  have hD : va_D A0 [(h0, .inr (0, [.ref q1, .null, .null, .null, .int 0])), (q1, .inl (cI, 6, .inl i0))] := hD
  refine lv_aload_n hx hb dX0_init_12 rfl (lv_at hl 0 rfl) ?_
  refine lv_bipush hx hb dX0_init_13 kc_bipush_6 ?_
  refine nw_int (N' := 6) hx hb (hts _ wd_63) hK hP hD hS hA (by decide) (by decide) (Nat.le_of_ble_eq_true rfl) (Nat.le_of_ble_eq_true rfl) (Nat.le_of_ble_eq_true rfl) dX0_init_15 (fun q2 H hP hD hS => ?_)
  have hP : va_P D vwCl [(h0, .inr (0, [.ref q1, .null, .null, .null, .int 0])), (q1, .inl (cI, 6, .inl i0)), (q2, .inl (cI, 6, .inl i0))] H := hP
  have hD : va_D A0 [(h0, .inr (0, [.ref q1, .null, .null, .null, .int 0])), (q1, .inl (cI, 6, .inl i0)), (q2, .inl (cI, 6, .inl i0))] := hD
  refine va_putF (D := D) (ci := 0) (v := .ref q2) (ty := tyX0 1) (C := RX0) (T := TX0) (N := 5) hx hb hts i_X0 tyX0 tyX0_ok nmX0 hown hK.1 hP hD hS 0 rfl rfl 1 (by decide) (hts _ wd_71) (fun _ h9 => h9) rfl hin rfl (by decide +kernel) rfl rfl (Nat.le_of_ble_eq_true rfl) dX0_init_17 (fun H locs hP hD hS => ?_)
  have hP : va_P D vwCl [(h0, .inr (0, [.ref q1, .ref q2, .null, .null, .int 0])), (q1, .inl (cI, 6, .inl i0)), (q2, .inl (cI, 6, .inl i0))] H := hP
  have hD : va_D A0 [(h0, .inr (0, [.ref q1, .ref q2, .null, .null, .int 0])), (q1, .inl (cI, 6, .inl i0)), (q2, .inl (cI, 6, .inl i0))] := hD
  refine lv_aload_n hx hb dX0_init_20 rfl (lv_at hl 0 rfl) ?_
  refine lv_sipush hx hb dX0_init_21 kc_sipush_240 ?_
  refine nw_int (N' := 240) hx hb (hts _ wd_63) hK hP hD hS hA (by decide) (by decide) (Nat.le_of_ble_eq_true rfl) (Nat.le_of_ble_eq_true rfl) (Nat.le_of_ble_eq_true rfl) dX0_init_24 (fun q3 H hP hD hS => ?_)
  have hP : va_P D vwCl [(h0, .inr (0, [.ref q1, .ref q2, .null, .null, .int 0])), (q1, .inl (cI, 6, .inl i0)), (q2, .inl (cI, 6, .inl i0)), (q3, .inl (cI, 240, .inl i0))] H := hP
  have hD : va_D A0 [(h0, .inr (0, [.ref q1, .ref q2, .null, .null, .int 0])), (q1, .inl (cI, 6, .inl i0)), (q2, .inl (cI, 6, .inl i0)), (q3, .inl (cI, 240, .inl i0))] := hD
  refine va_putF (D := D) (ci := 0) (v := .ref q3) (ty := tyX0 2) (C := RX0) (T := TX0) (N := 5) hx hb hts i_X0 tyX0 tyX0_ok nmX0 hown hK.1 hP hD hS 0 rfl rfl 2 (by decide) (hts _ wd_72) (fun _ h9 => h9) rfl hin rfl (by decide +kernel) rfl rfl (Nat.le_of_ble_eq_true rfl) dX0_init_26 (fun H locs hP hD hS => ?_)
  have hP : va_P D vwCl [(h0, .inr (0, [.ref q1, .ref q2, .ref q3, .null, .int 0])), (q1, .inl (cI, 6, .inl i0)), (q2, .inl (cI, 6, .inl i0)), (q3, .inl (cI, 240, .inl i0))] H := hP
  have hD : va_D A0 [(h0, .inr (0, [.ref q1, .ref q2, .ref q3, .null, .int 0])), (q1, .inl (cI, 6, .inl i0)), (q2, .inl (cI, 6, .inl i0)), (q3, .inl (cI, 240, .inl i0))] := hD
  refine lv_aload_n hx hb dX0_init_29 rfl (lv_at hl 0 rfl) ?_
  refine lv_sipush hx hb dX0_init_30 kc_sipush_240 ?_
  refine nw_int (N' := 240) hx hb (hts _ wd_63) hK hP hD hS hA (by decide) (by decide) (Nat.le_of_ble_eq_true rfl) (Nat.le_of_ble_eq_true rfl) (Nat.le_of_ble_eq_true rfl) dX0_init_33 (fun q4 H hP hD hS => ?_)
  have hP : va_P D vwCl [(h0, .inr (0, [.ref q1, .ref q2, .ref q3, .null, .int 0])), (q1, .inl (cI, 6, .inl i0)), (q2, .inl (cI, 6, .inl i0)), (q3, .inl (cI, 240, .inl i0)), (q4, .inl (cI, 240, .inl i0))] H := hP
  have hD : va_D A0 [(h0, .inr (0, [.ref q1, .ref q2, .ref q3, .null, .int 0])), (q1, .inl (cI, 6, .inl i0)), (q2, .inl (cI, 6, .inl i0)), (q3, .inl (cI, 240, .inl i0)), (q4, .inl (cI, 240, .inl i0))] := hD
  refine va_putF (D := D) (ci := 0) (v := .ref q4) (ty := tyX0 3) (C := RX0) (T := TX0) (N := 5) hx hb hts i_X0 tyX0 tyX0_ok nmX0 hown hK.1 hP hD hS 0 rfl rfl 3 (by decide) (hts _ wd_73) (fun _ h9 => h9) rfl hin rfl (by decide +kernel) rfl rfl (Nat.le_of_ble_eq_true rfl) dX0_init_35 (fun H locs hP hD hS => ?_)
  have hP : va_P D vwCl [(h0, .inr (0, [.ref q1, .ref q2, .ref q3, .ref q4, .int 0])), (q1, .inl (cI, 6, .inl i0)), (q2, .inl (cI, 6, .inl i0)), (q3, .inl (cI, 240, .inl i0)), (q4, .inl (cI, 240, .inl i0))] H := hP
  have hD : va_D A0 [(h0, .inr (0, [.ref q1, .ref q2, .ref q3, .ref q4, .int 0])), (q1, .inl (cI, 6, .inl i0)), (q2, .inl (cI, 6, .inl i0)), (q3, .inl (cI, 240, .inl i0)), (q4, .inl (cI, 240, .inl i0))] := hD
  have hP9 := hP.sub (ws' := [(h0, .inr (0, [.ref q1, .ref q2, .ref q3, .ref q4, .int 0])), (q1, .inl (cI, 6, .inl i0)), (q2, .inl (cI, 6, .inl i0)), (q3, .inl (cI, 240, .inl i0)), (q4, .inl (cI, 240, .inl i0))]) [0, 1, 2, 3, 4] rfl
  have hD9 := hD.sub (ws' := [(h0, .inr (0, [.ref q1, .ref q2, .ref q3, .ref q4, .int 0])), (q1, .inl (cI, 6, .inl i0)), (q2, .inl (cI, 6, .inl i0)), (q3, .inl (cI, 240, .inl i0)), (q4, .inl (cI, 240, .inl i0))]) [0, 1, 2, 3, 4] (by decide +kernel) rfl
  refine W.widen (k := 4) (n := 492) (Nat.le_of_ble_eq_true rfl) (Nat.le_of_ble_eq_true rfl) ?_
  exact W.vret hx hb hr (fun t ht hW => ⟨⟨(q1, q2, q3, q4), rfl, trivial, by rw [ht]; exact hP9, hD9⟩, hS.F ht⟩) hS.2.2 dX0_init_38
abbrev rm4_init : Room := { frames := 2, cells := 7, slots := 505, locals := 41 }
theorem hdn4_init : yX4_init.cls ≠ "java/lang/invoke/MethodHandle" ∧ yX4_init.cls ≠ "java/lang/invoke/VarHandle" ∧ (parseMethodDescriptor yX4_init.desc).map (fun d => d.parameters.length) = some 0 := by decide +kernel
set_option maxHeartbeats 8000000 in
set_option maxRecDepth 100000 in
theorem K4_init (l : Launch) (D : va_G) (cI cZ cS cJ : ClassId) (h0 sz : Nat) : Met l yX4_init wsX4_init rm4_init (cP D (gT cI cZ cS cJ) [(h0, .inr (4, [.null, .null, .int 0]))] [.ref h0] sz) (cQ D (va_A [(h0, .inr (4, [.null, .null, .int 0]))] sz) (fun u : Nat × Nat × Nat × Nat × Nat × Nat × Nat => (B4 cI (h0, u) iV))) 7 505 (va_A [(h0, .inr (4, [.null, .null, .int 0]))] sz) := by
  refine Met.ofW (cc := cX4_init) (maxL := 1) (ret := none) (by decide) rfl ?_
  intro p e s m args below meth c s₁ B hml hv
  obtain ⟨ha, hsz, hK, hM, hP, hD0⟩ := hv
  have hx := B.exec
  have hb := B.bytes
  have hr := B.returns
  have hlocks := B.notSynchronized
  have hin : meth.name = "<init>" := (name_of_methodNamed B.named B.method).1
  have hts : ∀ w ∈ lw_all, w.before args s = true := fun w h => atoms_spec (ws := wsX4_init) B.pre w (List.mem_cons_of_mem _ h)
  have hown : s.vm.findClass RX4 = some m.cls := findClass_of_methodNamed B.named
  have S : CallFix p m c cX4_init 1 s args lw_all RX4 := ⟨hx, hb, hml, hown, hts⟩
  subst hsz
  have hD := hD0.self (sz := s.heap.size)
  generalize hAe : va_A [(h0, .inr (4, [.null, .null, .int 0]))] s.heap.size = A0 at hD ⊢
  have hA : ∀ q : Nat, s.heap.size ≤ q → A0 q := fun q h => by rw [← hAe]; exact Or.inr h
  have hS : va_S A0 s.heap s.heap [] := va_S.rf
  have hl := lv_entry ([.ref h0] : List Value) (n := 1) (Nat.le_of_ble_eq_true rfl)
  refine W.eq (g2 := F0 m 0 ((lg_sl ([.ref h0] : List Value) ++ List.replicate (1 - (lg_sl ([.ref h0] : List Value)).length) Slot.unset).toArray) []) (by rw [ha]; exact lg_entry_eq _ _ _) ?_
  generalize (lg_sl ([.ref h0] : List Value) ++ List.replicate (1 - (lg_sl ([.ref h0] : List Value)).length) Slot.unset).toArray = ls at hl ⊢
  have hl : lv_has ls 1 [(0, .ref h0)] := hl
  refine lv_aload_n hx hb dX4_init_0 rfl (lv_at hl 0 rfl) ?_
  refine W.objInit hx hb hown (hts _ wd_48) (hts _ wd_41) (hts _ wd_42) rfl (by rw [hml]; exact hl.1) rfl dX4_init_1 (Nat.le_of_ble_eq_true rfl) (Nat.le_of_ble_eq_true rfl) ?_
  refine W.eq (g2 := F0 m 4 ls []) rfl ?_
  refine lv_aload_n hx hb dX4_init_4 rfl (lv_at hl 0 rfl) ?_
  refine va_new (D := D) (ci := 2) (fs := [.null, .int 0]) (C := RX2) (T := TX2) (N := 2) hx hb hts i_X2 tyX2 tyX2_ok hown (hts _ wd_49) (hts _ wd_50) (hts _ wd_24) hK.1 hP hD hS hA rfl (fun j hj => by rcases (show j = 0 ∨ j = 1 by omega) with rfl | rfl <;> rfl) (Nat.le_of_ble_eq_true rfl) (Nat.le_of_ble_eq_true rfl) dX4_init_5 (fun q1 H hP hD hS => ?_)
  have hP : va_P D vwCl [(h0, .inr (4, [.null, .null, .int 0])), (q1, .inr (2, [.null, .int 0]))] H := hP
  have hD : va_D A0 [(h0, .inr (4, [.null, .null, .int 0])), (q1, .inr (2, [.null, .int 0]))] := hD
  refine lv_dup hx hb dX4_init_8 rfl ?_
  have hPc := hP.sub (ws' := [(q1, .inr (2, [.null, .int 0]))]) [1] rfl
  have hDc := hD.sub (ws' := [(q1, .inr (2, [.null, .int 0]))]) [1] (by decide) rfl
  have hFc := va_free (wc := [(q1, .inr (2, [.null, .int 0]))]) hD hS hA [1] rfl
  refine va_callv (va_runI (As := []) (rest := [.ref q1, .ref h0]) S (K2_init l D cI cZ cS cJ q1 H.size) (cwI 0 hts (gd_all wd_53) rfl rfl rfl (hts _ wd_24) (hts _ wd_51) (hts _ wd_52) rfl hdn2_init ⟨(Nat.le_of_ble_eq_true rfl), (Nat.le_of_ble_eq_true rfl)⟩) (cPreS hK hM hPc hDc) rfl rfl hl.1 rfl (lv_room (Nat.le_of_ble_eq_true rfl)) dX4_init_9 ⟨(Nat.le_of_ble_eq_true rfl), (Nat.le_of_ble_eq_true rfl)⟩) hS (fun q _ h => hFc q h) hFc (fun u2 t H1 locs ht hvm hw hB hz1 hk1 hS => ?_)
  obtain ⟨hP1, hD1⟩ := hB
  rw [ht] at hP1
  have hP1 : va_P D vwCl ([(q1, .inr (2, [.ref u2, .int 11])), (u2, .inl (cI, 6, .inl iW))] : va_W) H1 := hP1
  have hD1 : va_D (va_A [(q1, .inr (2, [.null, .int 0]))] H.size) ([(q1, .inr (2, [.ref u2, .int 11])), (u2, .inl (cI, 6, .inl iW))] : va_W) := hD1
  obtain ⟨hP, hD⟩ := va_join (wr := [(h0, .inr (4, [.null, .null, .int 0]))]) hP hD [1] [0] rfl rfl (by decide +kernel) (by decide +kernel) hk1 hFc hP1 hD1
  generalize H1 = H at hP hS ⊢
  have hP : va_P D vwCl [(h0, .inr (4, [.null, .null, .int 0])), (q1, .inr (2, [.ref u2, .int 11])), (u2, .inl (cI, 6, .inl iW))] H := hP
  have hD : va_D A0 [(h0, .inr (4, [.null, .null, .int 0])), (q1, .inr (2, [.ref u2, .int 11])), (u2, .inl (cI, 6, .inl iW))] := hD
  refine va_putF (D := D) (ci := 4) (v := .ref q1) (ty := tyX4 0) (C := RX4) (T := TX4) (N := 3) hx hb hts i_X4 tyX4 tyX4_ok nmX4 hown hK.1 hP hD hS 0 rfl rfl 0 (by decide) (hts _ wd_88) (fun _ h9 => h9) rfl hin rfl (by decide +kernel) rfl rfl (Nat.le_of_ble_eq_true rfl) dX4_init_12 (fun H locs hP hD hS => ?_)
  have hP : va_P D vwCl [(h0, .inr (4, [.ref q1, .null, .int 0])), (q1, .inr (2, [.ref u2, .int 11])), (u2, .inl (cI, 6, .inl iW))] H := hP
  have hD : va_D A0 [(h0, .inr (4, [.ref q1, .null, .int 0])), (q1, .inr (2, [.ref u2, .int 11])), (u2, .inl (cI, 6, .inl iW))] := hD
  refine lv_aload_n hx hb dX4_init_15 rfl (lv_at hl 0 rfl) ?_
  refine va_new (D := D) (ci := 0) (fs := [.null, .null, .null, .null, .int 0]) (C := RX0) (T := TX0) (N := 5) hx hb hts i_X0 tyX0 tyX0_ok hown (hts _ wd_64) (hts _ wd_65) (hts _ wd_25) hK.1 hP hD hS hA rfl (fun j hj => by rcases (show j = 0 ∨ j = 1 ∨ j = 2 ∨ j = 3 ∨ j = 4 by omega) with rfl | rfl | rfl | rfl | rfl <;> rfl) (Nat.le_of_ble_eq_true rfl) (Nat.le_of_ble_eq_true rfl) dX4_init_16 (fun q3 H hP hD hS => ?_)
  have hP : va_P D vwCl [(h0, .inr (4, [.ref q1, .null, .int 0])), (q1, .inr (2, [.ref u2, .int 11])), (u2, .inl (cI, 6, .inl iW)), (q3, .inr (0, [.null, .null, .null, .null, .int 0]))] H := hP
  have hD : va_D A0 [(h0, .inr (4, [.ref q1, .null, .int 0])), (q1, .inr (2, [.ref u2, .int 11])), (u2, .inl (cI, 6, .inl iW)), (q3, .inr (0, [.null, .null, .null, .null, .int 0]))] := hD
  refine lv_dup hx hb dX4_init_19 rfl ?_
  have hPc := hP.sub (ws' := [(q3, .inr (0, [.null, .null, .null, .null, .int 0]))]) [3] rfl
  have hDc := hD.sub (ws' := [(q3, .inr (0, [.null, .null, .null, .null, .int 0]))]) [3] (by decide) rfl
  have hFc := va_free (wc := [(q3, .inr (0, [.null, .null, .null, .null, .int 0]))]) hD hS hA [3] rfl
  refine va_callv (va_runIN (As := []) (rest := [.ref q3, .ref h0]) S (K0_init l D cI cZ cS cJ q3 H.size) ⟨va_cnB 0 hts (gd_all wd_68) rfl rfl rfl hM.2.1 (hts _ wd_25) hdn0_init ⟨(Nat.le_of_ble_eq_true rfl), (Nat.le_of_ble_eq_true rfl)⟩, rfl, (hts _ wd_67)⟩ (cPreS hK hM hPc hDc) rfl rfl hl.1 rfl (lv_room (Nat.le_of_ble_eq_true rfl)) dX4_init_20 ⟨(Nat.le_of_ble_eq_true rfl), (Nat.le_of_ble_eq_true rfl)⟩) hS (fun q _ h => hFc q h) hFc (fun u4 t H1 locs ht hvm hw hB hz1 hk1 hS => ?_)
  obtain ⟨hP1, hD1⟩ := hB
  rw [ht] at hP1
  have hP1 : va_P D vwCl ([(q3, .inr (0, [.ref u4.1, .ref u4.2.1, .ref u4.2.2.1, .ref u4.2.2.2, .int 0])), (u4.1, .inl (cI, 6, .inl i0)), (u4.2.1, .inl (cI, 6, .inl i0)), (u4.2.2.1, .inl (cI, 240, .inl i0)), (u4.2.2.2, .inl (cI, 240, .inl i0))] : va_W) H1 := hP1
  have hD1 : va_D (va_A [(q3, .inr (0, [.null, .null, .null, .null, .int 0]))] H.size) ([(q3, .inr (0, [.ref u4.1, .ref u4.2.1, .ref u4.2.2.1, .ref u4.2.2.2, .int 0])), (u4.1, .inl (cI, 6, .inl i0)), (u4.2.1, .inl (cI, 6, .inl i0)), (u4.2.2.1, .inl (cI, 240, .inl i0)), (u4.2.2.2, .inl (cI, 240, .inl i0))] : va_W) := hD1
  obtain ⟨hP, hD⟩ := va_join (wr := [(h0, .inr (4, [.ref q1, .null, .int 0])), (q1, .inr (2, [.ref u2, .int 11])), (u2, .inl (cI, 6, .inl iW))]) hP hD [3] [0, 1, 2] rfl rfl (by decide +kernel) (by decide +kernel) hk1 hFc hP1 hD1
  generalize H1 = H at hP hS ⊢
  have hP : va_P D vwCl [(h0, .inr (4, [.ref q1, .null, .int 0])), (q1, .inr (2, [.ref u2, .int 11])), (u2, .inl (cI, 6, .inl iW)), (q3, .inr (0, [.ref u4.1, .ref u4.2.1, .ref u4.2.2.1, .ref u4.2.2.2, .int 0])), (u4.1, .inl (cI, 6, .inl i0)), (u4.2.1, .inl (cI, 6, .inl i0)), (u4.2.2.1, .inl (cI, 240, .inl i0)), (u4.2.2.2, .inl (cI, 240, .inl i0))] H := hP
  have hD : va_D A0 [(h0, .inr (4, [.ref q1, .null, .int 0])), (q1, .inr (2, [.ref u2, .int 11])), (u2, .inl (cI, 6, .inl iW)), (q3, .inr (0, [.ref u4.1, .ref u4.2.1, .ref u4.2.2.1, .ref u4.2.2.2, .int 0])), (u4.1, .inl (cI, 6, .inl i0)), (u4.2.1, .inl (cI, 6, .inl i0)), (u4.2.2.1, .inl (cI, 240, .inl i0)), (u4.2.2.2, .inl (cI, 240, .inl i0))] := hD
  refine va_putF (D := D) (ci := 4) (v := .ref q3) (ty := tyX4 1) (C := RX4) (T := TX4) (N := 3) hx hb hts i_X4 tyX4 tyX4_ok nmX4 hown hK.1 hP hD hS 0 rfl rfl 1 (by decide) (hts _ wd_90) (fun _ h9 => h9) rfl hin rfl (by decide +kernel) rfl rfl (Nat.le_of_ble_eq_true rfl) dX4_init_23 (fun H locs hP hD hS => ?_)
  have hP : va_P D vwCl [(h0, .inr (4, [.ref q1, .ref q3, .int 0])), (q1, .inr (2, [.ref u2, .int 11])), (u2, .inl (cI, 6, .inl iW)), (q3, .inr (0, [.ref u4.1, .ref u4.2.1, .ref u4.2.2.1, .ref u4.2.2.2, .int 0])), (u4.1, .inl (cI, 6, .inl i0)), (u4.2.1, .inl (cI, 6, .inl i0)), (u4.2.2.1, .inl (cI, 240, .inl i0)), (u4.2.2.2, .inl (cI, 240, .inl i0))] H := hP
  have hD : va_D A0 [(h0, .inr (4, [.ref q1, .ref q3, .int 0])), (q1, .inr (2, [.ref u2, .int 11])), (u2, .inl (cI, 6, .inl iW)), (q3, .inr (0, [.ref u4.1, .ref u4.2.1, .ref u4.2.2.1, .ref u4.2.2.2, .int 0])), (u4.1, .inl (cI, 6, .inl i0)), (u4.2.1, .inl (cI, 6, .inl i0)), (u4.2.2.1, .inl (cI, 240, .inl i0)), (u4.2.2.2, .inl (cI, 240, .inl i0))] := hD
  have hP9 := hP.sub (ws' := [(h0, .inr (4, [.ref q1, .ref q3, .int 0])), (q1, .inr (2, [.ref u2, .int 11])), (u2, .inl (cI, 6, .inl iW)), (q3, .inr (0, [.ref u4.1, .ref u4.2.1, .ref u4.2.2.1, .ref u4.2.2.2, .int 0])), (u4.1, .inl (cI, 6, .inl i0)), (u4.2.1, .inl (cI, 6, .inl i0)), (u4.2.2.1, .inl (cI, 240, .inl i0)), (u4.2.2.2, .inl (cI, 240, .inl i0))]) [0, 1, 2, 3, 4, 5, 6, 7] rfl
  have hD9 := hD.sub (ws' := [(h0, .inr (4, [.ref q1, .ref q3, .int 0])), (q1, .inr (2, [.ref u2, .int 11])), (u2, .inl (cI, 6, .inl iW)), (q3, .inr (0, [.ref u4.1, .ref u4.2.1, .ref u4.2.2.1, .ref u4.2.2.2, .int 0])), (u4.1, .inl (cI, 6, .inl i0)), (u4.2.1, .inl (cI, 6, .inl i0)), (u4.2.2.1, .inl (cI, 240, .inl i0)), (u4.2.2.2, .inl (cI, 240, .inl i0))]) [0, 1, 2, 3, 4, 5, 6, 7] (by decide +kernel) rfl
  refine W.widen (k := 7) (n := 505) (Nat.le_of_ble_eq_true rfl) (Nat.le_of_ble_eq_true rfl) ?_
  exact W.vret hx hb hr (fun t ht hW => ⟨⟨(q1, u2, q3, u4.1, u4.2.1, u4.2.2.1, u4.2.2.2), rfl, trivial, by rw [ht]; exact hP9, hD9⟩, hS.F ht⟩) hS.2.2 dX4_init_26
abbrev rm3_init : Room := { frames := 1, cells := 1, slots := 60, locals := 20 }
theorem hdn3_init : yX3_init.cls ≠ "java/lang/invoke/MethodHandle" ∧ yX3_init.cls ≠ "java/lang/invoke/VarHandle" ∧ (parseMethodDescriptor yX3_init.desc).map (fun d => d.parameters.length) = some 0 := by decide +kernel
set_option maxHeartbeats 8000000 in
set_option maxRecDepth 100000 in
theorem K3_init (l : Launch) (D : va_G) (cI cZ cS cJ : ClassId) (h0 sz : Nat) : Met l yX3_init wsX3_init rm3_init (cP D (gT cI cZ cS cJ) [(h0, .inr (3, [.null, .int 0]))] [.ref h0] sz) (cQ D (va_A [(h0, .inr (3, [.null, .int 0]))] sz) (fun u : Nat => (W3 cI h0 u 0 i0))) 1 60 (va_A [(h0, .inr (3, [.null, .int 0]))] sz) := by
  refine Met.ofW (cc := cX3_init) (maxL := 1) (ret := none) (by decide) rfl ?_
  intro p e s m args below meth c s₁ B hml hv
  obtain ⟨ha, hsz, hK, hM, hP, hD0⟩ := hv
  have hx := B.exec
  have hb := B.bytes
  have hr := B.returns
  have hlocks := B.notSynchronized
  have hin : meth.name = "<init>" := (name_of_methodNamed B.named B.method).1
  have hts : ∀ w ∈ lw_all, w.before args s = true := fun w h => atoms_spec (ws := wsX3_init) B.pre w (List.mem_cons_of_mem _ h)
  have hown : s.vm.findClass RX3 = some m.cls := findClass_of_methodNamed B.named
  have S : CallFix p m c cX3_init 1 s args lw_all RX3 := ⟨hx, hb, hml, hown, hts⟩
  subst hsz
  have hD := hD0.self (sz := s.heap.size)
  generalize hAe : va_A [(h0, .inr (3, [.null, .int 0]))] s.heap.size = A0 at hD ⊢
  have hA : ∀ q : Nat, s.heap.size ≤ q → A0 q := fun q h => by rw [← hAe]; exact Or.inr h
  have hS : va_S A0 s.heap s.heap [] := va_S.rf
  have hl := lv_entry ([.ref h0] : List Value) (n := 1) (Nat.le_of_ble_eq_true rfl)
  refine W.eq (g2 := F0 m 0 ((lg_sl ([.ref h0] : List Value) ++ List.replicate (1 - (lg_sl ([.ref h0] : List Value)).length) Slot.unset).toArray) []) (by rw [ha]; exact lg_entry_eq _ _ _) ?_
  generalize (lg_sl ([.ref h0] : List Value) ++ List.replicate (1 - (lg_sl ([.ref h0] : List Value)).length) Slot.unset).toArray = ls at hl ⊢
  have hl : lv_has ls 1 [(0, .ref h0)] := hl
  refine lv_aload_n hx hb dX3_init_0 rfl (lv_at hl 0 rfl) ?_
  refine W.objInit hx hb hown (hts _ wd_130) (hts _ wd_41) (hts _ wd_42) rfl (by rw [hml]; exact hl.1) rfl dX3_init_1 (Nat.le_of_ble_eq_true rfl) (Nat.le_of_ble_eq_true rfl) ?_
  refine W.eq (g2 := F0 m 4 ls []) rfl ?_
  refine lv_aload_n hx hb dX3_init_4 rfl (lv_at hl 0 rfl) ?_
  refine lv_bipush hx hb dX3_init_5 kc_bipush_60 ?_
  refine nw_int (N' := 60) hx hb (hts _ wd_63) hK hP hD hS hA (by decide) (by decide) (Nat.le_of_ble_eq_true rfl) (Nat.le_of_ble_eq_true rfl) (Nat.le_of_ble_eq_true rfl) dX3_init_7 (fun q1 H hP hD hS => ?_)
  have hP : va_P D vwCl [(h0, .inr (3, [.null, .int 0])), (q1, .inl (cI, 60, .inl i0))] H := hP
  have hD : va_D A0 [(h0, .inr (3, [.null, .int 0])), (q1, .inl (cI, 60, .inl i0))] := hD
  refine va_putF (D := D) (ci := 3) (v := .ref q1) (ty := tyX3 0) (C := RX3) (T := TX3) (N := 2) hx hb hts i_X3 tyX3 tyX3_ok nmX3 hown hK.1 hP hD hS 0 rfl rfl 0 (by decide) (hts _ wd_131) (fun _ h9 => h9) rfl hin rfl (by decide +kernel) rfl rfl (Nat.le_of_ble_eq_true rfl) dX3_init_9 (fun H locs hP hD hS => ?_)
  have hP : va_P D vwCl [(h0, .inr (3, [.ref q1, .int 0])), (q1, .inl (cI, 60, .inl i0))] H := hP
  have hD : va_D A0 [(h0, .inr (3, [.ref q1, .int 0])), (q1, .inl (cI, 60, .inl i0))] := hD
  have hP9 := hP.sub (ws' := [(h0, .inr (3, [.ref q1, .int 0])), (q1, .inl (cI, 60, .inl i0))]) [0, 1] rfl
  have hD9 := hD.sub (ws' := [(h0, .inr (3, [.ref q1, .int 0])), (q1, .inl (cI, 60, .inl i0))]) [0, 1] (by decide +kernel) rfl
  refine W.widen (k := 1) (n := 60) (Nat.le_of_ble_eq_true rfl) (Nat.le_of_ble_eq_true rfl) ?_
  exact W.vret hx hb hr (fun t ht hW => ⟨⟨q1, rfl, trivial, by rw [ht]; exact hP9, hD9⟩, hS.F ht⟩) hS.2.2 dX3_init_12
