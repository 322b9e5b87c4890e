
/-! ===== makers; the script; what the law has of its start ===== -/
abbrev lA (s : State) : Nat → Prop := fun q => s.heap.size ≤ q
theorem c_free {A : Nat → Prop} {X : va_W} {c1 : Nat × va_E} {H0 H : Heap} {locs : List Loc} (hD : va_D A (X ++ [c1])) (hS : va_S A H0 H locs) (hA : ∀ q, H0.size ≤ q → A q) : ∀ q, va_A [c1] H.size q → A q := by
  intro q h
  rcases h with ⟨k, e, hk⟩ | h
  · exact (wD_r hD).2 k _ hk
  · exact hA q (Nat.le_trans hS.1 h)
/-- the script's reader -/
def dP (D : va_G) (tys : List (ClassId × FieldType)) (b L : Nat) (xs : Nat → Int32) (av : List Value) : Array Value → State → Prop := fun v U => v = av.toArray ∧ gK D tys U ∧ va_X b L xs U U.heap ∧ b < U.heap.size
theorem dP_blind (D : va_G) (tys : List (ClassId × FieldType)) (b L : Nat) (xs : Nat → Int32) (av : List Value) : FrameBlind (dP D tys b L xs av) := fun _ U _ _ h => ⟨h.1, h.2.1.same rfl, h.2.2.1.moved (u := U) (Vm.Alike.refl U.vm), h.2.2.2⟩
theorem dPreS {D : va_G} {tys : List (ClassId × FieldType)} {s : State} {H : Heap} {A : Nat → Prop} {locs : List Loc} {b L : Nat} {xs : Nat → Int32} {As : List Value} (hK : gK D tys s) (hX : va_X b L xs s s.heap) (hbl : b < s.heap.size) (hbA : ¬ A b) (hS : va_S A s.heap H locs) : PreS s H (dP D tys b L xs As) As :=
  ⟨dP_blind D tys b L xs _, fun U hU hW => ⟨rfl, hK.warm hW, by rw [hU]; exact (hX.kept (hS.2.1 b hbl hbA)).moved hW.alike, by rw [hU]; exact Nat.lt_of_lt_of_le hbl hS.1⟩⟩
def fL_drawn (nL : Nat) (xs : Nat → Int32) (x1 : Int32) : Option Int32 :=
  if Int32.ofNat nL = 0 then some ((7919 : Int32) * x1 + 3)
  else if inb (x1 - x1 / Int32.ofNat nL * Int32.ofNat nL) nL then
    some (xs (x1 - x1 / Int32.ofNat nL * Int32.ofNat nL).toNatClampNeg >>> ((x1 - x1 / (7 : Int32) * (7 : Int32)) &&& 31) ^^^ x1 / Int32.ofNat nL * (31 : Int32) ^^^ x1 * (2654435 : Int32))
  else none
abbrev rmL_drawn : Room := { frames := 1, cells := 0, slots := 0, locals := 20 }
theorem hdnL_drawn : yL_drawn.cls ≠ "java/lang/invoke/MethodHandle" ∧ yL_drawn.cls ≠ "java/lang/invoke/VarHandle" ∧ (parseMethodDescriptor yL_drawn.desc).map (fun d => d.parameters.length) = some 2 := by decide +kernel
set_option maxHeartbeats 4000000 in
set_option maxRecDepth 100000 in
theorem KL_drawn (l : Launch) (D : va_G) (cI cZ cS cJ : ClassId) (b nL : Nat) (xs : Nat → Int32) (x1 : Int32) (r : Int32) (hF : fL_drawn nL xs x1 = some r) : Met l yL_drawn wsL_drawn rmL_drawn (dP D (gT cI cZ cS cJ) b nL xs [.ref b, .int x1]) (rQ (.int r)) 0 0 (fun _ => False) := by
  refine Met.ofW (cc := cL_drawn) (maxL := 2) (ret := (some .int)) (by decide) rfl ?_
  intro p e s m args below meth c s₁ B hml hv
  obtain ⟨ha, hK, hXs, hbl⟩ := hv
  have hx := B.exec
  have hb := B.bytes
  have hr := B.returns
  have hlocks := B.notSynchronized
  have hts : ∀ w ∈ lw_all, w.before args s = true := fun w h => atoms_spec (ws := wsL_drawn) B.pre w (List.mem_cons_of_mem _ h)
  have hown : s.vm.findClass RL = some m.cls := findClass_of_methodNamed B.named
  have hS : va_S (fun _ => False) s.heap s.heap [] := va_S.rf
  have hbA : ¬ (fun _ : Nat => False) b := fun h => h
  have hl := lv_entry ([.ref b, .int x1] : List Value) (n := 2) (Nat.le_of_ble_eq_true rfl)
  refine W.eq (g2 := F0 m 0 ((lg_sl ([.ref b, .int x1] : List Value) ++ List.replicate (2 - (lg_sl ([.ref b, .int x1] : List Value)).length) Slot.unset).toArray) []) (by rw [ha]; exact lg_entry_eq _ _ _) ?_
  generalize (lg_sl ([.ref b, .int x1] : List Value) ++ List.replicate (2 - (lg_sl ([.ref b, .int x1] : List Value)).length) Slot.unset).toArray = ls at hl ⊢
  have hl : lv_has ls 2 [(0, .ref b), (1, .int x1)] := hl
  rw [fL_drawn] at hF
  refine lv_aload_n hx hb dL_drawn_0 rfl (lv_at hl 0 rfl) ?_
  refine va_slen hx hb hXs hbl hbA hS dL_drawn_1 ?_
  refine lv_if_ne (tgt := 15) hx hb dL_drawn_2 (by decide) (fun h0 => ?_) (fun h0 => ?_)
  · have hF := ite_f h0 hF
    obtain ⟨hg, hF⟩ := gd_at hF
    refine lv_aload_n hx hb dL_drawn_15 rfl (lv_at hl 0 rfl) ?_
    refine lv_iload_n hx hb dL_drawn_16 rfl (lv_at hl 1 rfl) ?_
    refine lv_aload_n hx hb dL_drawn_17 rfl (lv_at hl 0 rfl) ?_
    refine va_slen hx hb hXs hbl hbA hS dL_drawn_18 ?_
    refine lv_irem hx hb dL_drawn_19 h0 ?_
    refine va_sld hx hb hXs hbl hbA hS hg dL_drawn_20 ?_
    refine lv_iload_n hx hb dL_drawn_21 rfl (lv_at hl 1 rfl) ?_
    refine lv_bipush (v := 7) hx hb dL_drawn_22 (by decide) ?_
    refine lv_irem hx hb dL_drawn_24 (by decide) ?_
    refine lv_ishr hx hb dL_drawn_25 ?_
    refine lv_iload_n hx hb dL_drawn_26 rfl (lv_at hl 1 rfl) ?_
    refine lv_aload_n hx hb dL_drawn_27 rfl (lv_at hl 0 rfl) ?_
    refine va_slen hx hb hXs hbl hbA hS dL_drawn_28 ?_
    refine lv_idiv hx hb dL_drawn_29 h0 ?_
    refine lv_bipush (v := 31) hx hb dL_drawn_30 (by decide) ?_
    refine lv_imul hx hb dL_drawn_32 ?_
    refine lv_ixor hx hb dL_drawn_33 ?_
    refine lv_iload_n hx hb dL_drawn_34 rfl (lv_at hl 1 rfl) ?_
    refine lv_ldc hx hb hown (hts _ wd_447) dL_drawn_35 ?_
    refine lv_imul hx hb dL_drawn_37 ?_
    refine lv_ixor hx hb dL_drawn_38 ?_
    exact rret hF hx hb hr hlocks dL_drawn_39
  · have hF := ite_t h0 hF
    refine lv_sipush (v := 7919) hx hb dL_drawn_5 (by decide) ?_
    refine lv_iload_n hx hb dL_drawn_8 rfl (lv_at hl 1 rfl) ?_
    refine lv_imul hx hb dL_drawn_9 ?_
    refine lv_iconst (v := 3) hx hb dL_drawn_10 (by decide) ?_
    refine lv_iadd hx hb dL_drawn_11 ?_
    refine lv_goto (tgt := 39) hx hb dL_drawn_12 (by decide) ?_
    exact rret hF hx hb hr hlocks dL_drawn_39
/-- what the law has of its start -/
def LC (p : Program) (s : State) (m : MethodId) (c : Code) (b L : Nat) (xs : Nat → Int32) (D : va_G) (cI cZ cS cJ : ClassId) : Prop :=
  p.tables.exec = Jvm.exec ∧ c.code = cL_law ∧ c.maxLocals = 16 ∧ s.vm.findClass RL = some m.cls ∧ (∀ w ∈ lw_all, w.before #[Value.ref b] s = true) ∧ va_X b L xs s s.heap ∧ b < s.heap.size ∧ gK D (gT cI cZ cS cJ) s ∧ gM s ∧ gX s ∧ gZ (lA s) s s.heap ∧ gY s
abbrev vW (p : Program) (l : Launch) (e : Env) (ws : List Cond) (rm : Room) (s : State) (m : MethodId) (args : Array Value) (below : List Frame) (meth : Method) (c : Code) (D : va_G) (v : Option Value) (A0 : Nat → Prop) (ws' : va_W) (mc ms : Nat) (H : Heap) (locs : List Loc) (cl sl : Nat) (g : JFrame) : Prop :=
  W p l e (headSpec ws rm).room s m args below meth c H locs cl sl (MQ below (uQ D v A0 ws') args s mc ms A0) g
set_option maxRecDepth 20000 in
theorem wk_88 : (.constantLong RL 88 (642 : Int64) : Cond) ∈ lw_all := in_all 700 (by decide +kernel) (by decide +kernel)
set_option maxRecDepth 20000 in
theorem wk_90 : (.constantLong RL 90 (31 : Int64) : Cond) ∈ lw_all := in_all 701 (by decide +kernel) (by decide +kernel)
set_option maxRecDepth 20000 in
theorem wk_92 : (.constantLong RL 92 (5 : Int64) : Cond) ∈ lw_all := in_all 702 (by decide +kernel) (by decide +kernel)
set_option maxRecDepth 20000 in
theorem wk_94 : (.constantLong RL 94 (3 : Int64) : Cond) ∈ lw_all := in_all 703 (by decide +kernel) (by decide +kernel)
set_option maxRecDepth 20000 in
theorem wk_141 : (.constantLong RL 141 (107959106416688 : Int64) : Cond) ∈ lw_all := in_all 732 (by decide +kernel) (by decide +kernel)
set_option maxRecDepth 20000 in
theorem wk_129 : (.constantLong RL 129 (255 : Int64) : Cond) ∈ lw_all := in_all 743 (by decide +kernel) (by decide +kernel)
set_option maxRecDepth 20000 in
theorem wk_147 : (.constantLong RL 147 (7075207998124077099 : Int64) : Cond) ∈ lw_all := in_all 749 (by decide +kernel) (by decide +kernel)
set_option maxRecDepth 20000 in
theorem wk_149 : (.constantLong RL 149 (48 : Int64) : Cond) ∈ lw_all := in_all 750 (by decide +kernel) (by decide +kernel)
set_option maxRecDepth 20000 in
theorem wk_151 : (.constantLong RL 151 (13361 : Int64) : Cond) ∈ lw_all := in_all 751 (by decide +kernel) (by decide +kernel)
set_option maxRecDepth 20000 in
theorem wk_153 : (.constantLong RL 153 (8588417472920563773 : Int64) : Cond) ∈ lw_all := in_all 752 (by decide +kernel) (by decide +kernel)
set_option maxRecDepth 20000 in
theorem wk_155 : (.constantLong RL 155 (825241648 : Int64) : Cond) ∈ lw_all := in_all 753 (by decide +kernel) (by decide +kernel)
set_option maxRecDepth 20000 in
theorem wk_157 : (.constantLong RL 157 (7147265592162005089 : Int64) : Cond) ∈ lw_all := in_all 754 (by decide +kernel) (by decide +kernel)
set_option maxRecDepth 20000 in
theorem wk_159 : (.constantLong RL 159 (8516359878882635821 : Int64) : Cond) ∈ lw_all := in_all 755 (by decide +kernel) (by decide +kernel)
set_option maxRecDepth 20000 in
theorem wk_161 : (.constantLong RL 161 (52983525027899 : Int64) : Cond) ∈ lw_all := in_all 756 (by decide +kernel) (by decide +kernel)
set_option maxRecDepth 20000 in
theorem wk_163 : (.constantLong RL 163 (120 : Int64) : Cond) ∈ lw_all := in_all 757 (by decide +kernel) (by decide +kernel)
set_option maxRecDepth 20000 in
theorem wk_165 : (.constantLong RL 165 (7147265592162005057 : Int64) : Cond) ∈ lw_all := in_all 758 (by decide +kernel) (by decide +kernel)
set_option maxRecDepth 20000 in
theorem wk_167 : (.constantLong RL 167 (59 : Int64) : Cond) ∈ lw_all := in_all 759 (by decide +kernel) (by decide +kernel)
set_option maxRecDepth 20000 in
theorem wk_169 : (.constantLong RL 169 (62917935970617 : Int64) : Cond) ∈ lw_all := in_all 760 (by decide +kernel) (by decide +kernel)
set_option maxRecDepth 20000 in
theorem wk_171 : (.constantLong RL 171 (13360 : Int64) : Cond) ∈ lw_all := in_all 761 (by decide +kernel) (by decide +kernel)
set_option maxRecDepth 20000 in
theorem wk_173 : (.constantLong RL 173 (12341 : Int64) : Cond) ∈ lw_all := in_all 762 (by decide +kernel) (by decide +kernel)
set_option maxRecDepth 20000 in
theorem wk_175 : (.constantLong RL 175 (8588417472920563770 : Int64) : Cond) ∈ lw_all := in_all 763 (by decide +kernel) (by decide +kernel)
set_option maxRecDepth 20000 in
theorem wk_177 : (.constantLong RL 177 (27919006219382849 : Int64) : Cond) ∈ lw_all := in_all 764 (by decide +kernel) (by decide +kernel)
set_option maxRecDepth 20000 in
theorem wk_179 : (.constantLong RL 179 (65 : Int64) : Cond) ∈ lw_all := in_all 765 (by decide +kernel) (by decide +kernel)
set_option maxRecDepth 20000 in
theorem wk_181 : (.constantLong RL 181 (3423035 : Int64) : Cond) ∈ lw_all := in_all 766 (by decide +kernel) (by decide +kernel)
set_option maxRecDepth 20000 in
theorem wk_183 : (.constantLong RL 183 (8516359878882635819 : Int64) : Cond) ∈ lw_all := in_all 767 (by decide +kernel) (by decide +kernel)
set_option maxRecDepth 20000 in
theorem wk_185 : (.constantLong RL 185 (67 : Int64) : Cond) ∈ lw_all := in_all 768 (by decide +kernel) (by decide +kernel)
set_option maxRecDepth 20000 in
theorem wk_187 : (.constantLong RL 187 (7075207998157631531 : Int64) : Cond) ∈ lw_all := in_all 769 (by decide +kernel) (by decide +kernel)
set_option maxRecDepth 20000 in
theorem wk_189 : (.constantLong RL 189 (3691675368410853936 : Int64) : Cond) ∈ lw_all := in_all 770 (by decide +kernel) (by decide +kernel)
set_option maxRecDepth 20000 in
theorem wk_191 : (.constantLong RL 191 (3548052761732132912 : Int64) : Cond) ∈ lw_all := in_all 771 (by decide +kernel) (by decide +kernel)
set_option maxRecDepth 20000 in
theorem wk_193 : (.constantLong RL 193 (207000449348 : Int64) : Cond) ∈ lw_all := in_all 772 (by decide +kernel) (by decide +kernel)
set_option maxRecDepth 20000 in
theorem wk_195 : (.constantLong RL 195 (7147265592195560002 : Int64) : Cond) ∈ lw_all := in_all 773 (by decide +kernel) (by decide +kernel)
set_option maxRecDepth 20000 in
theorem wk_197 : (.constantLong RL 197 (4279035579480617008 : Int64) : Cond) ∈ lw_all := in_all 774 (by decide +kernel) (by decide +kernel)
set_option maxRecDepth 20000 in
theorem wk_199 : (.constantLong RL 199 (11057 : Int64) : Cond) ∈ lw_all := in_all 775 (by decide +kernel) (by decide +kernel)
set_option maxRecDepth 20000 in
theorem wk_201 : (.constantLong RL 201 (8516359878916190765 : Int64) : Cond) ∈ lw_all := in_all 776 (by decide +kernel) (by decide +kernel)
set_option maxRecDepth 20000 in
theorem wk_203 : (.constantLong RL 203 (52983525158960 : Int64) : Cond) ∈ lw_all := in_all 777 (by decide +kernel) (by decide +kernel)
set_option maxRecDepth 20000 in
theorem wk_205 : (.constantLong RL 205 (4123389851770370935 : Int64) : Cond) ∈ lw_all := in_all 778 (by decide +kernel) (by decide +kernel)
set_option maxRecDepth 20000 in
theorem wk_207 : (.constantLong RL 207 (3472328304817618229 : Int64) : Cond) ∈ lw_all := in_all 779 (by decide +kernel) (by decide +kernel)
set_option maxRecDepth 20000 in
theorem wk_209 : (.constantLong RL 209 (7077751207325415723 : Int64) : Cond) ∈ lw_all := in_all 780 (by decide +kernel) (by decide +kernel)
set_option maxRecDepth 20000 in
theorem wk_211 : (.constantLong RL 211 (50 : Int64) : Cond) ∈ lw_all := in_all 781 (by decide +kernel) (by decide +kernel)
set_option maxRecDepth 20000 in
theorem wk_213 : (.constantLong RL 213 (7075207998157632043 : Int64) : Cond) ∈ lw_all := in_all 782 (by decide +kernel) (by decide +kernel)
set_option maxRecDepth 20000 in
theorem wk_215 : (.constantLong RL 215 (49 : Int64) : Cond) ∈ lw_all := in_all 783 (by decide +kernel) (by decide +kernel)
set_option maxRecDepth 20000 in
theorem wk_127 : (.constantDouble RL 127 (4588638185040256542 : UInt64) : Cond) ∈ lw_all := in_all 728 (by decide +kernel) (by decide +kernel)
def fL_part (x0 : Int32) (x1 : Int32) : Option (Int32) :=
  if ¬ x1 = 0 then
    some (((x0 &&& (2147483647 : Int32)) - (x0 &&& (2147483647 : Int32)) / x1 * x1))
  else none
abbrev rmL_part : Room := { frames := 0, cells := 0, slots := 0, locals := 0 }
theorem hdnL_part : yL_part.cls ≠ "java/lang/invoke/MethodHandle" ∧ yL_part.cls ≠ "java/lang/invoke/VarHandle" ∧ (parseMethodDescriptor yL_part.desc).map (fun d => d.parameters.length) = some 2 := by decide +kernel
set_option maxHeartbeats 4000000 in
set_option maxRecDepth 100000 in
theorem KL_part (l : Launch) (D : va_G) (cI cZ cS cJ : ClassId) (x0 : Int32) (x1 : Int32) (r : Int32) (hF : fL_part x0 x1 = some (r)) : Met l yL_part wsL_part rmL_part (rP D (gT cI cZ cS cJ) ([] : va_W) [.int x0, .int x1]) (rQ (.int r)) 0 0 (fun _ => False) := by
  refine Met.ofW (cc := cL_part) (maxL := 2) (ret := (some .int)) (by decide) rfl ?_
  intro p e s m args below meth c s₁ B hml hv
  obtain ⟨ha, hK, hP⟩ := hv
  have hx := B.exec
  have hb := B.bytes
  have hr := B.returns
  have hlocks := B.notSynchronized
  have hts : ∀ w ∈ lw_all, w.before args s = true := fun w h => atoms_spec (ws := wsL_part) B.pre w (List.mem_cons_of_mem _ h)
  have hown : s.vm.findClass RL = some m.cls := findClass_of_methodNamed B.named
  have S : CallFix p m c cL_part 2 s args lw_all RL := ⟨hx, hb, hml, hown, hts⟩
  have hl := lv_entry ([.int x0, .int x1] : List Value) (n := 2) (Nat.le_of_ble_eq_true rfl)
  refine W.eq (g2 := F0 m 0 ((lg_sl ([.int x0, .int x1] : List Value) ++ List.replicate (2 - (lg_sl ([.int x0, .int x1] : List Value)).length) Slot.unset).toArray) []) (by rw [ha]; exact lg_entry_eq _ _ _) ?_
  generalize (lg_sl ([.int x0, .int x1] : List Value) ++ List.replicate (2 - (lg_sl ([.int x0, .int x1] : List Value)).length) Slot.unset).toArray = ls at hl ⊢
  have hl : lv_has ls 2 [(0, .int x0), (1, .int x1)] := hl
  rw [fL_part] at hF
  show rW p l e wsL_part rmL_part s m args below meth c (.int r) (F0 m 0 ls [])
  refine lv_iload_n hx hb dL_part_0 rfl (lv_at hl 0 rfl) ?_
  refine lv_ldc hx hb hown (hts _ wd_443) dL_part_1 ?_
  refine lv_iand hx hb dL_part_3 ?_
  refine lv_iload_n hx hb dL_part_4 rfl (lv_at hl 1 rfl) ?_
  obtain ⟨g1, hF⟩ := gd_at hF
  refine lv_irem hx hb dL_part_5 g1 ?_
  exact rret hF hx hb hr hlocks dL_part_6
def fL_far (x0 : Int32) (x1 : Int32) (x2 : Int32) : Option (Int32) :=
  some ((if x0 = 0 then (x1 - (1 : Int32)) else (if x0 = (1 : Int32) then (x2 + (1 : Int32)) else (if x0 = (2 : Int32) then (-2147483648 : Int32) else (2147483647 : Int32)))))
abbrev rmL_far : Room := { frames := 0, cells := 0, slots := 0, locals := 0 }
theorem hdnL_far : yL_far.cls ≠ "java/lang/invoke/MethodHandle" ∧ yL_far.cls ≠ "java/lang/invoke/VarHandle" ∧ (parseMethodDescriptor yL_far.desc).map (fun d => d.parameters.length) = some 3 := by decide +kernel
set_option maxHeartbeats 4000000 in
set_option maxRecDepth 100000 in
theorem KL_far (l : Launch) (D : va_G) (cI cZ cS cJ : ClassId) (x0 : Int32) (x1 : Int32) (x2 : Int32) (r : Int32) (hF : fL_far x0 x1 x2 = some (r)) : Met l yL_far wsL_far rmL_far (rP D (gT cI cZ cS cJ) ([] : va_W) [.int x0, .int x1, .int x2]) (rQ (.int r)) 0 0 (fun _ => False) := by
  refine Met.ofW (cc := cL_far) (maxL := 3) (ret := (some .int)) (by decide) rfl ?_
  intro p e s m args below meth c s₁ B hml hv
  obtain ⟨ha, hK, hP⟩ := hv
  have hx := B.exec
  have hb := B.bytes
  have hr := B.returns
  have hlocks := B.notSynchronized
  have hts : ∀ w ∈ lw_all, w.before args s = true := fun w h => atoms_spec (ws := wsL_far) B.pre w (List.mem_cons_of_mem _ h)
  have hown : s.vm.findClass RL = some m.cls := findClass_of_methodNamed B.named
  have S : CallFix p m c cL_far 3 s args lw_all RL := ⟨hx, hb, hml, hown, hts⟩
  have hl := lv_entry ([.int x0, .int x1, .int x2] : List Value) (n := 3) (Nat.le_of_ble_eq_true rfl)
  refine W.eq (g2 := F0 m 0 ((lg_sl ([.int x0, .int x1, .int x2] : List Value) ++ List.replicate (3 - (lg_sl ([.int x0, .int x1, .int x2] : List Value)).length) Slot.unset).toArray) []) (by rw [ha]; exact lg_entry_eq _ _ _) ?_
  generalize (lg_sl ([.int x0, .int x1, .int x2] : List Value) ++ List.replicate (3 - (lg_sl ([.int x0, .int x1, .int x2] : List Value)).length) Slot.unset).toArray = ls at hl ⊢
  have hl : lv_has ls 3 [(0, .int x0), (1, .int x1), (2, .int x2)] := hl
  rw [fL_far] at hF
  show rW p l e wsL_far rmL_far s m args below meth c (.int r) (F0 m 0 ls [])
  refine lv_iload_n hx hb dL_far_0 rfl (lv_at hl 0 rfl) ?_
  refine lv_if_ne (tgt := 10) hx hb dL_far_1 (by decide) (fun c1 => ?_) (fun c1 => ?_)
  · rw [if_neg c1] at hF
    refine lv_iload_n hx hb dL_far_10 rfl (lv_at hl 0 rfl) ?_
    refine lv_iconst (v := (1 : Int32)) hx hb dL_far_11 (by decide) ?_
    refine lv_icmp_ne (tgt := 21) hx hb dL_far_12 (by decide) (fun c2 => ?_) (fun c2 => ?_)
    · rw [if_neg c2] at hF
      refine lv_iload_n hx hb dL_far_21 rfl (lv_at hl 0 rfl) ?_
      refine lv_iconst (v := (2 : Int32)) hx hb dL_far_22 (by decide) ?_
      refine lv_icmp_ne (tgt := 31) hx hb dL_far_23 (by decide) (fun c3 => ?_) (fun c3 => ?_)
      · rw [if_neg c3] at hF
        refine lv_ldc hx hb hown (hts _ wd_443) dL_far_31 ?_
        exact rret hF hx hb hr hlocks dL_far_33
      · rw [if_pos c3] at hF
        refine lv_ldc hx hb hown (hts _ wd_714) dL_far_26 ?_
        refine lv_goto (tgt := 33) hx hb dL_far_28 (by decide) ?_
        exact rret hF hx hb hr hlocks dL_far_33
    · rw [if_pos c2] at hF
      refine lv_iload_n hx hb dL_far_15 rfl (lv_at hl 2 rfl) ?_
      refine lv_iconst (v := (1 : Int32)) hx hb dL_far_16 (by decide) ?_
      refine lv_iadd hx hb dL_far_17 ?_
      refine lv_goto (tgt := 33) hx hb dL_far_18 (by decide) ?_
      exact rret hF hx hb hr hlocks dL_far_33
  · rw [if_pos c1] at hF
    refine lv_iload_n hx hb dL_far_4 rfl (lv_at hl 1 rfl) ?_
    refine lv_iconst (v := (1 : Int32)) hx hb dL_far_5 (by decide) ?_
    refine lv_isub hx hb dL_far_6 ?_
    refine lv_goto (tgt := 33) hx hb dL_far_7 (by decide) ?_
    exact rret hF hx hb hr hlocks dL_far_33
