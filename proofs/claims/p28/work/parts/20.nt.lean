
/-! ===== methods where they do not throw ===== -/
theorem nt_some {α : Type} {k : Nat} {a b : α} (h : some (k, a) = some (0, b)) : some a = some b := by
  cases h
  rfl
theorem nt_no {α : Type} {k : Nat} {a b : α} (h : some (k, a) = some (0, b)) (hk : k ≠ 0) : False := hk (congrArg Prod.fst (Option.some.inj h))
theorem nt_no0 {k : Nat} (h : some k = some 0) (hk : k ≠ 0) : False := hk (Option.some.inj h)
/-- a reading method without an answer -/
def rQ0 : Array Value → State → Outcome → State → Prop := fun _ st o t => o = .returned none ∧ t.heap = st.heap
abbrev rW0 (p : Program) (l : Launch) (e : Env) (ws : List Cond) (rm : Room) (s : State) (m : MethodId) (args : Array Value) (below : List Frame) (meth : Method) (c : Code) (g : JFrame) : Prop :=
  W p l e (headSpec ws rm).room s m args below meth c s.heap [] 0 0 (MQ below rQ0 args s 0 0 (fun _ => False)) g
section NRows
variable {p : Program} {l : Launch} {e : Env} {R : Room} {s : State} {m : MethodId} {args : Array Value} {below : List Frame} {meth : Method} {c : Code} {H : Heap} {locs : List Loc} {cells slots : Nat} {Q : State → Prop}
variable {cc : ByteArray} {pc : Nat} {ls : Array Slot} {rest : List Value}
theorem rcall0 {a : Array Value} {st0 : List Value} (hr : va_Run p l e R s m args below meth c H locs cells slots 0 0 (F0 m pc ls st0) rest (rQ0 a) (fun _ => False))
    (kk : W p l e R s m args below meth c H locs cells slots Q (F0 m (pc + 3) ls rest)) : W p l e R s m args below meth c H locs cells slots Q (F0 m pc ls st0) := by
  intro T hT X
  obtain ⟨v', st₀, t, T', L, h0, X', hL, e1, e2, ⟨hv, hh⟩, st⟩ := hr T hT X
  cases hv
  obtain ⟨t2, a1, b1⟩ := kk T' (by rw [e1, hh, h0]) (Stand.forget X' (fun q h => (hL q h).elim))
  exact ⟨t2, st t2 a1, b1⟩
theorem rret0 (hx : p.tables.exec = Jvm.exec) (hb : c.code = cc) (hr : meth.sig.returnType = none) (hlocks : meth.locks = false) (hdg : decode cc pc = .ok (.return_, 1)) :
    W p l e R s m args below meth c s.heap [] cells slots (MQ below rQ0 args s cells slots (fun _ => False)) (F0 m pc ls []) :=
  W.vret hx hb hr (fun t ht hW => ⟨rfl, ht⟩) (fun q hq => absurd hq List.not_mem_nil) hdg hlocks
end NRows
abbrev rmN5_throwIfNoPosition : Room := { frames := 0, cells := 0, slots := 0, locals := 0 }
set_option maxHeartbeats 4000000 in
set_option maxRecDepth 100000 in
theorem N5_throwIfNoPosition (l : Launch) (D : va_G) (cI cZ cS cJ : ClassId) (x0 : Int32) (hF : f5_throwIfNoPosition x0 = some (0)) : Met l yX5_throwIfNoPosition wsX5_throwIfNoPosition rmN5_throwIfNoPosition (rP D (gT cI cZ cS cJ) ([] : va_W) [.int x0]) (rQ0 ) 0 0 (fun _ => False) := by
  refine Met.ofW (cc := cX5_throwIfNoPosition) (maxL := 1) (ret := none) (by decide) rfl ?_
  intro p e s m args below meth c s₁ B hml hv
  obtain ⟨ha, hK, hP⟩ := hv
  have hx := B.exec
  have hb := B.bytes
  have hr := B.returns
  have hlocks := B.notSynchronized
  have hts : ∀ w ∈ lw_all, w.before args s = true := fun w h => atoms_spec (ws := wsX5_throwIfNoPosition) B.pre w (List.mem_cons_of_mem _ h)
  have hown : s.vm.findClass RX5 = some m.cls := findClass_of_methodNamed B.named
  have S : CallFix p m c cX5_throwIfNoPosition 1 s args lw_all RX5 := ⟨hx, hb, hml, hown, hts⟩
  have hl := lv_entry ([.int x0] : List Value) (n := 1) (Nat.le_of_ble_eq_true rfl)
  refine W.eq (g2 := F0 m 0 ((lg_sl ([.int x0] : List Value) ++ List.replicate (1 - (lg_sl ([.int x0] : List Value)).length) Slot.unset).toArray) []) (by rw [ha]; exact lg_entry_eq _ _ _) ?_
  generalize (lg_sl ([.int x0] : List Value) ++ List.replicate (1 - (lg_sl ([.int x0] : List Value)).length) Slot.unset).toArray = ls at hl ⊢
  have hl : lv_has ls 1 [(0, .int x0)] := hl
  rw [f5_throwIfNoPosition] at hF
  show rW0 p l e wsX5_throwIfNoPosition rmN5_throwIfNoPosition s m args below meth c  (F0 m 0 ls [])
  refine lv_iload_n hx hb dX5_throwIfNoPosition_0 rfl (lv_at hl 0 rfl) ?_
  refine lv_if_lt (tgt := 10) hx hb dX5_throwIfNoPosition_1 (by decide) (fun c1 => ?_) (fun c1 => ?_)
  · rw [if_pos c1] at hF
    exact (nt_no0 hF (by decide)).elim
  · rw [if_neg c1] at hF
    refine lv_iload_n hx hb dX5_throwIfNoPosition_4 rfl (lv_at hl 0 rfl) ?_
    refine lv_bipush hx hb dX5_throwIfNoPosition_5 kc_bipush_6 ?_
    refine lv_icmp_lt (tgt := 20) hx hb dX5_throwIfNoPosition_7 (by decide) (fun c2 => ?_) (fun c2 => ?_)
    · rw [if_pos c2] at hF
      exact rret0 hx hb hr hlocks dX5_throwIfNoPosition_20
    · rw [if_neg c2] at hF
      exact (nt_no0 hF (by decide)).elim
abbrev rmN5_throwIfNoSerial : Room := { frames := 1, cells := 0, slots := 0, locals := 20 }
set_option maxHeartbeats 4000000 in
set_option maxRecDepth 100000 in
theorem N5_throwIfNoSerial (l : Launch) (D : va_G) (cI cZ cS cJ : ClassId) (x0 : Int32) (hF : f5_throwIfNoSerial x0 = some (0)) : Met l yX5_throwIfNoSerial wsX5_throwIfNoSerial rmN5_throwIfNoSerial (rP D (gT cI cZ cS cJ) ([] : va_W) [.int x0]) (rQ0 ) 0 0 (fun _ => False) := by
  refine Met.ofW (cc := cX5_throwIfNoSerial) (maxL := 1) (ret := none) (by decide) rfl ?_
  intro p e s m args below meth c s₁ B hml hv
  obtain ⟨ha, hK, hP⟩ := hv
  have hx := B.exec
  have hb := B.bytes
  have hr := B.returns
  have hlocks := B.notSynchronized
  have hts : ∀ w ∈ lw_all, w.before args s = true := fun w h => atoms_spec (ws := wsX5_throwIfNoSerial) B.pre w (List.mem_cons_of_mem _ h)
  have hown : s.vm.findClass RX5 = some m.cls := findClass_of_methodNamed B.named
  have S : CallFix p m c cX5_throwIfNoSerial 1 s args lw_all RX5 := ⟨hx, hb, hml, hown, hts⟩
  have hl := lv_entry ([.int x0] : List Value) (n := 1) (Nat.le_of_ble_eq_true rfl)
  refine W.eq (g2 := F0 m 0 ((lg_sl ([.int x0] : List Value) ++ List.replicate (1 - (lg_sl ([.int x0] : List Value)).length) Slot.unset).toArray) []) (by rw [ha]; exact lg_entry_eq _ _ _) ?_
  generalize (lg_sl ([.int x0] : List Value) ++ List.replicate (1 - (lg_sl ([.int x0] : List Value)).length) Slot.unset).toArray = ls at hl ⊢
  have hl : lv_has ls 1 [(0, .int x0)] := hl
  rw [f5_throwIfNoSerial] at hF
  show rW0 p l e wsX5_throwIfNoSerial rmN5_throwIfNoSerial s m args below meth c  (F0 m 0 ls [])
  refine lv_iload_n hx hb dX5_throwIfNoSerial_0 rfl (lv_at hl 0 rfl) ?_
  obtain ⟨q2, h1, hF⟩ := bd1_at hF
  refine rcall (va_runS (As := [.int x0]) (rest := []) S (K5_isSerial l D cI cZ cS cJ x0 q2 h1) (va_cwS 1 hts (gd_S wd_157 wd_158 wd_22 wd_159) rfl rfl rfl hdn5_isSerial ⟨Nat.le_of_ble_eq_true rfl, Nat.le_of_ble_eq_true rfl⟩) (rPreS hK hP) rfl rfl hl.1 rfl (lv_room (Nat.le_of_ble_eq_true rfl)) dX5_throwIfNoSerial_1 ⟨(Nat.zero_le _), (Nat.zero_le _)⟩) ?_
  refine lv_if_ne (tgt := 17) hx hb dX5_throwIfNoSerial_4 (by decide) (fun c3 => ?_) (fun c3 => ?_)
  · rw [if_neg c3] at hF
    exact rret0 hx hb hr hlocks dX5_throwIfNoSerial_17
  · rw [if_pos c3] at hF
    exact (nt_no0 hF (by decide)).elim
abbrev rmN5_throwIfNoLetter : Room := { frames := 0, cells := 0, slots := 0, locals := 0 }
set_option maxHeartbeats 4000000 in
set_option maxRecDepth 100000 in
theorem N5_throwIfNoLetter (l : Launch) (D : va_G) (cI cZ cS cJ : ClassId) (x0 : Int32) (hF : f5_throwIfNoLetter x0 = some (0)) : Met l yX5_throwIfNoLetter wsX5_throwIfNoLetter rmN5_throwIfNoLetter (rP D (gT cI cZ cS cJ) ([] : va_W) [.int x0]) (rQ0 ) 0 0 (fun _ => False) := by
  refine Met.ofW (cc := cX5_throwIfNoLetter) (maxL := 1) (ret := none) (by decide) rfl ?_
  intro p e s m args below meth c s₁ B hml hv
  obtain ⟨ha, hK, hP⟩ := hv
  have hx := B.exec
  have hb := B.bytes
  have hr := B.returns
  have hlocks := B.notSynchronized
  have hts : ∀ w ∈ lw_all, w.before args s = true := fun w h => atoms_spec (ws := wsX5_throwIfNoLetter) B.pre w (List.mem_cons_of_mem _ h)
  have hown : s.vm.findClass RX5 = some m.cls := findClass_of_methodNamed B.named
  have S : CallFix p m c cX5_throwIfNoLetter 1 s args lw_all RX5 := ⟨hx, hb, hml, hown, hts⟩
  have hl := lv_entry ([.int x0] : List Value) (n := 1) (Nat.le_of_ble_eq_true rfl)
  refine W.eq (g2 := F0 m 0 ((lg_sl ([.int x0] : List Value) ++ List.replicate (1 - (lg_sl ([.int x0] : List Value)).length) Slot.unset).toArray) []) (by rw [ha]; exact lg_entry_eq _ _ _) ?_
  generalize (lg_sl ([.int x0] : List Value) ++ List.replicate (1 - (lg_sl ([.int x0] : List Value)).length) Slot.unset).toArray = ls at hl ⊢
  have hl : lv_has ls 1 [(0, .int x0)] := hl
  rw [f5_throwIfNoLetter] at hF
  show rW0 p l e wsX5_throwIfNoLetter rmN5_throwIfNoLetter s m args below meth c  (F0 m 0 ls [])
  refine lv_iload_n hx hb dX5_throwIfNoLetter_0 rfl (lv_at hl 0 rfl) ?_
  refine lv_if_lt (tgt := 10) hx hb dX5_throwIfNoLetter_1 (by decide) (fun c1 => ?_) (fun c1 => ?_)
  · rw [if_pos c1] at hF
    exact (nt_no0 hF (by decide)).elim
  · rw [if_neg c1] at hF
    refine lv_iload_n hx hb dX5_throwIfNoLetter_4 rfl (lv_at hl 0 rfl) ?_
    refine lv_bipush hx hb dX5_throwIfNoLetter_5 kc_bipush_26 ?_
    refine lv_icmp_lt (tgt := 20) hx hb dX5_throwIfNoLetter_7 (by decide) (fun c2 => ?_) (fun c2 => ?_)
    · rw [if_pos c2] at hF
      exact rret0 hx hb hr hlocks dX5_throwIfNoLetter_20
    · rw [if_neg c2] at hF
      exact (nt_no0 hF (by decide)).elim
abbrev rmN5_throwIfNoSlipKind : Room := { frames := 0, cells := 0, slots := 0, locals := 0 }
set_option maxHeartbeats 4000000 in
set_option maxRecDepth 100000 in
theorem N5_throwIfNoSlipKind (l : Launch) (D : va_G) (cI cZ cS cJ : ClassId) (x0 : Int32) (hF : f5_throwIfNoSlipKind x0 = some (0)) : Met l yX5_throwIfNoSlipKind wsX5_throwIfNoSlipKind rmN5_throwIfNoSlipKind (rP D (gT cI cZ cS cJ) ([] : va_W) [.int x0]) (rQ0 ) 0 0 (fun _ => False) := by
  refine Met.ofW (cc := cX5_throwIfNoSlipKind) (maxL := 1) (ret := none) (by decide) rfl ?_
  intro p e s m args below meth c s₁ B hml hv
  obtain ⟨ha, hK, hP⟩ := hv
  have hx := B.exec
  have hb := B.bytes
  have hr := B.returns
  have hlocks := B.notSynchronized
  have hts : ∀ w ∈ lw_all, w.before args s = true := fun w h => atoms_spec (ws := wsX5_throwIfNoSlipKind) B.pre w (List.mem_cons_of_mem _ h)
  have hown : s.vm.findClass RX5 = some m.cls := findClass_of_methodNamed B.named
  have S : CallFix p m c cX5_throwIfNoSlipKind 1 s args lw_all RX5 := ⟨hx, hb, hml, hown, hts⟩
  have hl := lv_entry ([.int x0] : List Value) (n := 1) (Nat.le_of_ble_eq_true rfl)
  refine W.eq (g2 := F0 m 0 ((lg_sl ([.int x0] : List Value) ++ List.replicate (1 - (lg_sl ([.int x0] : List Value)).length) Slot.unset).toArray) []) (by rw [ha]; exact lg_entry_eq _ _ _) ?_
  generalize (lg_sl ([.int x0] : List Value) ++ List.replicate (1 - (lg_sl ([.int x0] : List Value)).length) Slot.unset).toArray = ls at hl ⊢
  have hl : lv_has ls 1 [(0, .int x0)] := hl
  rw [f5_throwIfNoSlipKind] at hF
  show rW0 p l e wsX5_throwIfNoSlipKind rmN5_throwIfNoSlipKind s m args below meth c  (F0 m 0 ls [])
  refine lv_iload_n hx hb dX5_throwIfNoSlipKind_0 rfl (lv_at hl 0 rfl) ?_
  refine lv_if_lt (tgt := 9) hx hb dX5_throwIfNoSlipKind_1 (by decide) (fun c1 => ?_) (fun c1 => ?_)
  · rw [if_pos c1] at hF
    exact (nt_no0 hF (by decide)).elim
  · rw [if_neg c1] at hF
    refine lv_iload_n hx hb dX5_throwIfNoSlipKind_4 rfl (lv_at hl 0 rfl) ?_
    refine lv_iconst hx hb dX5_throwIfNoSlipKind_5 kc_iconst_2 ?_
    refine lv_icmp_le (tgt := 19) hx hb dX5_throwIfNoSlipKind_6 (by decide) (fun c2 => ?_) (fun c2 => ?_)
    · rw [if_pos c2] at hF
      exact rret0 hx hb hr hlocks dX5_throwIfNoSlipKind_19
    · rw [if_neg c2] at hF
      exact (nt_no0 hF (by decide)).elim
abbrev rmN5_throwIfNoSlot : Room := { frames := 0, cells := 0, slots := 0, locals := 0 }
set_option maxHeartbeats 4000000 in
set_option maxRecDepth 100000 in
theorem N5_throwIfNoSlot (l : Launch) (D : va_G) (cI cZ cS cJ : ClassId) (x0 : Int32) (hF : f5_throwIfNoSlot x0 = some (0)) : Met l yX5_throwIfNoSlot wsX5_throwIfNoSlot rmN5_throwIfNoSlot (rP D (gT cI cZ cS cJ) ([] : va_W) [.int x0]) (rQ0 ) 0 0 (fun _ => False) := by
  refine Met.ofW (cc := cX5_throwIfNoSlot) (maxL := 1) (ret := none) (by decide) rfl ?_
  intro p e s m args below meth c s₁ B hml hv
  obtain ⟨ha, hK, hP⟩ := hv
  have hx := B.exec
  have hb := B.bytes
  have hr := B.returns
  have hlocks := B.notSynchronized
  have hts : ∀ w ∈ lw_all, w.before args s = true := fun w h => atoms_spec (ws := wsX5_throwIfNoSlot) B.pre w (List.mem_cons_of_mem _ h)
  have hown : s.vm.findClass RX5 = some m.cls := findClass_of_methodNamed B.named
  have S : CallFix p m c cX5_throwIfNoSlot 1 s args lw_all RX5 := ⟨hx, hb, hml, hown, hts⟩
  have hl := lv_entry ([.int x0] : List Value) (n := 1) (Nat.le_of_ble_eq_true rfl)
  refine W.eq (g2 := F0 m 0 ((lg_sl ([.int x0] : List Value) ++ List.replicate (1 - (lg_sl ([.int x0] : List Value)).length) Slot.unset).toArray) []) (by rw [ha]; exact lg_entry_eq _ _ _) ?_
  generalize (lg_sl ([.int x0] : List Value) ++ List.replicate (1 - (lg_sl ([.int x0] : List Value)).length) Slot.unset).toArray = ls at hl ⊢
  have hl : lv_has ls 1 [(0, .int x0)] := hl
  rw [f5_throwIfNoSlot] at hF
  show rW0 p l e wsX5_throwIfNoSlot rmN5_throwIfNoSlot s m args below meth c  (F0 m 0 ls [])
  refine lv_iload_n hx hb dX5_throwIfNoSlot_0 rfl (lv_at hl 0 rfl) ?_
  refine lv_if_lt (tgt := 9) hx hb dX5_throwIfNoSlot_1 (by decide) (fun c1 => ?_) (fun c1 => ?_)
  · rw [if_pos c1] at hF
    exact (nt_no0 hF (by decide)).elim
  · rw [if_neg c1] at hF
    refine lv_iload_n hx hb dX5_throwIfNoSlot_4 rfl (lv_at hl 0 rfl) ?_
    refine lv_iconst hx hb dX5_throwIfNoSlot_5 kc_iconst_2 ?_
    refine lv_icmp_lt (tgt := 19) hx hb dX5_throwIfNoSlot_6 (by decide) (fun c2 => ?_) (fun c2 => ?_)
    · rw [if_pos c2] at hF
      exact rret0 hx hb hr hlocks dX5_throwIfNoSlot_19
    · rw [if_neg c2] at hF
      exact (nt_no0 hF (by decide)).elim
abbrev rmN5_throwIfFaulty : Room := { frames := 0, cells := 0, slots := 0, locals := 0 }
set_option maxHeartbeats 4000000 in
set_option maxRecDepth 100000 in
theorem N5_throwIfFaulty (l : Launch) (D : va_G) (cI cZ cS cJ : ClassId) (x0 : Int32) (hF : f5_throwIfFaulty x0 = some (0)) : Met l yX5_throwIfFaulty wsX5_throwIfFaulty rmN5_throwIfFaulty (rP D (gT cI cZ cS cJ) ([] : va_W) [.int x0]) (rQ0 ) 0 0 (fun _ => False) := by
  refine Met.ofW (cc := cX5_throwIfFaulty) (maxL := 1) (ret := none) (by decide) rfl ?_
  intro p e s m args below meth c s₁ B hml hv
  obtain ⟨ha, hK, hP⟩ := hv
  have hx := B.exec
  have hb := B.bytes
  have hr := B.returns
  have hlocks := B.notSynchronized
  have hts : ∀ w ∈ lw_all, w.before args s = true := fun w h => atoms_spec (ws := wsX5_throwIfFaulty) B.pre w (List.mem_cons_of_mem _ h)
  have hown : s.vm.findClass RX5 = some m.cls := findClass_of_methodNamed B.named
  have S : CallFix p m c cX5_throwIfFaulty 1 s args lw_all RX5 := ⟨hx, hb, hml, hown, hts⟩
  have hl := lv_entry ([.int x0] : List Value) (n := 1) (Nat.le_of_ble_eq_true rfl)
  refine W.eq (g2 := F0 m 0 ((lg_sl ([.int x0] : List Value) ++ List.replicate (1 - (lg_sl ([.int x0] : List Value)).length) Slot.unset).toArray) []) (by rw [ha]; exact lg_entry_eq _ _ _) ?_
  generalize (lg_sl ([.int x0] : List Value) ++ List.replicate (1 - (lg_sl ([.int x0] : List Value)).length) Slot.unset).toArray = ls at hl ⊢
  have hl : lv_has ls 1 [(0, .int x0)] := hl
  rw [f5_throwIfFaulty] at hF
  show rW0 p l e wsX5_throwIfFaulty rmN5_throwIfFaulty s m args below meth c  (F0 m 0 ls [])
  refine lv_iload_n hx hb dX5_throwIfFaulty_0 rfl (lv_at hl 0 rfl) ?_
  refine lv_iconst hx hb dX5_throwIfFaulty_1 kc_iconst_1 ?_
  refine lv_icmp_ne (tgt := 15) hx hb dX5_throwIfFaulty_2 (by decide) (fun c1 => ?_) (fun c1 => ?_)
  · rw [if_neg c1] at hF
    refine lv_iload_n hx hb dX5_throwIfFaulty_15 rfl (lv_at hl 0 rfl) ?_
    refine lv_iconst hx hb dX5_throwIfFaulty_16 kc_iconst_2 ?_
    refine lv_icmp_ne (tgt := 30) hx hb dX5_throwIfFaulty_17 (by decide) (fun c2 => ?_) (fun c2 => ?_)
    · rw [if_neg c2] at hF
      refine lv_iload_n hx hb dX5_throwIfFaulty_30 rfl (lv_at hl 0 rfl) ?_
      refine lv_iconst hx hb dX5_throwIfFaulty_31 kc_iconst_3 ?_
      refine lv_icmp_ne (tgt := 46) hx hb dX5_throwIfFaulty_32 (by decide) (fun c3 => ?_) (fun c3 => ?_)
      · rw [if_neg c3] at hF
        exact rret0 hx hb hr hlocks dX5_throwIfFaulty_46
      · rw [if_pos c3] at hF
        exact (nt_no0 hF (by decide)).elim
    · rw [if_pos c2] at hF
      exact (nt_no0 hF (by decide)).elim
  · rw [if_pos c1] at hF
    exact (nt_no0 hF (by decide)).elim
abbrev rmN5_weight : Room := { frames := 5, cells := 0, slots := 0, locals := 106 }
set_option maxHeartbeats 4000000 in
set_option maxRecDepth 100000 in
theorem N5_weight (l : Launch) (D : va_G) (cI cZ cS cJ : ClassId) (aC aS aL aW aB aF aZ aK aM aO aT aY aV aU aR : Nat) (kQ : Nat → SA) (sr : Int32) (wm : Int32) (wW : Nat → Int32) (bh : Int32) (bF : Nat → Int32) (bZ : Nat → Int32) (bK : Nat → Int32) (bM : Nat → Int32) (ol : Int32) (oS : Nat → Int32) (kd : Int32) (kf : Nat → Int32) (kA : Nat → SA) (kV : Nat → SV) (kP : Nat → SV) (x1 : Int32) (x2 : Int32) (r : Int32) (z_wW : Nat → Int32) (z_kd : Int32) (z_kA : Nat → SA) (z_kV : Nat → SV) (hF : f5_weight sr wm wW bh bF bZ bK bM kd kA kV x1 x2 = some (0, r, z_wW, z_kd, z_kA, z_kV)) : Met l yX5_weight wsX5_weight rmN5_weight (uP D (gT cI cZ cS cJ) ((W5x cI aC aS aL aW aB aF aZ aK aM aO aT aY sr wm wW bh bF bZ bK bM ol oS) ++ (HB cI cZ cS aY aV aU aR kd kf kA kV kQ kP)) [.ref aC, .int x1, .int x2]) (uQ D (some (.int r)) (uA ((W5x cI aC aS aL aW aB aF aZ aK aM aO aT aY sr wm wW bh bF bZ bK bM ol oS) ++ (HB cI cZ cS aY aV aU aR kd kf kA kV kQ kP))) ((W5x cI aC aS aL aW aB aF aZ aK aM aO aT aY sr wm z_wW bh bF bZ bK bM ol oS) ++ (HB cI cZ cS aY aV aU aR z_kd kf z_kA z_kV kQ kP))) 0 0 (uA ((W5x cI aC aS aL aW aB aF aZ aK aM aO aT aY sr wm wW bh bF bZ bK bM ol oS) ++ (HB cI cZ cS aY aV aU aR kd kf kA kV kQ kP))) := by
  refine Met.ofW (cc := cX5_weight) (maxL := 4) (ret := (some .int)) (by decide) rfl ?_
  intro p e s m args below meth c s₁ B hml hv
  obtain ⟨ha, hK, hP, hD0⟩ := hv
  have hx := B.exec
  have hb := B.bytes
  have hr := B.returns
  have hlocks := B.notSynchronized
  have hts : ∀ w ∈ lw_all, w.before args s = true := fun w h => atoms_spec (ws := wsX5_weight) B.pre w (List.mem_cons_of_mem _ h)
  have hown : s.vm.findClass RX5 = some m.cls := findClass_of_methodNamed B.named
  have S : CallFix p m c cX5_weight 4 s args lw_all RX5 := ⟨hx, hb, hml, hown, hts⟩
  have hD := hD0.own
  generalize uA ((W5x cI aC aS aL aW aB aF aZ aK aM aO aT aY sr wm wW bh bF bZ bK bM ol oS) ++ (HB cI cZ cS aY aV aU aR kd kf kA kV kQ kP)) = A0 at hD ⊢
  have hS : va_S A0 s.heap s.heap [] := va_S.rf
  have hl := lv_entry ([.ref aC, .int x1, .int x2] : List Value) (n := 4) (Nat.le_of_ble_eq_true rfl)
  refine W.eq (g2 := F0 m 0 ((lg_sl ([.ref aC, .int x1, .int x2] : List Value) ++ List.replicate (4 - (lg_sl ([.ref aC, .int x1, .int x2] : List Value)).length) Slot.unset).toArray) []) (by rw [ha]; exact lg_entry_eq _ _ _) ?_
  generalize (lg_sl ([.ref aC, .int x1, .int x2] : List Value) ++ List.replicate (4 - (lg_sl ([.ref aC, .int x1, .int x2] : List Value)).length) Slot.unset).toArray = ls at hl ⊢
  have hl : lv_has ls 4 [(0, .ref aC), (1, .int x1), (2, .int x2)] := hl
  rw [f5_weight] at hF
  show uW p l e wsX5_weight rmN5_weight s m args below meth c D (some (.int r)) A0 ((W5x cI aC aS aL aW aB aF aZ aK aM aO aT aY sr wm z_wW bh bF bZ bK bM ol oS) ++ (HB cI cZ cS aY aV aU aR z_kd kf z_kA z_kV kQ kP)) s.heap [] (F0 m 0 ls [])
  refine lv_iload_n hx hb dX5_weight_0 rfl (lv_at hl 1 rfl) ?_
  obtain ⟨k2, h1, hF⟩ := bd1_at hF
  by_cases c13 : k2 = 0
  · subst c13
    have hF := ite_t rfl hF
    refine rcall0 (va_runS (As := [.int x1]) (rest := []) S (N5_throwIfNoPosition l D cI cZ cS cJ x1 h1) (va_cwS 1 hts (gd_S wd_458 wd_459 wd_22 wd_460) rfl rfl rfl hdn5_throwIfNoPosition ⟨Nat.le_of_ble_eq_true rfl, Nat.le_of_ble_eq_true rfl⟩) (rPreS hK (hP.sub (ws' := ([] : va_W)) [] rfl)) rfl rfl hl.1 rfl (lv_room (Nat.le_of_ble_eq_true rfl)) dX5_weight_1 ⟨(Nat.zero_le _), (Nat.zero_le _)⟩) ?_
    refine lv_iload_n hx hb dX5_weight_4 rfl (lv_at hl 2 rfl) ?_
    refine lv_iconst hx hb dX5_weight_5 kc_iconst_1 ?_
    refine lv_icmp_lt (tgt := 15) hx hb dX5_weight_6 (by decide) (fun c3 => ?_) (fun c3 => ?_)
    · have hF := ite_t c3 hF
      exact (nt_no hF (by decide)).elim
    · have hF := ite_f c3 hF
      refine lv_iload_n hx hb dX5_weight_9 rfl (lv_at hl 2 rfl) ?_
      refine lv_bipush hx hb dX5_weight_10 kc_bipush_9 ?_
      refine lv_icmp_le (tgt := 25) hx hb dX5_weight_12 (by decide) (fun c4 => ?_) (fun c4 => ?_)
      · have hF := ite_t c4 hF
        refine lv_aload_n hx hb dX5_weight_25 rfl (lv_at hl 0 rfl) ?_
        refine va_get (D := D) (ci := 5) (v := .ref aY) (C := RX5) (T := TX5) (N := 3) hx hb hts i_X5 hown hK.1 hP 0 rfl rfl 1 (by decide) (hts _ wd_140) (fun _ h9 => h9) rfl dX5_weight_26 ?_
        refine lv_aload_n hx hb dX5_weight_29 rfl (lv_at hl 0 rfl) ?_
        refine va_get (D := D) (ci := 5) (v := .ref aS) (C := RX5) (T := TX5) (N := 3) hx hb hts i_X5 hown hK.1 hP 0 rfl rfl 0 (by decide) (hts _ wd_139) (fun _ h9 => h9) rfl dX5_weight_30 ?_
        obtain ⟨u6, u7, u8, h5, hF⟩ := bd3_at hF
        refine hcallv (wc := (W4 cI aS aL aW aB aF aZ aK aM sr wm wW bh bF bZ bK bM)) (wc' := (W4 cI aS aL aW aB aF aZ aK aM sr wm wW bh bF bZ bK bM)) (Hb := (HB cI cZ cS aY aV aU aR kd kf kA kV kQ kP)) (Hb' := (HB cI cZ cS aY aV aU aR u6 kf u7 u8 kQ kP)) (X := (W5x cI aC aS aL aW aB aF aZ aK aM aO aT aY sr wm wW bh bF bZ bK bM ol oS)) (X' := (W5x cI aC aS aL aW aB aF aZ aK aM aO aT aY sr wm wW bh bF bZ bK bM ol oS)) (va_runV (As := [.ref aS]) (rest := []) S (K1_save l D cI cZ cS cJ aS aL aW aB aF aZ aK aM sr wm wW bh bF bZ bK bM aY aV aU aR kd kf kA kQ kV kP  u6 u7 u8 h5) (cwV 1 hts (gd_V wd_276 wd_277 wd_278 wd_26 wd_279) rfl rfl rfl hd1_save ⟨Nat.le_of_ble_eq_true rfl, Nat.le_of_ble_eq_true rfl⟩) (uPreVq hK (hP.sub (ws' := (W4 cI aS aL aW aB aF aZ aK aM sr wm wW bh bF bZ bK bM) ++ (HB cI cZ cS aY aV aU aR kd kf kA kV kQ kP)) [1, 2, 3, 4, 5, 6, 7, 8, 11, 12, 13, 14, 15, 16, 17, 18, 19, 20, 21, 22, 23, 24, 25, 26, 27, 28, 29, 30, 31, 32, 33, 34, 35, 36, 37, 38, 39, 40, 41, 42, 43, 44, 45, 46, 47, 48, 49, 50, 51, 52, 53, 54, 55, 56, 57, 58, 59, 60, 61, 62, 63, 64, 65, 66, 67, 68, 69, 70, 71, 72, 73, 74, 75, 76, 77, 78] rfl) (hD.sub (ws' := (W4 cI aS aL aW aB aF aZ aK aM sr wm wW bh bF bZ bK bM) ++ (HB cI cZ cS aY aV aU aR kd kf kA kV kQ kP)) [1, 2, 3, 4, 5, 6, 7, 8, 11, 12, 13, 14, 15, 16, 17, 18, 19, 20, 21, 22, 23, 24, 25, 26, 27, 28, 29, 30, 31, 32, 33, 34, 35, 36, 37, 38, 39, 40, 41, 42, 43, 44, 45, 46, 47, 48, 49, 50, 51, 52, 53, 54, 55, 56, 57, 58, 59, 60, 61, 62, 63, 64, 65, 66, 67, 68, 69, 70, 71, 72, 73, 74, 75, 76, 77, 78] (by decide +kernel) rfl) 8 (ci := 1) (q := (RX1, TX1, 4)) rfl rfl) rfl rfl hl.1 rfl (lv_room (Nat.le_of_ble_eq_true rfl)) dX5_weight_33 ⟨Nat.le_of_ble_eq_true rfl, Nat.le_of_ble_eq_true rfl⟩) hS hP hD [1, 2, 3, 4, 5, 6, 7, 8] rfl rfl rfl rfl (fun H locs hP hD hS => ?_)
        refine lv_aload_n hx hb dX5_weight_36 rfl (lv_at hl 0 rfl) ?_
        refine va_get (D := D) (ci := 5) (v := .ref aS) (C := RX5) (T := TX5) (N := 3) hx hb hts i_X5 hown hK.1 hP 0 rfl rfl 0 (by decide) (hts _ wd_139) (fun _ h9 => h9) rfl dX5_weight_37 ?_
        refine va_get (D := D) (ci := 4) (v := .ref aL) (C := RX4) (T := TX4) (N := 3) hx hb hts i_X4 hown hK.1 hP 1 rfl rfl 0 (by decide) (hts _ wd_89) (fun _ h9 => h9) rfl dX5_weight_40 ?_
        refine lv_iload_n hx hb dX5_weight_43 rfl (lv_at hl 1 rfl) ?_
        obtain ⟨q10, h9, hF⟩ := bd1_at hF
        refine rcall (va_runV (As := [.int x1]) (rest := []) S (K2_weightAt l D cI cZ cS cJ aL aW wm wW x1 q10 h9) (cwV 1 hts (gd_V wd_418 wd_336 wd_337 wd_24 wd_338) rfl rfl rfl hd2_weightAt ⟨Nat.le_of_ble_eq_true rfl, Nat.le_of_ble_eq_true rfl⟩) (rPreV hK (hP.sub (ws' := (W2 cI aL aW wm wW)) [2, 3] rfl) (ci := 2) (q := (RX2, TX2, 2)) rfl rfl) rfl rfl hl.1 rfl (lv_room (Nat.le_of_ble_eq_true rfl)) dX5_weight_44 ⟨(Nat.zero_le _), (Nat.zero_le _)⟩) ?_
        refine lv_istore_n (lv' := [(3, .int q10), (0, .ref aC), (1, .int x1), (2, .int x2)]) hx hb dX5_weight_47 rfl hl (by decide) rfl (fun ls hl => ?_)
        refine lv_aload_n hx hb dX5_weight_48 rfl (lv_at hl 1 rfl) ?_
        refine va_get (D := D) (ci := 5) (v := .ref aS) (C := RX5) (T := TX5) (N := 3) hx hb hts i_X5 hown hK.1 hP 0 rfl rfl 0 (by decide) (hts _ wd_139) (fun _ h9 => h9) rfl dX5_weight_49 ?_
        refine va_get (D := D) (ci := 4) (v := .ref aL) (C := RX4) (T := TX4) (N := 3) hx hb hts i_X4 hown hK.1 hP 1 rfl rfl 0 (by decide) (hts _ wd_89) (fun _ h9 => h9) rfl dX5_weight_52 ?_
        refine lv_iload_n hx hb dX5_weight_55 rfl (lv_at hl 2 rfl) ?_
        refine lv_iload_n hx hb dX5_weight_56 rfl (lv_at hl 3 rfl) ?_
        obtain ⟨u12, h11, hF⟩ := bd1_at hF
        refine ucallv (ws' := ((W5x cI aC aS aL aW aB aF aZ aK aM aO aT aY sr wm u12 bh bF bZ bK bM ol oS) ++ (HB cI cZ cS aY aV aU aR u6 kf u7 u8 kQ kP))) (va_runV (As := [.int x1, .int x2]) (rest := []) S (K2_setWeight l D cI cZ cS cJ aL aW wm wW x1 x2 u12 h11) (cwV 2 hts (gd_V wd_463 wd_464 wd_465 wd_24 wd_466) rfl rfl rfl hd2_setWeight ⟨Nat.le_of_ble_eq_true rfl, Nat.le_of_ble_eq_true rfl⟩) (uPreV hK (hP.sub (ws' := (W2 cI aL aW wm wW)) [2, 3] rfl) (hD.sub (ws' := (W2 cI aL aW wm wW)) [2, 3] (by decide) rfl) (ci := 2) (q := (RX2, TX2, 2)) rfl rfl) rfl rfl hl.1 rfl (lv_room (Nat.le_of_ble_eq_true rfl)) dX5_weight_57 ⟨(Nat.zero_le _), (Nat.zero_le _)⟩) hS hP hD [2, 3] rfl rfl rfl rfl (fun H locs hP hD hS => ?_)
        refine lv_iload_n hx hb dX5_weight_60 rfl (lv_at hl 0 rfl) ?_
        cases hF
        exact ureti hx hb hr hlocks hP hS dX5_weight_61
      · have hF := ite_f c4 hF
        exact (nt_no hF (by decide)).elim
  · have hF := ite_f c13 hF
    exact (nt_no hF c13).elim
abbrev rmN5_modulus : Room := { frames := 5, cells := 0, slots := 0, locals := 106 }
set_option maxHeartbeats 4000000 in
set_option maxRecDepth 100000 in
theorem N5_modulus (l : Launch) (D : va_G) (cI cZ cS cJ : ClassId) (aC aS aL aW aB aF aZ aK aM aO aT aY aV aU aR : Nat) (kQ : Nat → SA) (sr : Int32) (wm : Int32) (wW : Nat → Int32) (bh : Int32) (bF : Nat → Int32) (bZ : Nat → Int32) (bK : Nat → Int32) (bM : Nat → Int32) (ol : Int32) (oS : Nat → Int32) (kd : Int32) (kf : Nat → Int32) (kA : Nat → SA) (kV : Nat → SV) (kP : Nat → SV) (x1 : Int32) (r : Int32) (z_wm : Int32) (z_kd : Int32) (z_kA : Nat → SA) (z_kV : Nat → SV) (hF : f5_modulus sr wm wW bh bF bZ bK bM kd kA kV x1 = some (0, r, z_wm, z_kd, z_kA, z_kV)) : Met l yX5_modulus wsX5_modulus rmN5_modulus (uP D (gT cI cZ cS cJ) ((W5x cI aC aS aL aW aB aF aZ aK aM aO aT aY sr wm wW bh bF bZ bK bM ol oS) ++ (HB cI cZ cS aY aV aU aR kd kf kA kV kQ kP)) [.ref aC, .int x1]) (uQ D (some (.int r)) (uA ((W5x cI aC aS aL aW aB aF aZ aK aM aO aT aY sr wm wW bh bF bZ bK bM ol oS) ++ (HB cI cZ cS aY aV aU aR kd kf kA kV kQ kP))) ((W5x cI aC aS aL aW aB aF aZ aK aM aO aT aY sr z_wm wW bh bF bZ bK bM ol oS) ++ (HB cI cZ cS aY aV aU aR z_kd kf z_kA z_kV kQ kP))) 0 0 (uA ((W5x cI aC aS aL aW aB aF aZ aK aM aO aT aY sr wm wW bh bF bZ bK bM ol oS) ++ (HB cI cZ cS aY aV aU aR kd kf kA kV kQ kP))) := by
  refine Met.ofW (cc := cX5_modulus) (maxL := 3) (ret := (some .int)) (by decide) rfl ?_
  intro p e s m args below meth c s₁ B hml hv
  obtain ⟨ha, hK, hP, hD0⟩ := hv
  have hx := B.exec
  have hb := B.bytes
  have hr := B.returns
  have hlocks := B.notSynchronized
  have hts : ∀ w ∈ lw_all, w.before args s = true := fun w h => atoms_spec (ws := wsX5_modulus) B.pre w (List.mem_cons_of_mem _ h)
  have hown : s.vm.findClass RX5 = some m.cls := findClass_of_methodNamed B.named
  have S : CallFix p m c cX5_modulus 3 s args lw_all RX5 := ⟨hx, hb, hml, hown, hts⟩
  have hD := hD0.own
  generalize uA ((W5x cI aC aS aL aW aB aF aZ aK aM aO aT aY sr wm wW bh bF bZ bK bM ol oS) ++ (HB cI cZ cS aY aV aU aR kd kf kA kV kQ kP)) = A0 at hD ⊢
  have hS : va_S A0 s.heap s.heap [] := va_S.rf
  have hl := lv_entry ([.ref aC, .int x1] : List Value) (n := 3) (Nat.le_of_ble_eq_true rfl)
  refine W.eq (g2 := F0 m 0 ((lg_sl ([.ref aC, .int x1] : List Value) ++ List.replicate (3 - (lg_sl ([.ref aC, .int x1] : List Value)).length) Slot.unset).toArray) []) (by rw [ha]; exact lg_entry_eq _ _ _) ?_
  generalize (lg_sl ([.ref aC, .int x1] : List Value) ++ List.replicate (3 - (lg_sl ([.ref aC, .int x1] : List Value)).length) Slot.unset).toArray = ls at hl ⊢
  have hl : lv_has ls 3 [(0, .ref aC), (1, .int x1)] := hl
  rw [f5_modulus] at hF
  show uW p l e wsX5_modulus rmN5_modulus s m args below meth c D (some (.int r)) A0 ((W5x cI aC aS aL aW aB aF aZ aK aM aO aT aY sr z_wm wW bh bF bZ bK bM ol oS) ++ (HB cI cZ cS aY aV aU aR z_kd kf z_kA z_kV kQ kP)) s.heap [] (F0 m 0 ls [])
  refine lv_iload_n hx hb dX5_modulus_0 rfl (lv_at hl 1 rfl) ?_
  refine lv_bipush hx hb dX5_modulus_1 kc_bipush_7 ?_
  refine lv_icmp_lt (tgt := 12) hx hb dX5_modulus_3 (by decide) (fun c1 => ?_) (fun c1 => ?_)
  · have hF := ite_t c1 hF
    exact (nt_no hF (by decide)).elim
  · have hF := ite_f c1 hF
    refine lv_iload_n hx hb dX5_modulus_6 rfl (lv_at hl 1 rfl) ?_
    refine lv_bipush hx hb dX5_modulus_7 kc_bipush_26 ?_
    refine lv_icmp_le (tgt := 22) hx hb dX5_modulus_9 (by decide) (fun c2 => ?_) (fun c2 => ?_)
    · have hF := ite_t c2 hF
      refine lv_aload_n hx hb dX5_modulus_22 rfl (lv_at hl 0 rfl) ?_
      refine va_get (D := D) (ci := 5) (v := .ref aY) (C := RX5) (T := TX5) (N := 3) hx hb hts i_X5 hown hK.1 hP 0 rfl rfl 1 (by decide) (hts _ wd_140) (fun _ h9 => h9) rfl dX5_modulus_23 ?_
      refine lv_aload_n hx hb dX5_modulus_26 rfl (lv_at hl 0 rfl) ?_
      refine va_get (D := D) (ci := 5) (v := .ref aS) (C := RX5) (T := TX5) (N := 3) hx hb hts i_X5 hown hK.1 hP 0 rfl rfl 0 (by decide) (hts _ wd_139) (fun _ h9 => h9) rfl dX5_modulus_27 ?_
      obtain ⟨u4, u5, u6, h3, hF⟩ := bd3_at hF
      refine hcallv (wc := (W4 cI aS aL aW aB aF aZ aK aM sr wm wW bh bF bZ bK bM)) (wc' := (W4 cI aS aL aW aB aF aZ aK aM sr wm wW bh bF bZ bK bM)) (Hb := (HB cI cZ cS aY aV aU aR kd kf kA kV kQ kP)) (Hb' := (HB cI cZ cS aY aV aU aR u4 kf u5 u6 kQ kP)) (X := (W5x cI aC aS aL aW aB aF aZ aK aM aO aT aY sr wm wW bh bF bZ bK bM ol oS)) (X' := (W5x cI aC aS aL aW aB aF aZ aK aM aO aT aY sr wm wW bh bF bZ bK bM ol oS)) (va_runV (As := [.ref aS]) (rest := []) S (K1_save l D cI cZ cS cJ aS aL aW aB aF aZ aK aM sr wm wW bh bF bZ bK bM aY aV aU aR kd kf kA kQ kV kP  u4 u5 u6 h3) (cwV 1 hts (gd_V wd_276 wd_277 wd_278 wd_26 wd_279) rfl rfl rfl hd1_save ⟨Nat.le_of_ble_eq_true rfl, Nat.le_of_ble_eq_true rfl⟩) (uPreVq hK (hP.sub (ws' := (W4 cI aS aL aW aB aF aZ aK aM sr wm wW bh bF bZ bK bM) ++ (HB cI cZ cS aY aV aU aR kd kf kA kV kQ kP)) [1, 2, 3, 4, 5, 6, 7, 8, 11, 12, 13, 14, 15, 16, 17, 18, 19, 20, 21, 22, 23, 24, 25, 26, 27, 28, 29, 30, 31, 32, 33, 34, 35, 36, 37, 38, 39, 40, 41, 42, 43, 44, 45, 46, 47, 48, 49, 50, 51, 52, 53, 54, 55, 56, 57, 58, 59, 60, 61, 62, 63, 64, 65, 66, 67, 68, 69, 70, 71, 72, 73, 74, 75, 76, 77, 78] rfl) (hD.sub (ws' := (W4 cI aS aL aW aB aF aZ aK aM sr wm wW bh bF bZ bK bM) ++ (HB cI cZ cS aY aV aU aR kd kf kA kV kQ kP)) [1, 2, 3, 4, 5, 6, 7, 8, 11, 12, 13, 14, 15, 16, 17, 18, 19, 20, 21, 22, 23, 24, 25, 26, 27, 28, 29, 30, 31, 32, 33, 34, 35, 36, 37, 38, 39, 40, 41, 42, 43, 44, 45, 46, 47, 48, 49, 50, 51, 52, 53, 54, 55, 56, 57, 58, 59, 60, 61, 62, 63, 64, 65, 66, 67, 68, 69, 70, 71, 72, 73, 74, 75, 76, 77, 78] (by decide +kernel) rfl) 8 (ci := 1) (q := (RX1, TX1, 4)) rfl rfl) rfl rfl hl.1 rfl (lv_room (Nat.le_of_ble_eq_true rfl)) dX5_modulus_30 ⟨Nat.le_of_ble_eq_true rfl, Nat.le_of_ble_eq_true rfl⟩) hS hP hD [1, 2, 3, 4, 5, 6, 7, 8] rfl rfl rfl rfl (fun H locs hP hD hS => ?_)
      refine lv_aload_n hx hb dX5_modulus_33 rfl (lv_at hl 0 rfl) ?_
      refine va_get (D := D) (ci := 5) (v := .ref aS) (C := RX5) (T := TX5) (N := 3) hx hb hts i_X5 hown hK.1 hP 0 rfl rfl 0 (by decide) (hts _ wd_139) (fun _ h9 => h9) rfl dX5_modulus_34 ?_
      refine va_get (D := D) (ci := 4) (v := .ref aL) (C := RX4) (T := TX4) (N := 3) hx hb hts i_X4 hown hK.1 hP 1 rfl rfl 0 (by decide) (hts _ wd_89) (fun _ h9 => h9) rfl dX5_modulus_37 ?_
      refine va_get (D := D) (ci := 2) (v := .int wm) (C := RX2) (T := TX2) (N := 2) hx hb hts i_X2 hown hK.1 hP 2 rfl rfl 1 (by decide) (hts _ wd_57) (fun _ h9 => h9) rfl dX5_modulus_40 ?_
      refine lv_istore_n (lv' := [(2, .int wm), (0, .ref aC), (1, .int x1)]) hx hb dX5_modulus_43 rfl hl (by decide) rfl (fun ls hl => ?_)
      refine lv_aload_n hx hb dX5_modulus_44 rfl (lv_at hl 1 rfl) ?_
      refine va_get (D := D) (ci := 5) (v := .ref aS) (C := RX5) (T := TX5) (N := 3) hx hb hts i_X5 hown hK.1 hP 0 rfl rfl 0 (by decide) (hts _ wd_139) (fun _ h9 => h9) rfl dX5_modulus_45 ?_
      refine va_get (D := D) (ci := 4) (v := .ref aL) (C := RX4) (T := TX4) (N := 3) hx hb hts i_X4 hown hK.1 hP 1 rfl rfl 0 (by decide) (hts _ wd_89) (fun _ h9 => h9) rfl dX5_modulus_48 ?_
      refine lv_iload_n hx hb dX5_modulus_51 rfl (lv_at hl 2 rfl) ?_
      refine va_put (D := D) (ci := 2) (v := .int x1) (ty := .int) (C := RX2) (T := TX2) (N := 2) hx hb hts i_X2 tyX2 tyX2_ok nmX2 hown hK.1 hP hD hS 2 rfl rfl 1 (by decide) (hts _ wd_57) (fun _ h9 => h9) rfl (by decide +kernel) rfl rfl (Nat.le_of_ble_eq_true rfl) dX5_modulus_52 (fun H locs hP hD hS => ?_)
      have hP : va_P D vwCl ((W5x cI aC aS aL aW aB aF aZ aK aM aO aT aY sr x1 wW bh bF bZ bK bM ol oS) ++ (HB cI cZ cS aY aV aU aR u4 kf u5 u6 kQ kP)) H := hP
      have hD : va_D A0 ((W5x cI aC aS aL aW aB aF aZ aK aM aO aT aY sr x1 wW bh bF bZ bK bM ol oS) ++ (HB cI cZ cS aY aV aU aR u4 kf u5 u6 kQ kP)) := hD
      refine lv_iload_n hx hb dX5_modulus_55 rfl (lv_at hl 0 rfl) ?_
      cases hF
      exact ureti hx hb hr hlocks hP hS dX5_modulus_56
    · have hF := ite_f c2 hF
      exact (nt_no hF (by decide)).elim
abbrev rmN5_book : Room := { frames := 5, cells := 0, slots := 0, locals := 106 }
set_option maxHeartbeats 4000000 in
set_option maxRecDepth 100000 in
theorem N5_book (l : Launch) (D : va_G) (cI cZ cS cJ : ClassId) (aC aS aL aW aB aF aZ aK aM aO aT aY aV aU aR : Nat) (kQ : Nat → SA) (sr : Int32) (wm : Int32) (wW : Nat → Int32) (bh : Int32) (bF : Nat → Int32) (bZ : Nat → Int32) (bK : Nat → Int32) (bM : Nat → Int32) (ol : Int32) (oS : Nat → Int32) (kd : Int32) (kf : Nat → Int32) (kA : Nat → SA) (kV : Nat → SV) (kP : Nat → SV) (x1 : Int32) (x2 : Int32) (r : Int32) (z_bh : Int32) (z_bF : Nat → Int32) (z_bZ : Nat → Int32) (z_bK : Nat → Int32) (z_bM : Nat → Int32) (z_kd : Int32) (z_kA : Nat → SA) (z_kV : Nat → SV) (hF : f5_book sr wm wW bh bF bZ bK bM kd kA kV x1 x2 = some (0, r, z_bh, z_bF, z_bZ, z_bK, z_bM, z_kd, z_kA, z_kV)) : Met l yX5_book wsX5_book rmN5_book (uP D (gT cI cZ cS cJ) ((W5x cI aC aS aL aW aB aF aZ aK aM aO aT aY sr wm wW bh bF bZ bK bM ol oS) ++ (HB cI cZ cS aY aV aU aR kd kf kA kV kQ kP)) [.ref aC, .int x1, .int x2]) (uQ D (some (.int r)) (uA ((W5x cI aC aS aL aW aB aF aZ aK aM aO aT aY sr wm wW bh bF bZ bK bM ol oS) ++ (HB cI cZ cS aY aV aU aR kd kf kA kV kQ kP))) ((W5x cI aC aS aL aW aB aF aZ aK aM aO aT aY sr wm wW z_bh z_bF z_bZ z_bK z_bM ol oS) ++ (HB cI cZ cS aY aV aU aR z_kd kf z_kA z_kV kQ kP))) 0 0 (uA ((W5x cI aC aS aL aW aB aF aZ aK aM aO aT aY sr wm wW bh bF bZ bK bM ol oS) ++ (HB cI cZ cS aY aV aU aR kd kf kA kV kQ kP))) := by
  refine Met.ofW (cc := cX5_book) (maxL := 3) (ret := (some .int)) (by decide) rfl ?_
  intro p e s m args below meth c s₁ B hml hv
  obtain ⟨ha, hK, hP, hD0⟩ := hv
  have hx := B.exec
  have hb := B.bytes
  have hr := B.returns
  have hlocks := B.notSynchronized
  have hts : ∀ w ∈ lw_all, w.before args s = true := fun w h => atoms_spec (ws := wsX5_book) B.pre w (List.mem_cons_of_mem _ h)
  have hown : s.vm.findClass RX5 = some m.cls := findClass_of_methodNamed B.named
  have S : CallFix p m c cX5_book 3 s args lw_all RX5 := ⟨hx, hb, hml, hown, hts⟩
  have hD := hD0.own
  generalize uA ((W5x cI aC aS aL aW aB aF aZ aK aM aO aT aY sr wm wW bh bF bZ bK bM ol oS) ++ (HB cI cZ cS aY aV aU aR kd kf kA kV kQ kP)) = A0 at hD ⊢
  have hS : va_S A0 s.heap s.heap [] := va_S.rf
  have hl := lv_entry ([.ref aC, .int x1, .int x2] : List Value) (n := 3) (Nat.le_of_ble_eq_true rfl)
  refine W.eq (g2 := F0 m 0 ((lg_sl ([.ref aC, .int x1, .int x2] : List Value) ++ List.replicate (3 - (lg_sl ([.ref aC, .int x1, .int x2] : List Value)).length) Slot.unset).toArray) []) (by rw [ha]; exact lg_entry_eq _ _ _) ?_
  generalize (lg_sl ([.ref aC, .int x1, .int x2] : List Value) ++ List.replicate (3 - (lg_sl ([.ref aC, .int x1, .int x2] : List Value)).length) Slot.unset).toArray = ls at hl ⊢
  have hl : lv_has ls 3 [(0, .ref aC), (1, .int x1), (2, .int x2)] := hl
  rw [f5_book] at hF
  show uW p l e wsX5_book rmN5_book s m args below meth c D (some (.int r)) A0 ((W5x cI aC aS aL aW aB aF aZ aK aM aO aT aY sr wm wW z_bh z_bF z_bZ z_bK z_bM ol oS) ++ (HB cI cZ cS aY aV aU aR z_kd kf z_kA z_kV kQ kP)) s.heap [] (F0 m 0 ls [])
  refine lv_aload_n hx hb dX5_book_0 rfl (lv_at hl 0 rfl) ?_
  refine lv_iload_n hx hb dX5_book_1 rfl (lv_at hl 1 rfl) ?_
  refine lv_iload_n hx hb dX5_book_2 rfl (lv_at hl 2 rfl) ?_
  obtain ⟨q2, h1, hF⟩ := bd1_at hF
  refine rcall (va_runV (As := [.int x1, .int x2]) (rest := []) S (K5_faultOfBook l D cI cZ cS cJ aC aS aL aW aB aF aZ aK aM aO aT aY aV aU aR kQ sr wm wW bh bF bZ bK bM ol oS kd kf kA kV kP x1 x2 q2 h1) (cwV 2 hts (gd_V wd_153 wd_155 wd_0 wd_22 wd_156) rfl rfl rfl hd5_faultOfBook ⟨Nat.le_of_ble_eq_true rfl, Nat.le_of_ble_eq_true rfl⟩) (rPreV hK hP (ci := 5) (q := (RX5, TX5, 3)) rfl rfl) rfl rfl hl.1 rfl (lv_room (Nat.le_of_ble_eq_true rfl)) dX5_book_3 ⟨(Nat.zero_le _), (Nat.zero_le _)⟩) ?_
  obtain ⟨k4, h3, hF⟩ := bd1_at hF
  by_cases c16 : k4 = 0
  · subst c16
    have hF := ite_t rfl hF
    refine rcall0 (va_runS (As := [.int q2]) (rest := []) S (N5_throwIfFaulty l D cI cZ cS cJ q2 h3) (va_cwS 1 hts (gd_S wd_173 wd_174 wd_22 wd_175) rfl rfl rfl hdn5_throwIfFaulty ⟨Nat.le_of_ble_eq_true rfl, Nat.le_of_ble_eq_true rfl⟩) (rPreS hK (hP.sub (ws' := ([] : va_W)) [] rfl)) rfl rfl hl.1 rfl (lv_room (Nat.le_of_ble_eq_true rfl)) dX5_book_6 ⟨(Nat.zero_le _), (Nat.zero_le _)⟩) ?_
    refine lv_aload_n hx hb dX5_book_9 rfl (lv_at hl 0 rfl) ?_
    refine va_get (D := D) (ci := 5) (v := .ref aY) (C := RX5) (T := TX5) (N := 3) hx hb hts i_X5 hown hK.1 hP 0 rfl rfl 1 (by decide) (hts _ wd_140) (fun _ h9 => h9) rfl dX5_book_10 ?_
    refine lv_aload_n hx hb dX5_book_13 rfl (lv_at hl 0 rfl) ?_
    refine va_get (D := D) (ci := 5) (v := .ref aS) (C := RX5) (T := TX5) (N := 3) hx hb hts i_X5 hown hK.1 hP 0 rfl rfl 0 (by decide) (hts _ wd_139) (fun _ h9 => h9) rfl dX5_book_14 ?_
    obtain ⟨u6, u7, u8, h5, hF⟩ := bd3_at hF
    refine hcallv (wc := (W4 cI aS aL aW aB aF aZ aK aM sr wm wW bh bF bZ bK bM)) (wc' := (W4 cI aS aL aW aB aF aZ aK aM sr wm wW bh bF bZ bK bM)) (Hb := (HB cI cZ cS aY aV aU aR kd kf kA kV kQ kP)) (Hb' := (HB cI cZ cS aY aV aU aR u6 kf u7 u8 kQ kP)) (X := (W5x cI aC aS aL aW aB aF aZ aK aM aO aT aY sr wm wW bh bF bZ bK bM ol oS)) (X' := (W5x cI aC aS aL aW aB aF aZ aK aM aO aT aY sr wm wW bh bF bZ bK bM ol oS)) (va_runV (As := [.ref aS]) (rest := []) S (K1_save l D cI cZ cS cJ aS aL aW aB aF aZ aK aM sr wm wW bh bF bZ bK bM aY aV aU aR kd kf kA kQ kV kP  u6 u7 u8 h5) (cwV 1 hts (gd_V wd_276 wd_277 wd_278 wd_26 wd_279) rfl rfl rfl hd1_save ⟨Nat.le_of_ble_eq_true rfl, Nat.le_of_ble_eq_true rfl⟩) (uPreVq hK (hP.sub (ws' := (W4 cI aS aL aW aB aF aZ aK aM sr wm wW bh bF bZ bK bM) ++ (HB cI cZ cS aY aV aU aR kd kf kA kV kQ kP)) [1, 2, 3, 4, 5, 6, 7, 8, 11, 12, 13, 14, 15, 16, 17, 18, 19, 20, 21, 22, 23, 24, 25, 26, 27, 28, 29, 30, 31, 32, 33, 34, 35, 36, 37, 38, 39, 40, 41, 42, 43, 44, 45, 46, 47, 48, 49, 50, 51, 52, 53, 54, 55, 56, 57, 58, 59, 60, 61, 62, 63, 64, 65, 66, 67, 68, 69, 70, 71, 72, 73, 74, 75, 76, 77, 78] rfl) (hD.sub (ws' := (W4 cI aS aL aW aB aF aZ aK aM sr wm wW bh bF bZ bK bM) ++ (HB cI cZ cS aY aV aU aR kd kf kA kV kQ kP)) [1, 2, 3, 4, 5, 6, 7, 8, 11, 12, 13, 14, 15, 16, 17, 18, 19, 20, 21, 22, 23, 24, 25, 26, 27, 28, 29, 30, 31, 32, 33, 34, 35, 36, 37, 38, 39, 40, 41, 42, 43, 44, 45, 46, 47, 48, 49, 50, 51, 52, 53, 54, 55, 56, 57, 58, 59, 60, 61, 62, 63, 64, 65, 66, 67, 68, 69, 70, 71, 72, 73, 74, 75, 76, 77, 78] (by decide +kernel) rfl) 8 (ci := 1) (q := (RX1, TX1, 4)) rfl rfl) rfl rfl hl.1 rfl (lv_room (Nat.le_of_ble_eq_true rfl)) dX5_book_17 ⟨Nat.le_of_ble_eq_true rfl, Nat.le_of_ble_eq_true rfl⟩) hS hP hD [1, 2, 3, 4, 5, 6, 7, 8] rfl rfl rfl rfl (fun H locs hP hD hS => ?_)
    refine lv_aload_n hx hb dX5_book_20 rfl (lv_at hl 0 rfl) ?_
    refine va_get (D := D) (ci := 5) (v := .ref aS) (C := RX5) (T := TX5) (N := 3) hx hb hts i_X5 hown hK.1 hP 0 rfl rfl 0 (by decide) (hts _ wd_139) (fun _ h9 => h9) rfl dX5_book_21 ?_
    refine va_get (D := D) (ci := 4) (v := .ref aB) (C := RX4) (T := TX4) (N := 3) hx hb hts i_X4 hown hK.1 hP 1 rfl rfl 1 (by decide) (hts _ wd_91) (fun _ h9 => h9) rfl dX5_book_24 ?_
    refine lv_iload_n hx hb dX5_book_27 rfl (lv_at hl 1 rfl) ?_
    refine lv_iload_n hx hb dX5_book_28 rfl (lv_at hl 2 rfl) ?_
    obtain ⟨q10, u11, u12, u13, u14, u15, h9, hF⟩ := bd6_at hF
    refine ucalli (ws' := ((W5x cI aC aS aL aW aB aF aZ aK aM aO aT aY sr wm wW u11 u12 u13 u14 u15 ol oS) ++ (HB cI cZ cS aY aV aU aR u6 kf u7 u8 kQ kP))) (va_runV (As := [.int x1, .int x2]) (rest := []) S (K0_add l D cI cZ cS cJ aB aF aZ aK aM bh bF bZ bK bM x1 x2 q10 u11 u12 u13 u14 u15 h9) (cwV 2 hts (gd_V wd_303 wd_304 wd_305 wd_25 wd_306) rfl rfl rfl hd0_add ⟨Nat.le_of_ble_eq_true rfl, Nat.le_of_ble_eq_true rfl⟩) (uPreV hK (hP.sub (ws' := (W0 cI aB aF aZ aK aM bh bF bZ bK bM)) [4, 5, 6, 7, 8] rfl) (hD.sub (ws' := (W0 cI aB aF aZ aK aM bh bF bZ bK bM)) [4, 5, 6, 7, 8] (by decide) rfl) (ci := 0) (q := (RX0, TX0, 5)) rfl rfl) rfl rfl hl.1 rfl (lv_room (Nat.le_of_ble_eq_true rfl)) dX5_book_29 ⟨(Nat.zero_le _), (Nat.zero_le _)⟩) hS hP hD [4, 5, 6, 7, 8] rfl rfl rfl rfl (fun H locs hP hD hS => ?_)
    cases hF
    exact ureti hx hb hr hlocks hP hS dX5_book_32
  · have hF := ite_f c16 hF
    exact (nt_no hF c16).elim
abbrev rmN5_write : Room := { frames := 5, cells := 0, slots := 0, locals := 106 }
set_option maxHeartbeats 4000000 in
set_option maxRecDepth 100000 in
theorem N5_write (l : Launch) (D : va_G) (cI cZ cS cJ : ClassId) (aC aS aL aW aB aF aZ aK aM aO aT aY aV aU aR : Nat) (kQ : Nat → SA) (sr : Int32) (wm : Int32) (wW : Nat → Int32) (bh : Int32) (bF : Nat → Int32) (bZ : Nat → Int32) (bK : Nat → Int32) (bM : Nat → Int32) (ol : Int32) (oS : Nat → Int32) (kd : Int32) (kf : Nat → Int32) (kA : Nat → SA) (kV : Nat → SV) (kP : Nat → SV) (x1 : Int32) (x2 : Int32) (r : Int32) (z_bK : Nat → Int32) (z_bM : Nat → Int32) (z_kd : Int32) (z_kA : Nat → SA) (z_kV : Nat → SV) (hF : f5_write sr wm wW bh bF bZ bK bM kd kA kV x1 x2 = some (0, r, z_bK, z_bM, z_kd, z_kA, z_kV)) : Met l yX5_write wsX5_write rmN5_write (uP D (gT cI cZ cS cJ) ((W5x cI aC aS aL aW aB aF aZ aK aM aO aT aY sr wm wW bh bF bZ bK bM ol oS) ++ (HB cI cZ cS aY aV aU aR kd kf kA kV kQ kP)) [.ref aC, .int x1, .int x2]) (uQ D (some (.int r)) (uA ((W5x cI aC aS aL aW aB aF aZ aK aM aO aT aY sr wm wW bh bF bZ bK bM ol oS) ++ (HB cI cZ cS aY aV aU aR kd kf kA kV kQ kP))) ((W5x cI aC aS aL aW aB aF aZ aK aM aO aT aY sr wm wW bh bF bZ z_bK z_bM ol oS) ++ (HB cI cZ cS aY aV aU aR z_kd kf z_kA z_kV kQ kP))) 0 0 (uA ((W5x cI aC aS aL aW aB aF aZ aK aM aO aT aY sr wm wW bh bF bZ bK bM ol oS) ++ (HB cI cZ cS aY aV aU aR kd kf kA kV kQ kP))) := by
  refine Met.ofW (cc := cX5_write) (maxL := 3) (ret := (some .int)) (by decide) rfl ?_
  intro p e s m args below meth c s₁ B hml hv
  obtain ⟨ha, hK, hP, hD0⟩ := hv
  have hx := B.exec
  have hb := B.bytes
  have hr := B.returns
  have hlocks := B.notSynchronized
  have hts : ∀ w ∈ lw_all, w.before args s = true := fun w h => atoms_spec (ws := wsX5_write) B.pre w (List.mem_cons_of_mem _ h)
  have hown : s.vm.findClass RX5 = some m.cls := findClass_of_methodNamed B.named
  have S : CallFix p m c cX5_write 3 s args lw_all RX5 := ⟨hx, hb, hml, hown, hts⟩
  have hD := hD0.own
  generalize uA ((W5x cI aC aS aL aW aB aF aZ aK aM aO aT aY sr wm wW bh bF bZ bK bM ol oS) ++ (HB cI cZ cS aY aV aU aR kd kf kA kV kQ kP)) = A0 at hD ⊢
  have hS : va_S A0 s.heap s.heap [] := va_S.rf
  have hl := lv_entry ([.ref aC, .int x1, .int x2] : List Value) (n := 3) (Nat.le_of_ble_eq_true rfl)
  refine W.eq (g2 := F0 m 0 ((lg_sl ([.ref aC, .int x1, .int x2] : List Value) ++ List.replicate (3 - (lg_sl ([.ref aC, .int x1, .int x2] : List Value)).length) Slot.unset).toArray) []) (by rw [ha]; exact lg_entry_eq _ _ _) ?_
  generalize (lg_sl ([.ref aC, .int x1, .int x2] : List Value) ++ List.replicate (3 - (lg_sl ([.ref aC, .int x1, .int x2] : List Value)).length) Slot.unset).toArray = ls at hl ⊢
  have hl : lv_has ls 3 [(0, .ref aC), (1, .int x1), (2, .int x2)] := hl
  rw [f5_write] at hF
  show uW p l e wsX5_write rmN5_write s m args below meth c D (some (.int r)) A0 ((W5x cI aC aS aL aW aB aF aZ aK aM aO aT aY sr wm wW bh bF bZ z_bK z_bM ol oS) ++ (HB cI cZ cS aY aV aU aR z_kd kf z_kA z_kV kQ kP)) s.heap [] (F0 m 0 ls [])
  refine lv_aload_n hx hb dX5_write_0 rfl (lv_at hl 0 rfl) ?_
  refine lv_iload_n hx hb dX5_write_1 rfl (lv_at hl 1 rfl) ?_
  refine lv_iload_n hx hb dX5_write_2 rfl (lv_at hl 2 rfl) ?_
  obtain ⟨q2, h1, hF⟩ := bd1_at hF
  refine rcall (va_runV (As := [.int x1, .int x2]) (rest := []) S (K5_faultOfWriting l D cI cZ cS cJ aC aS aL aW aB aF aZ aK aM aO aT aY aV aU aR kQ sr wm wW bh bF bZ bK bM ol oS kd kf kA kV kP x1 x2 q2 h1) (cwV 2 hts (gd_V wd_315 wd_317 wd_4 wd_22 wd_318) rfl rfl rfl hd5_faultOfWriting ⟨Nat.le_of_ble_eq_true rfl, Nat.le_of_ble_eq_true rfl⟩) (rPreV hK hP (ci := 5) (q := (RX5, TX5, 3)) rfl rfl) rfl rfl hl.1 rfl (lv_room (Nat.le_of_ble_eq_true rfl)) dX5_write_3 ⟨(Nat.zero_le _), (Nat.zero_le _)⟩) ?_
  obtain ⟨k4, h3, hF⟩ := bd1_at hF
  by_cases c16 : k4 = 0
  · subst c16
    have hF := ite_t rfl hF
    refine rcall0 (va_runS (As := [.int q2]) (rest := []) S (N5_throwIfFaulty l D cI cZ cS cJ q2 h3) (va_cwS 1 hts (gd_S wd_173 wd_174 wd_22 wd_175) rfl rfl rfl hdn5_throwIfFaulty ⟨Nat.le_of_ble_eq_true rfl, Nat.le_of_ble_eq_true rfl⟩) (rPreS hK (hP.sub (ws' := ([] : va_W)) [] rfl)) rfl rfl hl.1 rfl (lv_room (Nat.le_of_ble_eq_true rfl)) dX5_write_6 ⟨(Nat.zero_le _), (Nat.zero_le _)⟩) ?_
    refine lv_aload_n hx hb dX5_write_9 rfl (lv_at hl 0 rfl) ?_
    refine va_get (D := D) (ci := 5) (v := .ref aY) (C := RX5) (T := TX5) (N := 3) hx hb hts i_X5 hown hK.1 hP 0 rfl rfl 1 (by decide) (hts _ wd_140) (fun _ h9 => h9) rfl dX5_write_10 ?_
    refine lv_aload_n hx hb dX5_write_13 rfl (lv_at hl 0 rfl) ?_
    refine va_get (D := D) (ci := 5) (v := .ref aS) (C := RX5) (T := TX5) (N := 3) hx hb hts i_X5 hown hK.1 hP 0 rfl rfl 0 (by decide) (hts _ wd_139) (fun _ h9 => h9) rfl dX5_write_14 ?_
    obtain ⟨u6, u7, u8, h5, hF⟩ := bd3_at hF
    refine hcallv (wc := (W4 cI aS aL aW aB aF aZ aK aM sr wm wW bh bF bZ bK bM)) (wc' := (W4 cI aS aL aW aB aF aZ aK aM sr wm wW bh bF bZ bK bM)) (Hb := (HB cI cZ cS aY aV aU aR kd kf kA kV kQ kP)) (Hb' := (HB cI cZ cS aY aV aU aR u6 kf u7 u8 kQ kP)) (X := (W5x cI aC aS aL aW aB aF aZ aK aM aO aT aY sr wm wW bh bF bZ bK bM ol oS)) (X' := (W5x cI aC aS aL aW aB aF aZ aK aM aO aT aY sr wm wW bh bF bZ bK bM ol oS)) (va_runV (As := [.ref aS]) (rest := []) S (K1_save l D cI cZ cS cJ aS aL aW aB aF aZ aK aM sr wm wW bh bF bZ bK bM aY aV aU aR kd kf kA kQ kV kP  u6 u7 u8 h5) (cwV 1 hts (gd_V wd_276 wd_277 wd_278 wd_26 wd_279) rfl rfl rfl hd1_save ⟨Nat.le_of_ble_eq_true rfl, Nat.le_of_ble_eq_true rfl⟩) (uPreVq hK (hP.sub (ws' := (W4 cI aS aL aW aB aF aZ aK aM sr wm wW bh bF bZ bK bM) ++ (HB cI cZ cS aY aV aU aR kd kf kA kV kQ kP)) [1, 2, 3, 4, 5, 6, 7, 8, 11, 12, 13, 14, 15, 16, 17, 18, 19, 20, 21, 22, 23, 24, 25, 26, 27, 28, 29, 30, 31, 32, 33, 34, 35, 36, 37, 38, 39, 40, 41, 42, 43, 44, 45, 46, 47, 48, 49, 50, 51, 52, 53, 54, 55, 56, 57, 58, 59, 60, 61, 62, 63, 64, 65, 66, 67, 68, 69, 70, 71, 72, 73, 74, 75, 76, 77, 78] rfl) (hD.sub (ws' := (W4 cI aS aL aW aB aF aZ aK aM sr wm wW bh bF bZ bK bM) ++ (HB cI cZ cS aY aV aU aR kd kf kA kV kQ kP)) [1, 2, 3, 4, 5, 6, 7, 8, 11, 12, 13, 14, 15, 16, 17, 18, 19, 20, 21, 22, 23, 24, 25, 26, 27, 28, 29, 30, 31, 32, 33, 34, 35, 36, 37, 38, 39, 40, 41, 42, 43, 44, 45, 46, 47, 48, 49, 50, 51, 52, 53, 54, 55, 56, 57, 58, 59, 60, 61, 62, 63, 64, 65, 66, 67, 68, 69, 70, 71, 72, 73, 74, 75, 76, 77, 78] (by decide +kernel) rfl) 8 (ci := 1) (q := (RX1, TX1, 4)) rfl rfl) rfl rfl hl.1 rfl (lv_room (Nat.le_of_ble_eq_true rfl)) dX5_write_17 ⟨Nat.le_of_ble_eq_true rfl, Nat.le_of_ble_eq_true rfl⟩) hS hP hD [1, 2, 3, 4, 5, 6, 7, 8] rfl rfl rfl rfl (fun H locs hP hD hS => ?_)
    refine lv_aload_n hx hb dX5_write_20 rfl (lv_at hl 0 rfl) ?_
    refine va_get (D := D) (ci := 5) (v := .ref aS) (C := RX5) (T := TX5) (N := 3) hx hb hts i_X5 hown hK.1 hP 0 rfl rfl 0 (by decide) (hts _ wd_139) (fun _ h9 => h9) rfl dX5_write_21 ?_
    refine va_get (D := D) (ci := 4) (v := .ref aB) (C := RX4) (T := TX4) (N := 3) hx hb hts i_X4 hown hK.1 hP 1 rfl rfl 1 (by decide) (hts _ wd_91) (fun _ h9 => h9) rfl dX5_write_24 ?_
    refine lv_aload_n hx hb dX5_write_27 rfl (lv_at hl 0 rfl) ?_
    refine va_get (D := D) (ci := 5) (v := .ref aS) (C := RX5) (T := TX5) (N := 3) hx hb hts i_X5 hown hK.1 hP 0 rfl rfl 0 (by decide) (hts _ wd_139) (fun _ h9 => h9) rfl dX5_write_28 ?_
    refine va_get (D := D) (ci := 4) (v := .ref aB) (C := RX4) (T := TX4) (N := 3) hx hb hts i_X4 hown hK.1 hP 1 rfl rfl 1 (by decide) (hts _ wd_91) (fun _ h9 => h9) rfl dX5_write_31 ?_
    refine lv_iload_n hx hb dX5_write_34 rfl (lv_at hl 1 rfl) ?_
    obtain ⟨q10, h9, hF⟩ := bd1_at hF
    refine rcall (va_runV (As := [.int x1]) (rest := [.ref aB]) S (K0_cellOf l D cI cZ cS cJ aB aF aZ aK aM bh bF bZ bK bM x1 q10 h9) (cwV 1 hts (gd_V wd_319 wd_320 wd_321 wd_25 wd_322) rfl rfl rfl hd0_cellOf ⟨Nat.le_of_ble_eq_true rfl, Nat.le_of_ble_eq_true rfl⟩) (rPreV hK (hP.sub (ws' := (W0 cI aB aF aZ aK aM bh bF bZ bK bM)) [4, 5, 6, 7, 8] rfl) (ci := 0) (q := (RX0, TX0, 5)) rfl rfl) rfl rfl hl.1 rfl (lv_room (Nat.le_of_ble_eq_true rfl)) dX5_write_35 ⟨(Nat.zero_le _), (Nat.zero_le _)⟩) ?_
    refine lv_iload_n hx hb dX5_write_38 rfl (lv_at hl 2 rfl) ?_
    obtain ⟨u12, u13, h11, hF⟩ := bd2_at hF
    refine ucallv (ws' := ((W5x cI aC aS aL aW aB aF aZ aK aM aO aT aY sr wm wW bh bF bZ u12 u13 ol oS) ++ (HB cI cZ cS aY aV aU aR u6 kf u7 u8 kQ kP))) (va_runV (As := [.int q10, .int x2]) (rest := []) S (K0_makeWritten l D cI cZ cS cJ aB aF aZ aK aM bh bF bZ bK bM q10 x2 u12 u13 h11) (cwV 2 hts (gd_V wd_327 wd_328 wd_329 wd_25 wd_330) rfl rfl rfl hd0_makeWritten ⟨Nat.le_of_ble_eq_true rfl, Nat.le_of_ble_eq_true rfl⟩) (uPreV hK (hP.sub (ws' := (W0 cI aB aF aZ aK aM bh bF bZ bK bM)) [4, 5, 6, 7, 8] rfl) (hD.sub (ws' := (W0 cI aB aF aZ aK aM bh bF bZ bK bM)) [4, 5, 6, 7, 8] (by decide) rfl) (ci := 0) (q := (RX0, TX0, 5)) rfl rfl) rfl rfl hl.1 rfl (lv_room (Nat.le_of_ble_eq_true rfl)) dX5_write_39 ⟨(Nat.zero_le _), (Nat.zero_le _)⟩) hS hP hD [4, 5, 6, 7, 8] rfl rfl rfl rfl (fun H locs hP hD hS => ?_)
    refine lv_aload_n hx hb dX5_write_42 rfl (lv_at hl 0 rfl) ?_
    refine va_get (D := D) (ci := 5) (v := .ref aS) (C := RX5) (T := TX5) (N := 3) hx hb hts i_X5 hown hK.1 hP 0 rfl rfl 0 (by decide) (hts _ wd_139) (fun _ h9 => h9) rfl dX5_write_43 ?_
    refine va_get (D := D) (ci := 4) (v := .ref aL) (C := RX4) (T := TX4) (N := 3) hx hb hts i_X4 hown hK.1 hP 1 rfl rfl 0 (by decide) (hts _ wd_89) (fun _ h9 => h9) rfl dX5_write_46 ?_
    refine lv_iload_n hx hb dX5_write_49 rfl (lv_at hl 1 rfl) ?_
    obtain ⟨q15, h14, hF⟩ := bd1_at hF
    refine rcall (va_runV (As := [.int x1]) (rest := []) S (K2_letterOf l D cI cZ cS cJ aL aW wm wW x1 q15 h14) (cwV 1 hts (gd_V wd_331 wd_332 wd_333 wd_24 wd_334) rfl rfl rfl hd2_letterOf ⟨Nat.le_of_ble_eq_true rfl, Nat.le_of_ble_eq_true rfl⟩) (rPreV hK (hP.sub (ws' := (W2 cI aL aW wm wW)) [2, 3] rfl) (ci := 2) (q := (RX2, TX2, 2)) rfl rfl) rfl rfl hl.1 rfl (lv_room (Nat.le_of_ble_eq_true rfl)) dX5_write_50 ⟨(Nat.zero_le _), (Nat.zero_le _)⟩) ?_
    cases hF
    exact ureti hx hb hr hlocks hP hS dX5_write_53
  · have hF := ite_f c16 hF
    exact (nt_no hF c16).elim
abbrev rmN5_cash : Room := { frames := 5, cells := 0, slots := 0, locals := 106 }
set_option maxHeartbeats 4000000 in
set_option maxRecDepth 100000 in
theorem N5_cash (l : Launch) (D : va_G) (cI cZ cS cJ : ClassId) (aC aS aL aW aB aF aZ aK aM aO aT aY aV aU aR : Nat) (kQ : Nat → SA) (sr : Int32) (wm : Int32) (wW : Nat → Int32) (bh : Int32) (bF : Nat → Int32) (bZ : Nat → Int32) (bK : Nat → Int32) (bM : Nat → Int32) (ol : Int32) (oS : Nat → Int32) (kd : Int32) (kf : Nat → Int32) (kA : Nat → SA) (kV : Nat → SV) (kP : Nat → SV) (x1 : Int32) (x2 : Int32) (r : Int32) (z_sr : Int32) (z_bK : Nat → Int32) (z_bM : Nat → Int32) (z_kd : Int32) (z_kA : Nat → SA) (z_kV : Nat → SV) (hF : f5_cash sr wm wW bh bF bZ bK bM kd kA kV x1 x2 = some (0, r, z_sr, z_bK, z_bM, z_kd, z_kA, z_kV)) : Met l yX5_cash wsX5_cash rmN5_cash (uP D (gT cI cZ cS cJ) ((W5x cI aC aS aL aW aB aF aZ aK aM aO aT aY sr wm wW bh bF bZ bK bM ol oS) ++ (HB cI cZ cS aY aV aU aR kd kf kA kV kQ kP)) [.ref aC, .int x1, .int x2]) (uQ D (some (.int r)) (uA ((W5x cI aC aS aL aW aB aF aZ aK aM aO aT aY sr wm wW bh bF bZ bK bM ol oS) ++ (HB cI cZ cS aY aV aU aR kd kf kA kV kQ kP))) ((W5x cI aC aS aL aW aB aF aZ aK aM aO aT aY z_sr wm wW bh bF bZ z_bK z_bM ol oS) ++ (HB cI cZ cS aY aV aU aR z_kd kf z_kA z_kV kQ kP))) 0 0 (uA ((W5x cI aC aS aL aW aB aF aZ aK aM aO aT aY sr wm wW bh bF bZ bK bM ol oS) ++ (HB cI cZ cS aY aV aU aR kd kf kA kV kQ kP))) := by
  refine Met.ofW (cc := cX5_cash) (maxL := 3) (ret := (some .int)) (by decide) rfl ?_
  intro p e s m args below meth c s₁ B hml hv
  obtain ⟨ha, hK, hP, hD0⟩ := hv
  have hx := B.exec
  have hb := B.bytes
  have hr := B.returns
  have hlocks := B.notSynchronized
  have hts : ∀ w ∈ lw_all, w.before args s = true := fun w h => atoms_spec (ws := wsX5_cash) B.pre w (List.mem_cons_of_mem _ h)
  have hown : s.vm.findClass RX5 = some m.cls := findClass_of_methodNamed B.named
  have S : CallFix p m c cX5_cash 3 s args lw_all RX5 := ⟨hx, hb, hml, hown, hts⟩
  have hD := hD0.own
  generalize uA ((W5x cI aC aS aL aW aB aF aZ aK aM aO aT aY sr wm wW bh bF bZ bK bM ol oS) ++ (HB cI cZ cS aY aV aU aR kd kf kA kV kQ kP)) = A0 at hD ⊢
  have hS : va_S A0 s.heap s.heap [] := va_S.rf
  have hl := lv_entry ([.ref aC, .int x1, .int x2] : List Value) (n := 3) (Nat.le_of_ble_eq_true rfl)
  refine W.eq (g2 := F0 m 0 ((lg_sl ([.ref aC, .int x1, .int x2] : List Value) ++ List.replicate (3 - (lg_sl ([.ref aC, .int x1, .int x2] : List Value)).length) Slot.unset).toArray) []) (by rw [ha]; exact lg_entry_eq _ _ _) ?_
  generalize (lg_sl ([.ref aC, .int x1, .int x2] : List Value) ++ List.replicate (3 - (lg_sl ([.ref aC, .int x1, .int x2] : List Value)).length) Slot.unset).toArray = ls at hl ⊢
  have hl : lv_has ls 3 [(0, .ref aC), (1, .int x1), (2, .int x2)] := hl
  rw [f5_cash] at hF
  show uW p l e wsX5_cash rmN5_cash s m args below meth c D (some (.int r)) A0 ((W5x cI aC aS aL aW aB aF aZ aK aM aO aT aY z_sr wm wW bh bF bZ z_bK z_bM ol oS) ++ (HB cI cZ cS aY aV aU aR z_kd kf z_kA z_kV kQ kP)) s.heap [] (F0 m 0 ls [])
  refine lv_iload_n hx hb dX5_cash_0 rfl (lv_at hl 1 rfl) ?_
  obtain ⟨k2, h1, hF⟩ := bd1_at hF
  by_cases c14 : k2 = 0
  · subst c14
    have hF := ite_t rfl hF
    refine rcall0 (va_runS (As := [.int x1]) (rest := []) S (N5_throwIfNoSerial l D cI cZ cS cJ x1 h1) (va_cwS 1 hts (gd_S wd_347 wd_348 wd_22 wd_349) rfl rfl rfl hdn5_throwIfNoSerial ⟨Nat.le_of_ble_eq_true rfl, Nat.le_of_ble_eq_true rfl⟩) (rPreS hK (hP.sub (ws' := ([] : va_W)) [] rfl)) rfl rfl hl.1 rfl (lv_room (Nat.le_of_ble_eq_true rfl)) dX5_cash_1 ⟨(Nat.zero_le _), (Nat.zero_le _)⟩) ?_
    refine lv_iload_n hx hb dX5_cash_4 rfl (lv_at hl 2 rfl) ?_
    obtain ⟨k4, h3, hF⟩ := bd1_at hF
    by_cases c15 : k4 = 0
    · subst c15
      have hF := ite_t rfl hF
      refine rcall0 (va_runS (As := [.int x2]) (rest := []) S (N5_throwIfNoLetter l D cI cZ cS cJ x2 h3) (va_cwS 1 hts (gd_S wd_351 wd_352 wd_22 wd_353) rfl rfl rfl hdn5_throwIfNoLetter ⟨Nat.le_of_ble_eq_true rfl, Nat.le_of_ble_eq_true rfl⟩) (rPreS hK (hP.sub (ws' := ([] : va_W)) [] rfl)) rfl rfl hl.1 rfl (lv_room (Nat.le_of_ble_eq_true rfl)) dX5_cash_5 ⟨(Nat.zero_le _), (Nat.zero_le _)⟩) ?_
      refine lv_aload_n hx hb dX5_cash_8 rfl (lv_at hl 0 rfl) ?_
      refine va_get (D := D) (ci := 5) (v := .ref aY) (C := RX5) (T := TX5) (N := 3) hx hb hts i_X5 hown hK.1 hP 0 rfl rfl 1 (by decide) (hts _ wd_140) (fun _ h9 => h9) rfl dX5_cash_9 ?_
      refine lv_aload_n hx hb dX5_cash_12 rfl (lv_at hl 0 rfl) ?_
      refine va_get (D := D) (ci := 5) (v := .ref aS) (C := RX5) (T := TX5) (N := 3) hx hb hts i_X5 hown hK.1 hP 0 rfl rfl 0 (by decide) (hts _ wd_139) (fun _ h9 => h9) rfl dX5_cash_13 ?_
      obtain ⟨u6, u7, u8, h5, hF⟩ := bd3_at hF
      refine hcallv (wc := (W4 cI aS aL aW aB aF aZ aK aM sr wm wW bh bF bZ bK bM)) (wc' := (W4 cI aS aL aW aB aF aZ aK aM sr wm wW bh bF bZ bK bM)) (Hb := (HB cI cZ cS aY aV aU aR kd kf kA kV kQ kP)) (Hb' := (HB cI cZ cS aY aV aU aR u6 kf u7 u8 kQ kP)) (X := (W5x cI aC aS aL aW aB aF aZ aK aM aO aT aY sr wm wW bh bF bZ bK bM ol oS)) (X' := (W5x cI aC aS aL aW aB aF aZ aK aM aO aT aY sr wm wW bh bF bZ bK bM ol oS)) (va_runV (As := [.ref aS]) (rest := []) S (K1_save l D cI cZ cS cJ aS aL aW aB aF aZ aK aM sr wm wW bh bF bZ bK bM aY aV aU aR kd kf kA kQ kV kP  u6 u7 u8 h5) (cwV 1 hts (gd_V wd_276 wd_277 wd_278 wd_26 wd_279) rfl rfl rfl hd1_save ⟨Nat.le_of_ble_eq_true rfl, Nat.le_of_ble_eq_true rfl⟩) (uPreVq hK (hP.sub (ws' := (W4 cI aS aL aW aB aF aZ aK aM sr wm wW bh bF bZ bK bM) ++ (HB cI cZ cS aY aV aU aR kd kf kA kV kQ kP)) [1, 2, 3, 4, 5, 6, 7, 8, 11, 12, 13, 14, 15, 16, 17, 18, 19, 20, 21, 22, 23, 24, 25, 26, 27, 28, 29, 30, 31, 32, 33, 34, 35, 36, 37, 38, 39, 40, 41, 42, 43, 44, 45, 46, 47, 48, 49, 50, 51, 52, 53, 54, 55, 56, 57, 58, 59, 60, 61, 62, 63, 64, 65, 66, 67, 68, 69, 70, 71, 72, 73, 74, 75, 76, 77, 78] rfl) (hD.sub (ws' := (W4 cI aS aL aW aB aF aZ aK aM sr wm wW bh bF bZ bK bM) ++ (HB cI cZ cS aY aV aU aR kd kf kA kV kQ kP)) [1, 2, 3, 4, 5, 6, 7, 8, 11, 12, 13, 14, 15, 16, 17, 18, 19, 20, 21, 22, 23, 24, 25, 26, 27, 28, 29, 30, 31, 32, 33, 34, 35, 36, 37, 38, 39, 40, 41, 42, 43, 44, 45, 46, 47, 48, 49, 50, 51, 52, 53, 54, 55, 56, 57, 58, 59, 60, 61, 62, 63, 64, 65, 66, 67, 68, 69, 70, 71, 72, 73, 74, 75, 76, 77, 78] (by decide +kernel) rfl) 8 (ci := 1) (q := (RX1, TX1, 4)) rfl rfl) rfl rfl hl.1 rfl (lv_room (Nat.le_of_ble_eq_true rfl)) dX5_cash_16 ⟨Nat.le_of_ble_eq_true rfl, Nat.le_of_ble_eq_true rfl⟩) hS hP hD [1, 2, 3, 4, 5, 6, 7, 8] rfl rfl rfl rfl (fun H locs hP hD hS => ?_)
      refine lv_aload_n hx hb dX5_cash_19 rfl (lv_at hl 0 rfl) ?_
      refine va_get (D := D) (ci := 5) (v := .ref aS) (C := RX5) (T := TX5) (N := 3) hx hb hts i_X5 hown hK.1 hP 0 rfl rfl 0 (by decide) (hts _ wd_139) (fun _ h9 => h9) rfl dX5_cash_20 ?_
      refine lv_iload_n hx hb dX5_cash_23 rfl (lv_at hl 1 rfl) ?_
      refine lv_iload_n hx hb dX5_cash_24 rfl (lv_at hl 2 rfl) ?_
      obtain ⟨q10, u11, u12, u13, h9, hF⟩ := bd4_at hF
      refine ucalli (ws' := ((W5x cI aC aS aL aW aB aF aZ aK aM aO aT aY u11 wm wW bh bF bZ u12 u13 ol oS) ++ (HB cI cZ cS aY aV aU aR u6 kf u7 u8 kQ kP))) (va_runV (As := [.int x1, .int x2]) (rest := []) S (K4_cashByReading l D cI cZ cS cJ aS aL aW aB aF aZ aK aM sr wm wW bh bF bZ bK bM x1 x2 q10 u11 u12 u13 h9) (cwV 2 hts (gd_V wd_355 wd_356 wd_357 wd_23 wd_358) rfl rfl rfl hd4_cashByReading ⟨Nat.le_of_ble_eq_true rfl, Nat.le_of_ble_eq_true rfl⟩) (uPreV hK (hP.sub (ws' := (W4 cI aS aL aW aB aF aZ aK aM sr wm wW bh bF bZ bK bM)) [1, 2, 3, 4, 5, 6, 7, 8] rfl) (hD.sub (ws' := (W4 cI aS aL aW aB aF aZ aK aM sr wm wW bh bF bZ bK bM)) [1, 2, 3, 4, 5, 6, 7, 8] (by decide) rfl) (ci := 4) (q := (RX4, TX4, 3)) rfl rfl) rfl rfl hl.1 rfl (lv_room (Nat.le_of_ble_eq_true rfl)) dX5_cash_25 ⟨(Nat.zero_le _), (Nat.zero_le _)⟩) hS hP hD [1, 2, 3, 4, 5, 6, 7, 8] rfl rfl rfl rfl (fun H locs hP hD hS => ?_)
      cases hF
      exact ureti hx hb hr hlocks hP hS dX5_cash_28
    · have hF := ite_f c15 hF
      exact (nt_no hF c15).elim
  · have hF := ite_f c14 hF
    exact (nt_no hF c14).elim
abbrev rmN5_voidRun : Room := { frames := 5, cells := 0, slots := 0, locals := 106 }
set_option maxHeartbeats 4000000 in
set_option maxRecDepth 100000 in
theorem N5_voidRun (l : Launch) (D : va_G) (cI cZ cS cJ : ClassId) (aC aS aL aW aB aF aZ aK aM aO aT aY aV aU aR : Nat) (kQ : Nat → SA) (sr : Int32) (wm : Int32) (wW : Nat → Int32) (bh : Int32) (bF : Nat → Int32) (bZ : Nat → Int32) (bK : Nat → Int32) (bM : Nat → Int32) (ol : Int32) (oS : Nat → Int32) (kd : Int32) (kf : Nat → Int32) (kA : Nat → SA) (kV : Nat → SV) (kP : Nat → SV) (x1 : Int32) (x2 : Int32) (r : Int32) (z_bK : Nat → Int32) (z_bM : Nat → Int32) (z_kd : Int32) (z_kA : Nat → SA) (z_kV : Nat → SV) (hF : f5_voidRun sr wm wW bh bF bZ bK bM kd kA kV x1 x2 = some (0, r, z_bK, z_bM, z_kd, z_kA, z_kV)) : Met l yX5_voidRun wsX5_voidRun rmN5_voidRun (uP D (gT cI cZ cS cJ) ((W5x cI aC aS aL aW aB aF aZ aK aM aO aT aY sr wm wW bh bF bZ bK bM ol oS) ++ (HB cI cZ cS aY aV aU aR kd kf kA kV kQ kP)) [.ref aC, .int x1, .int x2]) (uQ D (some (.int r)) (uA ((W5x cI aC aS aL aW aB aF aZ aK aM aO aT aY sr wm wW bh bF bZ bK bM ol oS) ++ (HB cI cZ cS aY aV aU aR kd kf kA kV kQ kP))) ((W5x cI aC aS aL aW aB aF aZ aK aM aO aT aY sr wm wW bh bF bZ z_bK z_bM ol oS) ++ (HB cI cZ cS aY aV aU aR z_kd kf z_kA z_kV kQ kP))) 0 0 (uA ((W5x cI aC aS aL aW aB aF aZ aK aM aO aT aY sr wm wW bh bF bZ bK bM ol oS) ++ (HB cI cZ cS aY aV aU aR kd kf kA kV kQ kP))) := by
  refine Met.ofW (cc := cX5_voidRun) (maxL := 3) (ret := (some .int)) (by decide) rfl ?_
  intro p e s m args below meth c s₁ B hml hv
  obtain ⟨ha, hK, hP, hD0⟩ := hv
  have hx := B.exec
  have hb := B.bytes
  have hr := B.returns
  have hlocks := B.notSynchronized
  have hts : ∀ w ∈ lw_all, w.before args s = true := fun w h => atoms_spec (ws := wsX5_voidRun) B.pre w (List.mem_cons_of_mem _ h)
  have hown : s.vm.findClass RX5 = some m.cls := findClass_of_methodNamed B.named
  have S : CallFix p m c cX5_voidRun 3 s args lw_all RX5 := ⟨hx, hb, hml, hown, hts⟩
  have hD := hD0.own
  generalize uA ((W5x cI aC aS aL aW aB aF aZ aK aM aO aT aY sr wm wW bh bF bZ bK bM ol oS) ++ (HB cI cZ cS aY aV aU aR kd kf kA kV kQ kP)) = A0 at hD ⊢
  have hS : va_S A0 s.heap s.heap [] := va_S.rf
  have hl := lv_entry ([.ref aC, .int x1, .int x2] : List Value) (n := 3) (Nat.le_of_ble_eq_true rfl)
  refine W.eq (g2 := F0 m 0 ((lg_sl ([.ref aC, .int x1, .int x2] : List Value) ++ List.replicate (3 - (lg_sl ([.ref aC, .int x1, .int x2] : List Value)).length) Slot.unset).toArray) []) (by rw [ha]; exact lg_entry_eq _ _ _) ?_
  generalize (lg_sl ([.ref aC, .int x1, .int x2] : List Value) ++ List.replicate (3 - (lg_sl ([.ref aC, .int x1, .int x2] : List Value)).length) Slot.unset).toArray = ls at hl ⊢
  have hl : lv_has ls 3 [(0, .ref aC), (1, .int x1), (2, .int x2)] := hl
  rw [f5_voidRun] at hF
  show uW p l e wsX5_voidRun rmN5_voidRun s m args below meth c D (some (.int r)) A0 ((W5x cI aC aS aL aW aB aF aZ aK aM aO aT aY sr wm wW bh bF bZ z_bK z_bM ol oS) ++ (HB cI cZ cS aY aV aU aR z_kd kf z_kA z_kV kQ kP)) s.heap [] (F0 m 0 ls [])
  refine lv_iload_n hx hb dX5_voidRun_0 rfl (lv_at hl 1 rfl) ?_
  refine lv_iload_n hx hb dX5_voidRun_1 rfl (lv_at hl 2 rfl) ?_
  obtain ⟨q2, h1, hF⟩ := bd1_at hF
  refine rcall (va_runS (As := [.int x1, .int x2]) (rest := []) S (K5_faultOfRun l D cI cZ cS cJ x1 x2 q2 h1) (va_cwS 2 hts (gd_S wd_476 wd_477 wd_22 wd_478) rfl rfl rfl hdn5_faultOfRun ⟨Nat.le_of_ble_eq_true rfl, Nat.le_of_ble_eq_true rfl⟩) (rPreS hK (hP.sub (ws' := ([] : va_W)) [] rfl)) rfl rfl hl.1 rfl (lv_room (Nat.le_of_ble_eq_true rfl)) dX5_voidRun_2 ⟨(Nat.zero_le _), (Nat.zero_le _)⟩) ?_
  obtain ⟨k4, h3, hF⟩ := bd1_at hF
  by_cases c13 : k4 = 0
  · subst c13
    have hF := ite_t rfl hF
    refine rcall0 (va_runS (As := [.int q2]) (rest := []) S (N5_throwIfFaulty l D cI cZ cS cJ q2 h3) (va_cwS 1 hts (gd_S wd_173 wd_174 wd_22 wd_175) rfl rfl rfl hdn5_throwIfFaulty ⟨Nat.le_of_ble_eq_true rfl, Nat.le_of_ble_eq_true rfl⟩) (rPreS hK (hP.sub (ws' := ([] : va_W)) [] rfl)) rfl rfl hl.1 rfl (lv_room (Nat.le_of_ble_eq_true rfl)) dX5_voidRun_5 ⟨(Nat.zero_le _), (Nat.zero_le _)⟩) ?_
    refine lv_aload_n hx hb dX5_voidRun_8 rfl (lv_at hl 0 rfl) ?_
    refine va_get (D := D) (ci := 5) (v := .ref aY) (C := RX5) (T := TX5) (N := 3) hx hb hts i_X5 hown hK.1 hP 0 rfl rfl 1 (by decide) (hts _ wd_140) (fun _ h9 => h9) rfl dX5_voidRun_9 ?_
    refine lv_aload_n hx hb dX5_voidRun_12 rfl (lv_at hl 0 rfl) ?_
    refine va_get (D := D) (ci := 5) (v := .ref aS) (C := RX5) (T := TX5) (N := 3) hx hb hts i_X5 hown hK.1 hP 0 rfl rfl 0 (by decide) (hts _ wd_139) (fun _ h9 => h9) rfl dX5_voidRun_13 ?_
    obtain ⟨u6, u7, u8, h5, hF⟩ := bd3_at hF
    refine hcallv (wc := (W4 cI aS aL aW aB aF aZ aK aM sr wm wW bh bF bZ bK bM)) (wc' := (W4 cI aS aL aW aB aF aZ aK aM sr wm wW bh bF bZ bK bM)) (Hb := (HB cI cZ cS aY aV aU aR kd kf kA kV kQ kP)) (Hb' := (HB cI cZ cS aY aV aU aR u6 kf u7 u8 kQ kP)) (X := (W5x cI aC aS aL aW aB aF aZ aK aM aO aT aY sr wm wW bh bF bZ bK bM ol oS)) (X' := (W5x cI aC aS aL aW aB aF aZ aK aM aO aT aY sr wm wW bh bF bZ bK bM ol oS)) (va_runV (As := [.ref aS]) (rest := []) S (K1_save l D cI cZ cS cJ aS aL aW aB aF aZ aK aM sr wm wW bh bF bZ bK bM aY aV aU aR kd kf kA kQ kV kP  u6 u7 u8 h5) (cwV 1 hts (gd_V wd_276 wd_277 wd_278 wd_26 wd_279) rfl rfl rfl hd1_save ⟨Nat.le_of_ble_eq_true rfl, Nat.le_of_ble_eq_true rfl⟩) (uPreVq hK (hP.sub (ws' := (W4 cI aS aL aW aB aF aZ aK aM sr wm wW bh bF bZ bK bM) ++ (HB cI cZ cS aY aV aU aR kd kf kA kV kQ kP)) [1, 2, 3, 4, 5, 6, 7, 8, 11, 12, 13, 14, 15, 16, 17, 18, 19, 20, 21, 22, 23, 24, 25, 26, 27, 28, 29, 30, 31, 32, 33, 34, 35, 36, 37, 38, 39, 40, 41, 42, 43, 44, 45, 46, 47, 48, 49, 50, 51, 52, 53, 54, 55, 56, 57, 58, 59, 60, 61, 62, 63, 64, 65, 66, 67, 68, 69, 70, 71, 72, 73, 74, 75, 76, 77, 78] rfl) (hD.sub (ws' := (W4 cI aS aL aW aB aF aZ aK aM sr wm wW bh bF bZ bK bM) ++ (HB cI cZ cS aY aV aU aR kd kf kA kV kQ kP)) [1, 2, 3, 4, 5, 6, 7, 8, 11, 12, 13, 14, 15, 16, 17, 18, 19, 20, 21, 22, 23, 24, 25, 26, 27, 28, 29, 30, 31, 32, 33, 34, 35, 36, 37, 38, 39, 40, 41, 42, 43, 44, 45, 46, 47, 48, 49, 50, 51, 52, 53, 54, 55, 56, 57, 58, 59, 60, 61, 62, 63, 64, 65, 66, 67, 68, 69, 70, 71, 72, 73, 74, 75, 76, 77, 78] (by decide +kernel) rfl) 8 (ci := 1) (q := (RX1, TX1, 4)) rfl rfl) rfl rfl hl.1 rfl (lv_room (Nat.le_of_ble_eq_true rfl)) dX5_voidRun_16 ⟨Nat.le_of_ble_eq_true rfl, Nat.le_of_ble_eq_true rfl⟩) hS hP hD [1, 2, 3, 4, 5, 6, 7, 8] rfl rfl rfl rfl (fun H locs hP hD hS => ?_)
    refine lv_aload_n hx hb dX5_voidRun_19 rfl (lv_at hl 0 rfl) ?_
    refine va_get (D := D) (ci := 5) (v := .ref aS) (C := RX5) (T := TX5) (N := 3) hx hb hts i_X5 hown hK.1 hP 0 rfl rfl 0 (by decide) (hts _ wd_139) (fun _ h9 => h9) rfl dX5_voidRun_20 ?_
    refine va_get (D := D) (ci := 4) (v := .ref aB) (C := RX4) (T := TX4) (N := 3) hx hb hts i_X4 hown hK.1 hP 1 rfl rfl 1 (by decide) (hts _ wd_91) (fun _ h9 => h9) rfl dX5_voidRun_23 ?_
    refine lv_iload_n hx hb dX5_voidRun_26 rfl (lv_at hl 1 rfl) ?_
    refine lv_iload_n hx hb dX5_voidRun_27 rfl (lv_at hl 2 rfl) ?_
    obtain ⟨q10, u11, u12, h9, hF⟩ := bd3_at hF
    refine ucalli (ws' := ((W5x cI aC aS aL aW aB aF aZ aK aM aO aT aY sr wm wW bh bF bZ u11 u12 ol oS) ++ (HB cI cZ cS aY aV aU aR u6 kf u7 u8 kQ kP))) (va_runV (As := [.int x1, .int x2]) (rest := []) S (K0_makeRunVoid l D cI cZ cS cJ aB aF aZ aK aM bh bF bZ bK bM x1 x2 q10 u11 u12 h9) (cwV 2 hts (gd_V wd_479 wd_480 wd_481 wd_25 wd_482) rfl rfl rfl hd0_makeRunVoid ⟨Nat.le_of_ble_eq_true rfl, Nat.le_of_ble_eq_true rfl⟩) (uPreV hK (hP.sub (ws' := (W0 cI aB aF aZ aK aM bh bF bZ bK bM)) [4, 5, 6, 7, 8] rfl) (hD.sub (ws' := (W0 cI aB aF aZ aK aM bh bF bZ bK bM)) [4, 5, 6, 7, 8] (by decide) rfl) (ci := 0) (q := (RX0, TX0, 5)) rfl rfl) rfl rfl hl.1 rfl (lv_room (Nat.le_of_ble_eq_true rfl)) dX5_voidRun_28 ⟨(Nat.zero_le _), (Nat.zero_le _)⟩) hS hP hD [4, 5, 6, 7, 8] rfl rfl rfl rfl (fun H locs hP hD hS => ?_)
    cases hF
    exact ureti hx hb hr hlocks hP hS dX5_voidRun_31
  · have hF := ite_f c13 hF
    exact (nt_no hF c13).elim
abbrev rmN5_append : Room := { frames := 1, cells := 0, slots := 0, locals := 21 }
set_option maxHeartbeats 4000000 in
set_option maxRecDepth 100000 in
theorem N5_append (l : Launch) (D : va_G) (cI cZ cS cJ : ClassId) (aC aS aL aW aB aF aZ aK aM aO aT aY aV aU aR : Nat) (kQ : Nat → SA) (sr : Int32) (wm : Int32) (wW : Nat → Int32) (bh : Int32) (bF : Nat → Int32) (bZ : Nat → Int32) (bK : Nat → Int32) (bM : Nat → Int32) (ol : Int32) (oS : Nat → Int32) (kd : Int32) (kf : Nat → Int32) (kA : Nat → SA) (kV : Nat → SV) (kP : Nat → SV) (x1 : Int32) (r : Int32) (z_ol : Int32) (z_oS : Nat → Int32) (hF : f5_append ol oS x1 = some (0, r, z_ol, z_oS)) : Met l yX5_append wsX5_append rmN5_append (uP D (gT cI cZ cS cJ) ((W5x cI aC aS aL aW aB aF aZ aK aM aO aT aY sr wm wW bh bF bZ bK bM ol oS) ++ (HB cI cZ cS aY aV aU aR kd kf kA kV kQ kP)) [.ref aC, .int x1]) (uQ D (some (.int r)) (uA ((W5x cI aC aS aL aW aB aF aZ aK aM aO aT aY sr wm wW bh bF bZ bK bM ol oS) ++ (HB cI cZ cS aY aV aU aR kd kf kA kV kQ kP))) ((W5x cI aC aS aL aW aB aF aZ aK aM aO aT aY sr wm wW bh bF bZ bK bM z_ol z_oS) ++ (HB cI cZ cS aY aV aU aR kd kf kA kV kQ kP))) 0 0 (uA ((W5x cI aC aS aL aW aB aF aZ aK aM aO aT aY sr wm wW bh bF bZ bK bM ol oS) ++ (HB cI cZ cS aY aV aU aR kd kf kA kV kQ kP))) := by
  refine Met.ofW (cc := cX5_append) (maxL := 2) (ret := (some .int)) (by decide) rfl ?_
  intro p e s m args below meth c s₁ B hml hv
  obtain ⟨ha, hK, hP, hD0⟩ := hv
  have hx := B.exec
  have hb := B.bytes
  have hr := B.returns
  have hlocks := B.notSynchronized
  have hts : ∀ w ∈ lw_all, w.before args s = true := fun w h => atoms_spec (ws := wsX5_append) B.pre w (List.mem_cons_of_mem _ h)
  have hown : s.vm.findClass RX5 = some m.cls := findClass_of_methodNamed B.named
  have S : CallFix p m c cX5_append 2 s args lw_all RX5 := ⟨hx, hb, hml, hown, hts⟩
  have hD := hD0.own
  generalize uA ((W5x cI aC aS aL aW aB aF aZ aK aM aO aT aY sr wm wW bh bF bZ bK bM ol oS) ++ (HB cI cZ cS aY aV aU aR kd kf kA kV kQ kP)) = A0 at hD ⊢
  have hS : va_S A0 s.heap s.heap [] := va_S.rf
  have hl := lv_entry ([.ref aC, .int x1] : List Value) (n := 2) (Nat.le_of_ble_eq_true rfl)
  refine W.eq (g2 := F0 m 0 ((lg_sl ([.ref aC, .int x1] : List Value) ++ List.replicate (2 - (lg_sl ([.ref aC, .int x1] : List Value)).length) Slot.unset).toArray) []) (by rw [ha]; exact lg_entry_eq _ _ _) ?_
  generalize (lg_sl ([.ref aC, .int x1] : List Value) ++ List.replicate (2 - (lg_sl ([.ref aC, .int x1] : List Value)).length) Slot.unset).toArray = ls at hl ⊢
  have hl : lv_has ls 2 [(0, .ref aC), (1, .int x1)] := hl
  rw [f5_append] at hF
  show uW p l e wsX5_append rmN5_append s m args below meth c D (some (.int r)) A0 ((W5x cI aC aS aL aW aB aF aZ aK aM aO aT aY sr wm wW bh bF bZ bK bM z_ol z_oS) ++ (HB cI cZ cS aY aV aU aR kd kf kA kV kQ kP)) s.heap [] (F0 m 0 ls [])
  refine lv_iload_n hx hb dX5_append_0 rfl (lv_at hl 1 rfl) ?_
  refine lv_bipush hx hb dX5_append_1 kc_bipush_33 ?_
  refine lv_icmp_lt (tgt := 12) hx hb dX5_append_3 (by decide) (fun c1 => ?_) (fun c1 => ?_)
  · have hF := ite_t c1 hF
    exact (nt_no hF (by decide)).elim
  · have hF := ite_f c1 hF
    refine lv_iload_n hx hb dX5_append_6 rfl (lv_at hl 1 rfl) ?_
    refine lv_bipush hx hb dX5_append_7 kc_bipush_126 ?_
    refine lv_icmp_le (tgt := 22) hx hb dX5_append_9 (by decide) (fun c2 => ?_) (fun c2 => ?_)
    · have hF := ite_t c2 hF
      refine lv_aload_n hx hb dX5_append_22 rfl (lv_at hl 0 rfl) ?_
      refine va_get (D := D) (ci := 5) (v := .ref aO) (C := RX5) (T := TX5) (N := 3) hx hb hts i_X5 hown hK.1 hP 0 rfl rfl 2 (by decide) (hts _ wd_141) (fun _ h9 => h9) rfl dX5_append_23 ?_
      obtain ⟨q4, h3, hF⟩ := bd1_at hF
      refine rcall (va_runV (As := []) (rest := []) S (K3_isFull l D cI cZ cS cJ aO aT ol oS q4 h3) (cwV 0 hts (gd_V wd_498 wd_499 wd_500 wd_27 wd_501) rfl rfl rfl hd3_isFull ⟨Nat.le_of_ble_eq_true rfl, Nat.le_of_ble_eq_true rfl⟩) (rPreV hK (hP.sub (ws' := (W3 cI aO aT ol oS)) [9, 10] rfl) (ci := 3) (q := (RX3, TX3, 2)) rfl rfl) rfl rfl hl.1 rfl (lv_room (Nat.le_of_ble_eq_true rfl)) dX5_append_26 ⟨(Nat.zero_le _), (Nat.zero_le _)⟩) ?_
      refine lv_if_eq (tgt := 42) hx hb dX5_append_29 (by decide) (fun c5 => ?_) (fun c5 => ?_)
      · have hF := ite_t c5 hF
        refine lv_aload_n hx hb dX5_append_42 rfl (lv_at hl 0 rfl) ?_
        refine va_get (D := D) (ci := 5) (v := .ref aO) (C := RX5) (T := TX5) (N := 3) hx hb hts i_X5 hown hK.1 hP 0 rfl rfl 2 (by decide) (hts _ wd_141) (fun _ h9 => h9) rfl dX5_append_43 ?_
        refine lv_iload_n hx hb dX5_append_46 rfl (lv_at hl 1 rfl) ?_
        obtain ⟨q7, u8, u9, h6, hF⟩ := bd3_at hF
        refine ucalli (ws' := ((W5x cI aC aS aL aW aB aF aZ aK aM aO aT aY sr wm wW bh bF bZ bK bM u8 u9) ++ (HB cI cZ cS aY aV aU aR kd kf kA kV kQ kP))) (va_runV (As := [.int x1]) (rest := []) S (K3_add l D cI cZ cS cJ aO aT ol oS x1 q7 u8 u9 h6) (cwV 1 hts (gd_V wd_503 wd_504 wd_505 wd_27 wd_506) rfl rfl rfl hd3_add ⟨Nat.le_of_ble_eq_true rfl, Nat.le_of_ble_eq_true rfl⟩) (uPreV hK (hP.sub (ws' := (W3 cI aO aT ol oS)) [9, 10] rfl) (hD.sub (ws' := (W3 cI aO aT ol oS)) [9, 10] (by decide) rfl) (ci := 3) (q := (RX3, TX3, 2)) rfl rfl) rfl rfl hl.1 rfl (lv_room (Nat.le_of_ble_eq_true rfl)) dX5_append_47 ⟨(Nat.zero_le _), (Nat.zero_le _)⟩) hS hP hD [9, 10] rfl rfl rfl rfl (fun H locs hP hD hS => ?_)
        cases hF
        exact ureti hx hb hr hlocks hP hS dX5_append_50
      · have hF := ite_f c5 hF
        exact (nt_no hF (by decide)).elim
    · have hF := ite_f c2 hF
      exact (nt_no hF (by decide)).elim
abbrev rmN5_execute : Room := { frames := 6, cells := 0, slots := 0, locals := 142 }
set_option maxHeartbeats 4000000 in
set_option maxRecDepth 100000 in
theorem N5_execute (l : Launch) (D : va_G) (cI cZ cS cJ : ClassId) (aC aS aL aW aB aF aZ aK aM aO aT aY aV aU aR : Nat) (kQ : Nat → SA) (sr : Int32) (wm : Int32) (wW : Nat → Int32) (bh : Int32) (bF : Nat → Int32) (bZ : Nat → Int32) (bK : Nat → Int32) (bM : Nat → Int32) (ol : Int32) (oS : Nat → Int32) (kd : Int32) (kf : Nat → Int32) (kA : Nat → SA) (kV : Nat → SV) (kP : Nat → SV) (r : Int32) (z_sr : Int32) (z_bh : Int32) (z_bF : Nat → Int32) (z_bZ : Nat → Int32) (z_bK : Nat → Int32) (z_bM : Nat → Int32) (z_ol : Int32) (z_kd : Int32) (z_kA : Nat → SA) (z_kV : Nat → SV) (hF : f5_execute sr wm wW bh bF bZ bK bM ol oS kd kA kV = some (0, r, z_sr, z_bh, z_bF, z_bZ, z_bK, z_bM, z_ol, z_kd, z_kA, z_kV)) : Met l yX5_execute wsX5_execute rmN5_execute (uP D (gT cI cZ cS cJ) ((W5x cI aC aS aL aW aB aF aZ aK aM aO aT aY sr wm wW bh bF bZ bK bM ol oS) ++ (HB cI cZ cS aY aV aU aR kd kf kA kV kQ kP)) [.ref aC]) (uQ D (some (.int r)) (uA ((W5x cI aC aS aL aW aB aF aZ aK aM aO aT aY sr wm wW bh bF bZ bK bM ol oS) ++ (HB cI cZ cS aY aV aU aR kd kf kA kV kQ kP))) ((W5x cI aC aS aL aW aB aF aZ aK aM aO aT aY z_sr wm wW z_bh z_bF z_bZ z_bK z_bM z_ol oS) ++ (HB cI cZ cS aY aV aU aR z_kd kf z_kA z_kV kQ kP))) 0 0 (uA ((W5x cI aC aS aL aW aB aF aZ aK aM aO aT aY sr wm wW bh bF bZ bK bM ol oS) ++ (HB cI cZ cS aY aV aU aR kd kf kA kV kQ kP))) := by
  refine Met.ofW (cc := cX5_execute) (maxL := 2) (ret := (some .int)) (by decide) rfl ?_
  intro p e s m args below meth c s₁ B hml hv
  obtain ⟨ha, hK, hP, hD0⟩ := hv
  have hx := B.exec
  have hb := B.bytes
  have hr := B.returns
  have hlocks := B.notSynchronized
  have hts : ∀ w ∈ lw_all, w.before args s = true := fun w h => atoms_spec (ws := wsX5_execute) B.pre w (List.mem_cons_of_mem _ h)
  have hown : s.vm.findClass RX5 = some m.cls := findClass_of_methodNamed B.named
  have S : CallFix p m c cX5_execute 2 s args lw_all RX5 := ⟨hx, hb, hml, hown, hts⟩
  have hD := hD0.own
  generalize uA ((W5x cI aC aS aL aW aB aF aZ aK aM aO aT aY sr wm wW bh bF bZ bK bM ol oS) ++ (HB cI cZ cS aY aV aU aR kd kf kA kV kQ kP)) = A0 at hD ⊢
  have hS : va_S A0 s.heap s.heap [] := va_S.rf
  have hl := lv_entry ([.ref aC] : List Value) (n := 2) (Nat.le_of_ble_eq_true rfl)
  refine W.eq (g2 := F0 m 0 ((lg_sl ([.ref aC] : List Value) ++ List.replicate (2 - (lg_sl ([.ref aC] : List Value)).length) Slot.unset).toArray) []) (by rw [ha]; exact lg_entry_eq _ _ _) ?_
  generalize (lg_sl ([.ref aC] : List Value) ++ List.replicate (2 - (lg_sl ([.ref aC] : List Value)).length) Slot.unset).toArray = ls at hl ⊢
  have hl : lv_has ls 2 [(0, .ref aC)] := hl
  rw [f5_execute] at hF
  show uW p l e wsX5_execute rmN5_execute s m args below meth c D (some (.int r)) A0 ((W5x cI aC aS aL aW aB aF aZ aK aM aO aT aY z_sr wm wW z_bh z_bF z_bZ z_bK z_bM z_ol oS) ++ (HB cI cZ cS aY aV aU aR z_kd kf z_kA z_kV kQ kP)) s.heap [] (F0 m 0 ls [])
  refine lv_aload_n hx hb dX5_execute_0 rfl (lv_at hl 0 rfl) ?_
  refine va_get (D := D) (ci := 5) (v := .ref aO) (C := RX5) (T := TX5) (N := 3) hx hb hts i_X5 hown hK.1 hP 0 rfl rfl 2 (by decide) (hts _ wd_141) (fun _ h9 => h9) rfl dX5_execute_1 ?_
  obtain ⟨q2, h1, hF⟩ := bd1_at hF
  refine rcall (va_runV (As := []) (rest := []) S (K3_isComplete l D cI cZ cS cJ aO aT ol oS q2 h1) (cwV 0 hts (gd_V wd_511 wd_512 wd_513 wd_27 wd_514) rfl rfl rfl hd3_isComplete ⟨Nat.le_of_ble_eq_true rfl, Nat.le_of_ble_eq_true rfl⟩) (rPreV hK (hP.sub (ws' := (W3 cI aO aT ol oS)) [9, 10] rfl) (ci := 3) (q := (RX3, TX3, 2)) rfl rfl) rfl rfl hl.1 rfl (lv_room (Nat.le_of_ble_eq_true rfl)) dX5_execute_4 ⟨(Nat.zero_le _), (Nat.zero_le _)⟩) ?_
  refine lv_if_ne (tgt := 20) hx hb dX5_execute_7 (by decide) (fun c3 => ?_) (fun c3 => ?_)
  · have hF := ite_f c3 hF
    refine lv_aload_n hx hb dX5_execute_20 rfl (lv_at hl 0 rfl) ?_
    refine va_get (D := D) (ci := 5) (v := .ref aY) (C := RX5) (T := TX5) (N := 3) hx hb hts i_X5 hown hK.1 hP 0 rfl rfl 1 (by decide) (hts _ wd_140) (fun _ h9 => h9) rfl dX5_execute_21 ?_
    refine lv_aload_n hx hb dX5_execute_24 rfl (lv_at hl 0 rfl) ?_
    refine va_get (D := D) (ci := 5) (v := .ref aS) (C := RX5) (T := TX5) (N := 3) hx hb hts i_X5 hown hK.1 hP 0 rfl rfl 0 (by decide) (hts _ wd_139) (fun _ h9 => h9) rfl dX5_execute_25 ?_
    obtain ⟨u5, u6, u7, h4, hF⟩ := bd3_at hF
    refine hcallv (wc := (W4 cI aS aL aW aB aF aZ aK aM sr wm wW bh bF bZ bK bM)) (wc' := (W4 cI aS aL aW aB aF aZ aK aM sr wm wW bh bF bZ bK bM)) (Hb := (HB cI cZ cS aY aV aU aR kd kf kA kV kQ kP)) (Hb' := (HB cI cZ cS aY aV aU aR u5 kf u6 u7 kQ kP)) (X := (W5x cI aC aS aL aW aB aF aZ aK aM aO aT aY sr wm wW bh bF bZ bK bM ol oS)) (X' := (W5x cI aC aS aL aW aB aF aZ aK aM aO aT aY sr wm wW bh bF bZ bK bM ol oS)) (va_runV (As := [.ref aS]) (rest := []) S (K1_save l D cI cZ cS cJ aS aL aW aB aF aZ aK aM sr wm wW bh bF bZ bK bM aY aV aU aR kd kf kA kQ kV kP  u5 u6 u7 h4) (cwV 1 hts (gd_V wd_276 wd_277 wd_278 wd_26 wd_279) rfl rfl rfl hd1_save ⟨Nat.le_of_ble_eq_true rfl, Nat.le_of_ble_eq_true rfl⟩) (uPreVq hK (hP.sub (ws' := (W4 cI aS aL aW aB aF aZ aK aM sr wm wW bh bF bZ bK bM) ++ (HB cI cZ cS aY aV aU aR kd kf kA kV kQ kP)) [1, 2, 3, 4, 5, 6, 7, 8, 11, 12, 13, 14, 15, 16, 17, 18, 19, 20, 21, 22, 23, 24, 25, 26, 27, 28, 29, 30, 31, 32, 33, 34, 35, 36, 37, 38, 39, 40, 41, 42, 43, 44, 45, 46, 47, 48, 49, 50, 51, 52, 53, 54, 55, 56, 57, 58, 59, 60, 61, 62, 63, 64, 65, 66, 67, 68, 69, 70, 71, 72, 73, 74, 75, 76, 77, 78] rfl) (hD.sub (ws' := (W4 cI aS aL aW aB aF aZ aK aM sr wm wW bh bF bZ bK bM) ++ (HB cI cZ cS aY aV aU aR kd kf kA kV kQ kP)) [1, 2, 3, 4, 5, 6, 7, 8, 11, 12, 13, 14, 15, 16, 17, 18, 19, 20, 21, 22, 23, 24, 25, 26, 27, 28, 29, 30, 31, 32, 33, 34, 35, 36, 37, 38, 39, 40, 41, 42, 43, 44, 45, 46, 47, 48, 49, 50, 51, 52, 53, 54, 55, 56, 57, 58, 59, 60, 61, 62, 63, 64, 65, 66, 67, 68, 69, 70, 71, 72, 73, 74, 75, 76, 77, 78] (by decide +kernel) rfl) 8 (ci := 1) (q := (RX1, TX1, 4)) rfl rfl) rfl rfl hl.1 rfl (lv_room (Nat.le_of_ble_eq_true rfl)) dX5_execute_28 ⟨Nat.le_of_ble_eq_true rfl, Nat.le_of_ble_eq_true rfl⟩) hS hP hD [1, 2, 3, 4, 5, 6, 7, 8] rfl rfl rfl rfl (fun H locs hP hD hS => ?_)
    refine lv_aload_n hx hb dX5_execute_31 rfl (lv_at hl 0 rfl) ?_
    obtain ⟨q9, u10, u11, u12, u13, u14, u15, h8, hF⟩ := bd7_at hF
    refine ufulli (ws' := ((W5x cI aC aS aL aW aB aF aZ aK aM aO aT aY u10 wm wW u11 u12 u13 u14 u15 ol oS) ++ (HB cI cZ cS aY aV aU aR u5 kf u6 u7 kQ kP))) (va_runV (As := []) (rest := []) S (K5_runOrders l D cI cZ cS cJ aC aS aL aW aB aF aZ aK aM aO aT aY aV aU aR kQ sr wm wW bh bF bZ bK bM ol oS u5 kf u6 u7 kP q9 u10 u11 u12 u13 u14 u15 h8) (cwV 0 hts (gd_V wd_546 wd_548 wd_14 wd_22 wd_549) rfl rfl rfl hd5_runOrders ⟨Nat.le_of_ble_eq_true rfl, Nat.le_of_ble_eq_true rfl⟩) (uPreV hK hP hD (ci := 5) (q := (RX5, TX5, 3)) rfl rfl) rfl rfl hl.1 rfl (lv_room (Nat.le_of_ble_eq_true rfl)) dX5_execute_32 ⟨(Nat.zero_le _), (Nat.zero_le _)⟩) hS hP hD rfl (fun H locs hP hD hS => ?_)
    refine lv_istore_n (lv' := [(1, .int q9), (0, .ref aC)]) hx hb dX5_execute_35 rfl hl (by decide) rfl (fun ls hl => ?_)
    refine lv_aload_n hx hb dX5_execute_36 rfl (lv_at hl 1 rfl) ?_
    refine va_get (D := D) (ci := 5) (v := .ref aO) (C := RX5) (T := TX5) (N := 3) hx hb hts i_X5 hown hK.1 hP 0 rfl rfl 2 (by decide) (hts _ wd_141) (fun _ h9 => h9) rfl dX5_execute_37 ?_
    obtain ⟨q17, u18, h16, hF⟩ := bd2_at hF
    refine ucalli (ws' := ((W5x cI aC aS aL aW aB aF aZ aK aM aO aT aY u10 wm wW u11 u12 u13 u14 u15 u18 oS) ++ (HB cI cZ cS aY aV aU aR u5 kf u6 u7 kQ kP))) (va_runV (As := []) (rest := []) S (K3_clear l D cI cZ cS cJ aO aT ol oS q17 u18 h16) (cwV 0 hts (gd_V wd_568 wd_569 wd_570 wd_27 wd_571) rfl rfl rfl hd3_clear ⟨Nat.le_of_ble_eq_true rfl, Nat.le_of_ble_eq_true rfl⟩) (uPreV hK (hP.sub (ws' := (W3 cI aO aT ol oS)) [9, 10] rfl) (hD.sub (ws' := (W3 cI aO aT ol oS)) [9, 10] (by decide) rfl) (ci := 3) (q := (RX3, TX3, 2)) rfl rfl) rfl rfl hl.1 rfl (lv_room (Nat.le_of_ble_eq_true rfl)) dX5_execute_40 ⟨(Nat.zero_le _), (Nat.zero_le _)⟩) hS hP hD [9, 10] rfl rfl rfl rfl (fun H locs hP hD hS => ?_)
    refine lv_pop hx hb dX5_execute_43 rfl ?_
    refine lv_iload_n hx hb dX5_execute_44 rfl (lv_at hl 0 rfl) ?_
    cases hF
    exact ureti hx hb hr hlocks hP hS dX5_execute_45
  · have hF := ite_t c3 hF
    exact (nt_no hF (by decide)).elim
abbrev rmN5_undo : Room := { frames := 5, cells := 0, slots := 0, locals := 107 }
set_option maxHeartbeats 4000000 in
set_option maxRecDepth 100000 in
theorem N5_undo (l : Launch) (D : va_G) (cI cZ cS cJ : ClassId) (aC aS aL aW aB aF aZ aK aM aO aT aY aV aU aR : Nat) (kQ : Nat → SA) (sr : Int32) (wm : Int32) (wW : Nat → Int32) (bh : Int32) (bF : Nat → Int32) (bZ : Nat → Int32) (bK : Nat → Int32) (bM : Nat → Int32) (ol : Int32) (oS : Nat → Int32) (kd : Int32) (kf : Nat → Int32) (kA : Nat → SA) (kV : Nat → SV) (kP : Nat → SV) (r : Int32) (z_sr : Int32) (z_wm : Int32) (z_wW : Nat → Int32) (z_bh : Int32) (z_bF : Nat → Int32) (z_bZ : Nat → Int32) (z_bK : Nat → Int32) (z_bM : Nat → Int32) (z_kd : Int32) (hF : f5_undo sr wm wW bh bF bZ bK bM kd kV = some (0, r, z_sr, z_wm, z_wW, z_bh, z_bF, z_bZ, z_bK, z_bM, z_kd)) : Met l yX5_undo wsX5_undo rmN5_undo (uP D (gT cI cZ cS cJ) ((W5x cI aC aS aL aW aB aF aZ aK aM aO aT aY sr wm wW bh bF bZ bK bM ol oS) ++ (HB cI cZ cS aY aV aU aR kd kf kA kV kQ kP)) [.ref aC]) (uQ D (some (.int r)) (uA ((W5x cI aC aS aL aW aB aF aZ aK aM aO aT aY sr wm wW bh bF bZ bK bM ol oS) ++ (HB cI cZ cS aY aV aU aR kd kf kA kV kQ kP))) ((W5x cI aC aS aL aW aB aF aZ aK aM aO aT aY z_sr z_wm z_wW z_bh z_bF z_bZ z_bK z_bM ol oS) ++ (HB cI cZ cS aY aV aU aR z_kd kf kA kV kQ kP))) 0 0 (uA ((W5x cI aC aS aL aW aB aF aZ aK aM aO aT aY sr wm wW bh bF bZ bK bM ol oS) ++ (HB cI cZ cS aY aV aU aR kd kf kA kV kQ kP))) := by
  refine Met.ofW (cc := cX5_undo) (maxL := 1) (ret := (some .int)) (by decide) rfl ?_
  intro p e s m args below meth c s₁ B hml hv
  obtain ⟨ha, hK, hP, hD0⟩ := hv
  have hx := B.exec
  have hb := B.bytes
  have hr := B.returns
  have hlocks := B.notSynchronized
  have hts : ∀ w ∈ lw_all, w.before args s = true := fun w h => atoms_spec (ws := wsX5_undo) B.pre w (List.mem_cons_of_mem _ h)
  have hown : s.vm.findClass RX5 = some m.cls := findClass_of_methodNamed B.named
  have S : CallFix p m c cX5_undo 1 s args lw_all RX5 := ⟨hx, hb, hml, hown, hts⟩
  have hD := hD0.own
  generalize uA ((W5x cI aC aS aL aW aB aF aZ aK aM aO aT aY sr wm wW bh bF bZ bK bM ol oS) ++ (HB cI cZ cS aY aV aU aR kd kf kA kV kQ kP)) = A0 at hD ⊢
  have hS : va_S A0 s.heap s.heap [] := va_S.rf
  have hl := lv_entry ([.ref aC] : List Value) (n := 1) (Nat.le_of_ble_eq_true rfl)
  refine W.eq (g2 := F0 m 0 ((lg_sl ([.ref aC] : List Value) ++ List.replicate (1 - (lg_sl ([.ref aC] : List Value)).length) Slot.unset).toArray) []) (by rw [ha]; exact lg_entry_eq _ _ _) ?_
  generalize (lg_sl ([.ref aC] : List Value) ++ List.replicate (1 - (lg_sl ([.ref aC] : List Value)).length) Slot.unset).toArray = ls at hl ⊢
  have hl : lv_has ls 1 [(0, .ref aC)] := hl
  rw [f5_undo] at hF
  show uW p l e wsX5_undo rmN5_undo s m args below meth c D (some (.int r)) A0 ((W5x cI aC aS aL aW aB aF aZ aK aM aO aT aY z_sr z_wm z_wW z_bh z_bF z_bZ z_bK z_bM ol oS) ++ (HB cI cZ cS aY aV aU aR z_kd kf kA kV kQ kP)) s.heap [] (F0 m 0 ls [])
  refine lv_aload_n hx hb dX5_undo_0 rfl (lv_at hl 0 rfl) ?_
  refine va_get (D := D) (ci := 5) (v := .ref aY) (C := RX5) (T := TX5) (N := 3) hx hb hts i_X5 hown hK.1 hP 0 rfl rfl 1 (by decide) (hts _ wd_140) (fun _ h9 => h9) rfl dX5_undo_1 ?_
  refine va_get (D := D) (ci := 1) (v := .int kd) (C := RX1) (T := TX1) (N := 4) hx hb hts i_X1 hown hK.1 hP 11 rfl rfl 3 (by decide) (hts _ wd_114) (fun _ h9 => h9) rfl dX5_undo_4 ?_
  refine lv_iconst hx hb dX5_undo_7 kc_iconst_1 ?_
  refine lv_icmp_ge (tgt := 21) hx hb dX5_undo_8 (by decide) (fun c1 => ?_) (fun c1 => ?_)
  · have hF := ite_t c1 hF
    refine lv_aload_n hx hb dX5_undo_21 rfl (lv_at hl 0 rfl) ?_
    refine va_get (D := D) (ci := 5) (v := .ref aY) (C := RX5) (T := TX5) (N := 3) hx hb hts i_X5 hown hK.1 hP 0 rfl rfl 1 (by decide) (hts _ wd_140) (fun _ h9 => h9) rfl dX5_undo_22 ?_
    refine lv_aload_n hx hb dX5_undo_25 rfl (lv_at hl 0 rfl) ?_
    refine va_get (D := D) (ci := 5) (v := .ref aS) (C := RX5) (T := TX5) (N := 3) hx hb hts i_X5 hown hK.1 hP 0 rfl rfl 0 (by decide) (hts _ wd_139) (fun _ h9 => h9) rfl dX5_undo_26 ?_
    obtain ⟨u3, u4, u5, u6, u7, u8, u9, u10, u11, h2, hF⟩ := bd9_at hF
    refine hcallv (wc := (W4 cI aS aL aW aB aF aZ aK aM sr wm wW bh bF bZ bK bM)) (wc' := (W4 cI aS aL aW aB aF aZ aK aM u3 u4 u5 u6 u7 u8 u9 u10)) (Hb := (HB cI cZ cS aY aV aU aR kd kf kA kV kQ kP)) (Hb' := (HB cI cZ cS aY aV aU aR u11 kf kA kV kQ kP)) (X := (W5x cI aC aS aL aW aB aF aZ aK aM aO aT aY sr wm wW bh bF bZ bK bM ol oS)) (X' := (W5x cI aC aS aL aW aB aF aZ aK aM aO aT aY u3 u4 u5 u6 u7 u8 u9 u10 ol oS)) (va_runV (As := [.ref aS]) (rest := []) S (K1_restoreLast l D cI cZ cS cJ aS aL aW aB aF aZ aK aM sr wm wW bh bF bZ bK bM aY aV aU aR kd kf kA kQ kV kP  u3 u4 u5 u6 u7 u8 u9 u10 u11 h2) (cwV 1 hts (gd_V wd_380 wd_381 wd_382 wd_26 wd_383) rfl rfl rfl hd1_restoreLast ⟨Nat.le_of_ble_eq_true rfl, Nat.le_of_ble_eq_true rfl⟩) (uPreVq hK (hP.sub (ws' := (W4 cI aS aL aW aB aF aZ aK aM sr wm wW bh bF bZ bK bM) ++ (HB cI cZ cS aY aV aU aR kd kf kA kV kQ kP)) [1, 2, 3, 4, 5, 6, 7, 8, 11, 12, 13, 14, 15, 16, 17, 18, 19, 20, 21, 22, 23, 24, 25, 26, 27, 28, 29, 30, 31, 32, 33, 34, 35, 36, 37, 38, 39, 40, 41, 42, 43, 44, 45, 46, 47, 48, 49, 50, 51, 52, 53, 54, 55, 56, 57, 58, 59, 60, 61, 62, 63, 64, 65, 66, 67, 68, 69, 70, 71, 72, 73, 74, 75, 76, 77, 78] rfl) (hD.sub (ws' := (W4 cI aS aL aW aB aF aZ aK aM sr wm wW bh bF bZ bK bM) ++ (HB cI cZ cS aY aV aU aR kd kf kA kV kQ kP)) [1, 2, 3, 4, 5, 6, 7, 8, 11, 12, 13, 14, 15, 16, 17, 18, 19, 20, 21, 22, 23, 24, 25, 26, 27, 28, 29, 30, 31, 32, 33, 34, 35, 36, 37, 38, 39, 40, 41, 42, 43, 44, 45, 46, 47, 48, 49, 50, 51, 52, 53, 54, 55, 56, 57, 58, 59, 60, 61, 62, 63, 64, 65, 66, 67, 68, 69, 70, 71, 72, 73, 74, 75, 76, 77, 78] (by decide +kernel) rfl) 8 (ci := 1) (q := (RX1, TX1, 4)) rfl rfl) rfl rfl hl.1 rfl (lv_room (Nat.le_of_ble_eq_true rfl)) dX5_undo_29 ⟨Nat.le_of_ble_eq_true rfl, Nat.le_of_ble_eq_true rfl⟩) hS hP hD [1, 2, 3, 4, 5, 6, 7, 8] rfl rfl rfl rfl (fun H locs hP hD hS => ?_)
    refine lv_aload_n hx hb dX5_undo_32 rfl (lv_at hl 0 rfl) ?_
    refine va_get (D := D) (ci := 5) (v := .ref aY) (C := RX5) (T := TX5) (N := 3) hx hb hts i_X5 hown hK.1 hP 0 rfl rfl 1 (by decide) (hts _ wd_140) (fun _ h9 => h9) rfl dX5_undo_33 ?_
    refine va_get (D := D) (ci := 1) (v := .int u11) (C := RX1) (T := TX1) (N := 4) hx hb hts i_X1 hown hK.1 hP 11 rfl rfl 3 (by decide) (hts _ wd_114) (fun _ h9 => h9) rfl dX5_undo_36 ?_
    cases hF
    exact ureti hx hb hr hlocks hP hS dX5_undo_39
  · have hF := ite_f c1 hF
    exact (nt_no hF (by decide)).elim
abbrev rmN5_keep : Room := { frames := 5, cells := 0, slots := 0, locals := 107 }
set_option maxHeartbeats 4000000 in
set_option maxRecDepth 100000 in
theorem N5_keep (l : Launch) (D : va_G) (cI cZ cS cJ : ClassId) (aC aS aL aW aB aF aZ aK aM aO aT aY aV aU aR : Nat) (kQ : Nat → SA) (sr : Int32) (wm : Int32) (wW : Nat → Int32) (bh : Int32) (bF : Nat → Int32) (bZ : Nat → Int32) (bK : Nat → Int32) (bM : Nat → Int32) (ol : Int32) (oS : Nat → Int32) (kd : Int32) (kf : Nat → Int32) (kA : Nat → SA) (kV : Nat → SV) (kP : Nat → SV) (x1 : Int32) (r : Int32) (z_kf : Nat → Int32) (z_kP : Nat → SV) (hF : f5_keep sr wm wW bh bF bZ bK bM kf kP x1 = some (0, r, z_kf, z_kP)) : Met l yX5_keep wsX5_keep rmN5_keep (uP D (gT cI cZ cS cJ) ((W5x cI aC aS aL aW aB aF aZ aK aM aO aT aY sr wm wW bh bF bZ bK bM ol oS) ++ (HB cI cZ cS aY aV aU aR kd kf kA kV kQ kP)) [.ref aC, .int x1]) (uQ D (some (.int r)) (uA ((W5x cI aC aS aL aW aB aF aZ aK aM aO aT aY sr wm wW bh bF bZ bK bM ol oS) ++ (HB cI cZ cS aY aV aU aR kd kf kA kV kQ kP))) ((W5x cI aC aS aL aW aB aF aZ aK aM aO aT aY sr wm wW bh bF bZ bK bM ol oS) ++ (HB cI cZ cS aY aV aU aR kd z_kf kA kV kQ z_kP))) 0 0 (uA ((W5x cI aC aS aL aW aB aF aZ aK aM aO aT aY sr wm wW bh bF bZ bK bM ol oS) ++ (HB cI cZ cS aY aV aU aR kd kf kA kV kQ kP))) := by
  refine Met.ofW (cc := cX5_keep) (maxL := 2) (ret := (some .int)) (by decide) rfl ?_
  intro p e s m args below meth c s₁ B hml hv
  obtain ⟨ha, hK, hP, hD0⟩ := hv
  have hx := B.exec
  have hb := B.bytes
  have hr := B.returns
  have hlocks := B.notSynchronized
  have hts : ∀ w ∈ lw_all, w.before args s = true := fun w h => atoms_spec (ws := wsX5_keep) B.pre w (List.mem_cons_of_mem _ h)
  have hown : s.vm.findClass RX5 = some m.cls := findClass_of_methodNamed B.named
  have S : CallFix p m c cX5_keep 2 s args lw_all RX5 := ⟨hx, hb, hml, hown, hts⟩
  have hD := hD0.own
  generalize uA ((W5x cI aC aS aL aW aB aF aZ aK aM aO aT aY sr wm wW bh bF bZ bK bM ol oS) ++ (HB cI cZ cS aY aV aU aR kd kf kA kV kQ kP)) = A0 at hD ⊢
  have hS : va_S A0 s.heap s.heap [] := va_S.rf
  have hl := lv_entry ([.ref aC, .int x1] : List Value) (n := 2) (Nat.le_of_ble_eq_true rfl)
  refine W.eq (g2 := F0 m 0 ((lg_sl ([.ref aC, .int x1] : List Value) ++ List.replicate (2 - (lg_sl ([.ref aC, .int x1] : List Value)).length) Slot.unset).toArray) []) (by rw [ha]; exact lg_entry_eq _ _ _) ?_
  generalize (lg_sl ([.ref aC, .int x1] : List Value) ++ List.replicate (2 - (lg_sl ([.ref aC, .int x1] : List Value)).length) Slot.unset).toArray = ls at hl ⊢
  have hl : lv_has ls 2 [(0, .ref aC), (1, .int x1)] := hl
  rw [f5_keep] at hF
  show uW p l e wsX5_keep rmN5_keep s m args below meth c D (some (.int r)) A0 ((W5x cI aC aS aL aW aB aF aZ aK aM aO aT aY sr wm wW bh bF bZ bK bM ol oS) ++ (HB cI cZ cS aY aV aU aR kd z_kf kA kV kQ z_kP)) s.heap [] (F0 m 0 ls [])
  refine lv_iload_n hx hb dX5_keep_0 rfl (lv_at hl 1 rfl) ?_
  obtain ⟨k2, h1, hF⟩ := bd1_at hF
  by_cases c6 : k2 = 0
  · subst c6
    have hF := ite_t rfl hF
    refine rcall0 (va_runS (As := [.int x1]) (rest := []) S (N5_throwIfNoSlot l D cI cZ cS cJ x1 h1) (va_cwS 1 hts (gd_S wd_388 wd_389 wd_22 wd_390) rfl rfl rfl hdn5_throwIfNoSlot ⟨Nat.le_of_ble_eq_true rfl, Nat.le_of_ble_eq_true rfl⟩) (rPreS hK (hP.sub (ws' := ([] : va_W)) [] rfl)) rfl rfl hl.1 rfl (lv_room (Nat.le_of_ble_eq_true rfl)) dX5_keep_1 ⟨(Nat.zero_le _), (Nat.zero_le _)⟩) ?_
    refine lv_aload_n hx hb dX5_keep_4 rfl (lv_at hl 0 rfl) ?_
    refine va_get (D := D) (ci := 5) (v := .ref aY) (C := RX5) (T := TX5) (N := 3) hx hb hts i_X5 hown hK.1 hP 0 rfl rfl 1 (by decide) (hts _ wd_140) (fun _ h9 => h9) rfl dX5_keep_5 ?_
    refine lv_iload_n hx hb dX5_keep_8 rfl (lv_at hl 1 rfl) ?_
    refine lv_aload_n hx hb dX5_keep_9 rfl (lv_at hl 0 rfl) ?_
    refine va_get (D := D) (ci := 5) (v := .ref aS) (C := RX5) (T := TX5) (N := 3) hx hb hts i_X5 hown hK.1 hP 0 rfl rfl 0 (by decide) (hts _ wd_139) (fun _ h9 => h9) rfl dX5_keep_10 ?_
    obtain ⟨u4, u5, h3, hF⟩ := bd2_at hF
    refine hcallv (wc := (W4 cI aS aL aW aB aF aZ aK aM sr wm wW bh bF bZ bK bM)) (wc' := (W4 cI aS aL aW aB aF aZ aK aM sr wm wW bh bF bZ bK bM)) (Hb := (HB cI cZ cS aY aV aU aR kd kf kA kV kQ kP)) (Hb' := (HB cI cZ cS aY aV aU aR kd u4 kA kV kQ u5)) (X := (W5x cI aC aS aL aW aB aF aZ aK aM aO aT aY sr wm wW bh bF bZ bK bM ol oS)) (X' := (W5x cI aC aS aL aW aB aF aZ aK aM aO aT aY sr wm wW bh bF bZ bK bM ol oS)) (va_runV (As := [.int x1, .ref aS]) (rest := []) S (K1_putIntoSlot l D cI cZ cS cJ aS aL aW aB aF aZ aK aM sr wm wW bh bF bZ bK bM aY aV aU aR kd kf kA kQ kV kP x1 u4 u5 h3) (cwV 2 hts (gd_V wd_392 wd_393 wd_394 wd_26 wd_395) rfl rfl rfl hd1_putIntoSlot ⟨Nat.le_of_ble_eq_true rfl, Nat.le_of_ble_eq_true rfl⟩) (uPreVq hK (hP.sub (ws' := (W4 cI aS aL aW aB aF aZ aK aM sr wm wW bh bF bZ bK bM) ++ (HB cI cZ cS aY aV aU aR kd kf kA kV kQ kP)) [1, 2, 3, 4, 5, 6, 7, 8, 11, 12, 13, 14, 15, 16, 17, 18, 19, 20, 21, 22, 23, 24, 25, 26, 27, 28, 29, 30, 31, 32, 33, 34, 35, 36, 37, 38, 39, 40, 41, 42, 43, 44, 45, 46, 47, 48, 49, 50, 51, 52, 53, 54, 55, 56, 57, 58, 59, 60, 61, 62, 63, 64, 65, 66, 67, 68, 69, 70, 71, 72, 73, 74, 75, 76, 77, 78] rfl) (hD.sub (ws' := (W4 cI aS aL aW aB aF aZ aK aM sr wm wW bh bF bZ bK bM) ++ (HB cI cZ cS aY aV aU aR kd kf kA kV kQ kP)) [1, 2, 3, 4, 5, 6, 7, 8, 11, 12, 13, 14, 15, 16, 17, 18, 19, 20, 21, 22, 23, 24, 25, 26, 27, 28, 29, 30, 31, 32, 33, 34, 35, 36, 37, 38, 39, 40, 41, 42, 43, 44, 45, 46, 47, 48, 49, 50, 51, 52, 53, 54, 55, 56, 57, 58, 59, 60, 61, 62, 63, 64, 65, 66, 67, 68, 69, 70, 71, 72, 73, 74, 75, 76, 77, 78] (by decide +kernel) rfl) 8 (ci := 1) (q := (RX1, TX1, 4)) rfl rfl) rfl rfl hl.1 rfl (lv_room (Nat.le_of_ble_eq_true rfl)) dX5_keep_13 ⟨Nat.le_of_ble_eq_true rfl, Nat.le_of_ble_eq_true rfl⟩) hS hP hD [1, 2, 3, 4, 5, 6, 7, 8] rfl rfl rfl rfl (fun H locs hP hD hS => ?_)
    refine lv_aload_n hx hb dX5_keep_16 rfl (lv_at hl 0 rfl) ?_
    refine va_get (D := D) (ci := 5) (v := .ref aS) (C := RX5) (T := TX5) (N := 3) hx hb hts i_X5 hown hK.1 hP 0 rfl rfl 0 (by decide) (hts _ wd_139) (fun _ h9 => h9) rfl dX5_keep_17 ?_
    refine va_get (D := D) (ci := 4) (v := .ref aB) (C := RX4) (T := TX4) (N := 3) hx hb hts i_X4 hown hK.1 hP 1 rfl rfl 1 (by decide) (hts _ wd_91) (fun _ h9 => h9) rfl dX5_keep_20 ?_
    refine va_get (D := D) (ci := 0) (v := .int bh) (C := RX0) (T := TX0) (N := 5) hx hb hts i_X0 hown hK.1 hP 4 rfl rfl 4 (by decide) (hts _ wd_76) (fun _ h9 => h9) rfl dX5_keep_23 ?_
    cases hF
    exact ureti hx hb hr hlocks hP hS dX5_keep_26
  · have hF := ite_f c6 hF
    exact (nt_no hF c6).elim
abbrev rmN5_goBack : Room := { frames := 5, cells := 0, slots := 0, locals := 107 }
set_option maxHeartbeats 4000000 in
set_option maxRecDepth 100000 in
theorem N5_goBack (l : Launch) (D : va_G) (cI cZ cS cJ : ClassId) (aC aS aL aW aB aF aZ aK aM aO aT aY aV aU aR : Nat) (kQ : Nat → SA) (sr : Int32) (wm : Int32) (wW : Nat → Int32) (bh : Int32) (bF : Nat → Int32) (bZ : Nat → Int32) (bK : Nat → Int32) (bM : Nat → Int32) (ol : Int32) (oS : Nat → Int32) (kd : Int32) (kf : Nat → Int32) (kA : Nat → SA) (kV : Nat → SV) (kP : Nat → SV) (x1 : Int32) (r : Int32) (z_sr : Int32) (z_wm : Int32) (z_wW : Nat → Int32) (z_bh : Int32) (z_bF : Nat → Int32) (z_bZ : Nat → Int32) (z_bK : Nat → Int32) (z_bM : Nat → Int32) (z_kd : Int32) (z_kA : Nat → SA) (z_kV : Nat → SV) (hF : f5_goBack sr wm wW bh bF bZ bK bM kd kf kA kV kP x1 = some (0, r, z_sr, z_wm, z_wW, z_bh, z_bF, z_bZ, z_bK, z_bM, z_kd, z_kA, z_kV)) : Met l yX5_goBack wsX5_goBack rmN5_goBack (uP D (gT cI cZ cS cJ) ((W5x cI aC aS aL aW aB aF aZ aK aM aO aT aY sr wm wW bh bF bZ bK bM ol oS) ++ (HB cI cZ cS aY aV aU aR kd kf kA kV kQ kP)) [.ref aC, .int x1]) (uQ D (some (.int r)) (uA ((W5x cI aC aS aL aW aB aF aZ aK aM aO aT aY sr wm wW bh bF bZ bK bM ol oS) ++ (HB cI cZ cS aY aV aU aR kd kf kA kV kQ kP))) ((W5x cI aC aS aL aW aB aF aZ aK aM aO aT aY z_sr z_wm z_wW z_bh z_bF z_bZ z_bK z_bM ol oS) ++ (HB cI cZ cS aY aV aU aR z_kd kf z_kA z_kV kQ kP))) 0 0 (uA ((W5x cI aC aS aL aW aB aF aZ aK aM aO aT aY sr wm wW bh bF bZ bK bM ol oS) ++ (HB cI cZ cS aY aV aU aR kd kf kA kV kQ kP))) := by
  refine Met.ofW (cc := cX5_goBack) (maxL := 2) (ret := (some .int)) (by decide) rfl ?_
  intro p e s m args below meth c s₁ B hml hv
  obtain ⟨ha, hK, hP, hD0⟩ := hv
  have hx := B.exec
  have hb := B.bytes
  have hr := B.returns
  have hlocks := B.notSynchronized
  have hts : ∀ w ∈ lw_all, w.before args s = true := fun w h => atoms_spec (ws := wsX5_goBack) B.pre w (List.mem_cons_of_mem _ h)
  have hown : s.vm.findClass RX5 = some m.cls := findClass_of_methodNamed B.named
  have S : CallFix p m c cX5_goBack 2 s args lw_all RX5 := ⟨hx, hb, hml, hown, hts⟩
  have hD := hD0.own
  generalize uA ((W5x cI aC aS aL aW aB aF aZ aK aM aO aT aY sr wm wW bh bF bZ bK bM ol oS) ++ (HB cI cZ cS aY aV aU aR kd kf kA kV kQ kP)) = A0 at hD ⊢
  have hS : va_S A0 s.heap s.heap [] := va_S.rf
  have hl := lv_entry ([.ref aC, .int x1] : List Value) (n := 2) (Nat.le_of_ble_eq_true rfl)
  refine W.eq (g2 := F0 m 0 ((lg_sl ([.ref aC, .int x1] : List Value) ++ List.replicate (2 - (lg_sl ([.ref aC, .int x1] : List Value)).length) Slot.unset).toArray) []) (by rw [ha]; exact lg_entry_eq _ _ _) ?_
  generalize (lg_sl ([.ref aC, .int x1] : List Value) ++ List.replicate (2 - (lg_sl ([.ref aC, .int x1] : List Value)).length) Slot.unset).toArray = ls at hl ⊢
  have hl : lv_has ls 2 [(0, .ref aC), (1, .int x1)] := hl
  rw [f5_goBack] at hF
  show uW p l e wsX5_goBack rmN5_goBack s m args below meth c D (some (.int r)) A0 ((W5x cI aC aS aL aW aB aF aZ aK aM aO aT aY z_sr z_wm z_wW z_bh z_bF z_bZ z_bK z_bM ol oS) ++ (HB cI cZ cS aY aV aU aR z_kd kf z_kA z_kV kQ kP)) s.heap [] (F0 m 0 ls [])
  refine lv_iload_n hx hb dX5_goBack_0 rfl (lv_at hl 1 rfl) ?_
  obtain ⟨k2, h1, hF⟩ := bd1_at hF
  by_cases c19 : k2 = 0
  · subst c19
    have hF := ite_t rfl hF
    refine rcall0 (va_runS (As := [.int x1]) (rest := []) S (N5_throwIfNoSlot l D cI cZ cS cJ x1 h1) (va_cwS 1 hts (gd_S wd_388 wd_389 wd_22 wd_390) rfl rfl rfl hdn5_throwIfNoSlot ⟨Nat.le_of_ble_eq_true rfl, Nat.le_of_ble_eq_true rfl⟩) (rPreS hK (hP.sub (ws' := ([] : va_W)) [] rfl)) rfl rfl hl.1 rfl (lv_room (Nat.le_of_ble_eq_true rfl)) dX5_goBack_1 ⟨(Nat.zero_le _), (Nat.zero_le _)⟩) ?_
    refine lv_aload_n hx hb dX5_goBack_4 rfl (lv_at hl 0 rfl) ?_
    refine va_get (D := D) (ci := 5) (v := .ref aY) (C := RX5) (T := TX5) (N := 3) hx hb hts i_X5 hown hK.1 hP 0 rfl rfl 1 (by decide) (hts _ wd_140) (fun _ h9 => h9) rfl dX5_goBack_5 ?_
    refine lv_iload_n hx hb dX5_goBack_8 rfl (lv_at hl 1 rfl) ?_
    obtain ⟨q4, h3, hF⟩ := bd1_at hF
    refine rcall (va_runV (As := [.int x1]) (rest := []) S (K1_isSlotFilled l D cI cZ cS cJ aY aR aV aU kd kf x1 q4 h3) (cwV 1 hts (gd_V wd_400 wd_401 wd_402 wd_26 wd_403) rfl rfl rfl hd1_isSlotFilled ⟨Nat.le_of_ble_eq_true rfl, Nat.le_of_ble_eq_true rfl⟩) (rPreV hK (hP.sub (ws' := (WY cI cZ aY aR aV aU kd kf)) [11, 14] rfl) (ci := 1) (q := (RX1, TX1, 4)) rfl rfl) rfl rfl hl.1 rfl (lv_room (Nat.le_of_ble_eq_true rfl)) dX5_goBack_9 ⟨(Nat.zero_le _), (Nat.zero_le _)⟩) ?_
    refine lv_if_ne (tgt := 25) hx hb dX5_goBack_12 (by decide) (fun c5 => ?_) (fun c5 => ?_)
    · have hF := ite_f c5 hF
      refine lv_aload_n hx hb dX5_goBack_25 rfl (lv_at hl 0 rfl) ?_
      refine va_get (D := D) (ci := 5) (v := .ref aY) (C := RX5) (T := TX5) (N := 3) hx hb hts i_X5 hown hK.1 hP 0 rfl rfl 1 (by decide) (hts _ wd_140) (fun _ h9 => h9) rfl dX5_goBack_26 ?_
      refine lv_aload_n hx hb dX5_goBack_29 rfl (lv_at hl 0 rfl) ?_
      refine va_get (D := D) (ci := 5) (v := .ref aS) (C := RX5) (T := TX5) (N := 3) hx hb hts i_X5 hown hK.1 hP 0 rfl rfl 0 (by decide) (hts _ wd_139) (fun _ h9 => h9) rfl dX5_goBack_30 ?_
      obtain ⟨u7, u8, u9, h6, hF⟩ := bd3_at hF
      refine hcallv (wc := (W4 cI aS aL aW aB aF aZ aK aM sr wm wW bh bF bZ bK bM)) (wc' := (W4 cI aS aL aW aB aF aZ aK aM sr wm wW bh bF bZ bK bM)) (Hb := (HB cI cZ cS aY aV aU aR kd kf kA kV kQ kP)) (Hb' := (HB cI cZ cS aY aV aU aR u7 kf u8 u9 kQ kP)) (X := (W5x cI aC aS aL aW aB aF aZ aK aM aO aT aY sr wm wW bh bF bZ bK bM ol oS)) (X' := (W5x cI aC aS aL aW aB aF aZ aK aM aO aT aY sr wm wW bh bF bZ bK bM ol oS)) (va_runV (As := [.ref aS]) (rest := []) S (K1_save l D cI cZ cS cJ aS aL aW aB aF aZ aK aM sr wm wW bh bF bZ bK bM aY aV aU aR kd kf kA kQ kV kP  u7 u8 u9 h6) (cwV 1 hts (gd_V wd_276 wd_277 wd_278 wd_26 wd_279) rfl rfl rfl hd1_save ⟨Nat.le_of_ble_eq_true rfl, Nat.le_of_ble_eq_true rfl⟩) (uPreVq hK (hP.sub (ws' := (W4 cI aS aL aW aB aF aZ aK aM sr wm wW bh bF bZ bK bM) ++ (HB cI cZ cS aY aV aU aR kd kf kA kV kQ kP)) [1, 2, 3, 4, 5, 6, 7, 8, 11, 12, 13, 14, 15, 16, 17, 18, 19, 20, 21, 22, 23, 24, 25, 26, 27, 28, 29, 30, 31, 32, 33, 34, 35, 36, 37, 38, 39, 40, 41, 42, 43, 44, 45, 46, 47, 48, 49, 50, 51, 52, 53, 54, 55, 56, 57, 58, 59, 60, 61, 62, 63, 64, 65, 66, 67, 68, 69, 70, 71, 72, 73, 74, 75, 76, 77, 78] rfl) (hD.sub (ws' := (W4 cI aS aL aW aB aF aZ aK aM sr wm wW bh bF bZ bK bM) ++ (HB cI cZ cS aY aV aU aR kd kf kA kV kQ kP)) [1, 2, 3, 4, 5, 6, 7, 8, 11, 12, 13, 14, 15, 16, 17, 18, 19, 20, 21, 22, 23, 24, 25, 26, 27, 28, 29, 30, 31, 32, 33, 34, 35, 36, 37, 38, 39, 40, 41, 42, 43, 44, 45, 46, 47, 48, 49, 50, 51, 52, 53, 54, 55, 56, 57, 58, 59, 60, 61, 62, 63, 64, 65, 66, 67, 68, 69, 70, 71, 72, 73, 74, 75, 76, 77, 78] (by decide +kernel) rfl) 8 (ci := 1) (q := (RX1, TX1, 4)) rfl rfl) rfl rfl hl.1 rfl (lv_room (Nat.le_of_ble_eq_true rfl)) dX5_goBack_33 ⟨Nat.le_of_ble_eq_true rfl, Nat.le_of_ble_eq_true rfl⟩) hS hP hD [1, 2, 3, 4, 5, 6, 7, 8] rfl rfl rfl rfl (fun H locs hP hD hS => ?_)
      refine lv_aload_n hx hb dX5_goBack_36 rfl (lv_at hl 0 rfl) ?_
      refine va_get (D := D) (ci := 5) (v := .ref aY) (C := RX5) (T := TX5) (N := 3) hx hb hts i_X5 hown hK.1 hP 0 rfl rfl 1 (by decide) (hts _ wd_140) (fun _ h9 => h9) rfl dX5_goBack_37 ?_
      refine lv_iload_n hx hb dX5_goBack_40 rfl (lv_at hl 1 rfl) ?_
      refine lv_aload_n hx hb dX5_goBack_41 rfl (lv_at hl 0 rfl) ?_
      refine va_get (D := D) (ci := 5) (v := .ref aS) (C := RX5) (T := TX5) (N := 3) hx hb hts i_X5 hown hK.1 hP 0 rfl rfl 0 (by decide) (hts _ wd_139) (fun _ h9 => h9) rfl dX5_goBack_42 ?_
      obtain ⟨u11, u12, u13, u14, u15, u16, u17, u18, h10, hF⟩ := bd8_at hF
      refine hcallv (wc := (W4 cI aS aL aW aB aF aZ aK aM sr wm wW bh bF bZ bK bM)) (wc' := (W4 cI aS aL aW aB aF aZ aK aM u11 u12 u13 u14 u15 u16 u17 u18)) (Hb := (HB cI cZ cS aY aV aU aR u7 kf u8 u9 kQ kP)) (Hb' := (HB cI cZ cS aY aV aU aR u7 kf u8 u9 kQ kP)) (X := (W5x cI aC aS aL aW aB aF aZ aK aM aO aT aY sr wm wW bh bF bZ bK bM ol oS)) (X' := (W5x cI aC aS aL aW aB aF aZ aK aM aO aT aY u11 u12 u13 u14 u15 u16 u17 u18 ol oS)) (va_runV (As := [.int x1, .ref aS]) (rest := []) S (K1_restoreSlot l D cI cZ cS cJ aS aL aW aB aF aZ aK aM sr wm wW bh bF bZ bK bM aY aV aU aR u7 kf u8 kQ u9 kP x1 u11 u12 u13 u14 u15 u16 u17 u18 h10) (cwV 2 hts (gd_V wd_405 wd_406 wd_407 wd_26 wd_408) rfl rfl rfl hd1_restoreSlot ⟨Nat.le_of_ble_eq_true rfl, Nat.le_of_ble_eq_true rfl⟩) (uPreVq hK (hP.sub (ws' := (W4 cI aS aL aW aB aF aZ aK aM sr wm wW bh bF bZ bK bM) ++ (HB cI cZ cS aY aV aU aR u7 kf u8 u9 kQ kP)) [1, 2, 3, 4, 5, 6, 7, 8, 11, 12, 13, 14, 15, 16, 17, 18, 19, 20, 21, 22, 23, 24, 25, 26, 27, 28, 29, 30, 31, 32, 33, 34, 35, 36, 37, 38, 39, 40, 41, 42, 43, 44, 45, 46, 47, 48, 49, 50, 51, 52, 53, 54, 55, 56, 57, 58, 59, 60, 61, 62, 63, 64, 65, 66, 67, 68, 69, 70, 71, 72, 73, 74, 75, 76, 77, 78] rfl) (hD.sub (ws' := (W4 cI aS aL aW aB aF aZ aK aM sr wm wW bh bF bZ bK bM) ++ (HB cI cZ cS aY aV aU aR u7 kf u8 u9 kQ kP)) [1, 2, 3, 4, 5, 6, 7, 8, 11, 12, 13, 14, 15, 16, 17, 18, 19, 20, 21, 22, 23, 24, 25, 26, 27, 28, 29, 30, 31, 32, 33, 34, 35, 36, 37, 38, 39, 40, 41, 42, 43, 44, 45, 46, 47, 48, 49, 50, 51, 52, 53, 54, 55, 56, 57, 58, 59, 60, 61, 62, 63, 64, 65, 66, 67, 68, 69, 70, 71, 72, 73, 74, 75, 76, 77, 78] (by decide +kernel) rfl) 8 (ci := 1) (q := (RX1, TX1, 4)) rfl rfl) rfl rfl hl.1 rfl (lv_room (Nat.le_of_ble_eq_true rfl)) dX5_goBack_45 ⟨Nat.le_of_ble_eq_true rfl, Nat.le_of_ble_eq_true rfl⟩) hS hP hD [1, 2, 3, 4, 5, 6, 7, 8] rfl rfl rfl rfl (fun H locs hP hD hS => ?_)
      refine lv_aload_n hx hb dX5_goBack_48 rfl (lv_at hl 0 rfl) ?_
      refine va_get (D := D) (ci := 5) (v := .ref aS) (C := RX5) (T := TX5) (N := 3) hx hb hts i_X5 hown hK.1 hP 0 rfl rfl 0 (by decide) (hts _ wd_139) (fun _ h9 => h9) rfl dX5_goBack_49 ?_
      refine va_get (D := D) (ci := 4) (v := .ref aB) (C := RX4) (T := TX4) (N := 3) hx hb hts i_X4 hown hK.1 hP 1 rfl rfl 1 (by decide) (hts _ wd_91) (fun _ h9 => h9) rfl dX5_goBack_52 ?_
      refine va_get (D := D) (ci := 0) (v := .int u14) (C := RX0) (T := TX0) (N := 5) hx hb hts i_X0 hown hK.1 hP 4 rfl rfl 4 (by decide) (hts _ wd_76) (fun _ h9 => h9) rfl dX5_goBack_55 ?_
      cases hF
      exact ureti hx hb hr hlocks hP hS dX5_goBack_58
    · have hF := ite_t c5 hF
      exact (nt_no hF (by decide)).elim
  · have hF := ite_f c19 hF
    exact (nt_no hF c19).elim
abbrev rmN5_letter : Room := { frames := 2, cells := 0, slots := 0, locals := 46 }
set_option maxHeartbeats 4000000 in
set_option maxRecDepth 100000 in
theorem N5_letter (l : Launch) (D : va_G) (cI cZ cS cJ : ClassId) (aC aS aL aW aB aF aZ aK aM aO aT aY aV aU aR : Nat) (kQ : Nat → SA) (sr : Int32) (wm : Int32) (wW : Nat → Int32) (bh : Int32) (bF : Nat → Int32) (bZ : Nat → Int32) (bK : Nat → Int32) (bM : Nat → Int32) (ol : Int32) (oS : Nat → Int32) (kd : Int32) (kf : Nat → Int32) (kA : Nat → SA) (kV : Nat → SV) (kP : Nat → SV) (x1 : Int32) (r : Int32) (hF : f5_letter wm wW x1 = some (0, r)) : Met l yX5_letter wsX5_letter rmN5_letter (rP D (gT cI cZ cS cJ) ((W5x cI aC aS aL aW aB aF aZ aK aM aO aT aY sr wm wW bh bF bZ bK bM ol oS) ++ (HB cI cZ cS aY aV aU aR kd kf kA kV kQ kP)) [.ref aC, .int x1]) (rQ (.int r)) 0 0 (fun _ => False) := by
  refine Met.ofW (cc := cX5_letter) (maxL := 2) (ret := (some .int)) (by decide) rfl ?_
  intro p e s m args below meth c s₁ B hml hv
  obtain ⟨ha, hK, hP⟩ := hv
  have hx := B.exec
  have hb := B.bytes
  have hr := B.returns
  have hlocks := B.notSynchronized
  have hts : ∀ w ∈ lw_all, w.before args s = true := fun w h => atoms_spec (ws := wsX5_letter) B.pre w (List.mem_cons_of_mem _ h)
  have hown : s.vm.findClass RX5 = some m.cls := findClass_of_methodNamed B.named
  have S : CallFix p m c cX5_letter 2 s args lw_all RX5 := ⟨hx, hb, hml, hown, hts⟩
  have hl := lv_entry ([.ref aC, .int x1] : List Value) (n := 2) (Nat.le_of_ble_eq_true rfl)
  refine W.eq (g2 := F0 m 0 ((lg_sl ([.ref aC, .int x1] : List Value) ++ List.replicate (2 - (lg_sl ([.ref aC, .int x1] : List Value)).length) Slot.unset).toArray) []) (by rw [ha]; exact lg_entry_eq _ _ _) ?_
  generalize (lg_sl ([.ref aC, .int x1] : List Value) ++ List.replicate (2 - (lg_sl ([.ref aC, .int x1] : List Value)).length) Slot.unset).toArray = ls at hl ⊢
  have hl : lv_has ls 2 [(0, .ref aC), (1, .int x1)] := hl
  rw [f5_letter] at hF
  show rW p l e wsX5_letter rmN5_letter s m args below meth c (.int r) (F0 m 0 ls [])
  refine lv_iload_n hx hb dX5_letter_0 rfl (lv_at hl 1 rfl) ?_
  obtain ⟨k2, h1, hF⟩ := bd1_at hF
  by_cases c5 : k2 = 0
  · subst c5
    have hF := ite_t rfl hF
    refine rcall0 (va_runS (As := [.int x1]) (rest := []) S (N5_throwIfNoSerial l D cI cZ cS cJ x1 h1) (va_cwS 1 hts (gd_S wd_347 wd_348 wd_22 wd_349) rfl rfl rfl hdn5_throwIfNoSerial ⟨Nat.le_of_ble_eq_true rfl, Nat.le_of_ble_eq_true rfl⟩) (rPreS hK (hP.sub (ws' := ([] : va_W)) [] rfl)) rfl rfl hl.1 rfl (lv_room (Nat.le_of_ble_eq_true rfl)) dX5_letter_1 ⟨(Nat.zero_le _), (Nat.zero_le _)⟩) ?_
    refine lv_aload_n hx hb dX5_letter_4 rfl (lv_at hl 0 rfl) ?_
    refine va_get (D := D) (ci := 5) (v := .ref aS) (C := RX5) (T := TX5) (N := 3) hx hb hts i_X5 hown hK.1 hP 0 rfl rfl 0 (by decide) (hts _ wd_139) (fun _ h9 => h9) rfl dX5_letter_5 ?_
    refine va_get (D := D) (ci := 4) (v := .ref aL) (C := RX4) (T := TX4) (N := 3) hx hb hts i_X4 hown hK.1 hP 1 rfl rfl 0 (by decide) (hts _ wd_89) (fun _ h9 => h9) rfl dX5_letter_8 ?_
    refine lv_iload_n hx hb dX5_letter_11 rfl (lv_at hl 1 rfl) ?_
    obtain ⟨q4, h3, hF⟩ := bd1_at hF
    refine rcall (va_runV (As := [.int x1]) (rest := []) S (K2_letterOf l D cI cZ cS cJ aL aW wm wW x1 q4 h3) (cwV 1 hts (gd_V wd_331 wd_332 wd_333 wd_24 wd_334) rfl rfl rfl hd2_letterOf ⟨Nat.le_of_ble_eq_true rfl, Nat.le_of_ble_eq_true rfl⟩) (rPreV hK (hP.sub (ws' := (W2 cI aL aW wm wW)) [2, 3] rfl) (ci := 2) (q := (RX2, TX2, 2)) rfl rfl) rfl rfl hl.1 rfl (lv_room (Nat.le_of_ble_eq_true rfl)) dX5_letter_12 ⟨(Nat.zero_le _), (Nat.zero_le _)⟩) ?_
    have hF := nt_some hF
    exact rret hF hx hb hr hlocks dX5_letter_15
  · have hF := ite_f c5 hF
    exact (nt_no hF c5).elim
abbrev rmN5_cheque : Room := { frames := 2, cells := 0, slots := 0, locals := 47 }
set_option maxHeartbeats 4000000 in
set_option maxRecDepth 100000 in
theorem N5_cheque (l : Launch) (D : va_G) (cI cZ cS cJ : ClassId) (aC aS aL aW aB aF aZ aK aM aO aT aY aV aU aR : Nat) (kQ : Nat → SA) (sr : Int32) (wm : Int32) (wW : Nat → Int32) (bh : Int32) (bF : Nat → Int32) (bZ : Nat → Int32) (bK : Nat → Int32) (bM : Nat → Int32) (ol : Int32) (oS : Nat → Int32) (kd : Int32) (kf : Nat → Int32) (kA : Nat → SA) (kV : Nat → SV) (kP : Nat → SV) (x1 : Int32) (x2 : Int32) (r : Int32) (hF : f5_cheque bh bF bZ bK bM x1 x2 = some (0, r)) : Met l yX5_cheque wsX5_cheque rmN5_cheque (rP D (gT cI cZ cS cJ) ((W5x cI aC aS aL aW aB aF aZ aK aM aO aT aY sr wm wW bh bF bZ bK bM ol oS) ++ (HB cI cZ cS aY aV aU aR kd kf kA kV kQ kP)) [.ref aC, .int x1, .int x2]) (rQ (.int r)) 0 0 (fun _ => False) := by
  refine Met.ofW (cc := cX5_cheque) (maxL := 4) (ret := (some .int)) (by decide) rfl ?_
  intro p e s m args below meth c s₁ B hml hv
  obtain ⟨ha, hK, hP⟩ := hv
  have hx := B.exec
  have hb := B.bytes
  have hr := B.returns
  have hlocks := B.notSynchronized
  have hts : ∀ w ∈ lw_all, w.before args s = true := fun w h => atoms_spec (ws := wsX5_cheque) B.pre w (List.mem_cons_of_mem _ h)
  have hown : s.vm.findClass RX5 = some m.cls := findClass_of_methodNamed B.named
  have S : CallFix p m c cX5_cheque 4 s args lw_all RX5 := ⟨hx, hb, hml, hown, hts⟩
  have hl := lv_entry ([.ref aC, .int x1, .int x2] : List Value) (n := 4) (Nat.le_of_ble_eq_true rfl)
  refine W.eq (g2 := F0 m 0 ((lg_sl ([.ref aC, .int x1, .int x2] : List Value) ++ List.replicate (4 - (lg_sl ([.ref aC, .int x1, .int x2] : List Value)).length) Slot.unset).toArray) []) (by rw [ha]; exact lg_entry_eq _ _ _) ?_
  generalize (lg_sl ([.ref aC, .int x1, .int x2] : List Value) ++ List.replicate (4 - (lg_sl ([.ref aC, .int x1, .int x2] : List Value)).length) Slot.unset).toArray = ls at hl ⊢
  have hl : lv_has ls 4 [(0, .ref aC), (1, .int x1), (2, .int x2)] := hl
  rw [f5_cheque] at hF
  show rW p l e wsX5_cheque rmN5_cheque s m args below meth c (.int r) (F0 m 0 ls [])
  refine lv_aload_n hx hb dX5_cheque_0 rfl (lv_at hl 0 rfl) ?_
  refine va_get (D := D) (ci := 5) (v := .ref aS) (C := RX5) (T := TX5) (N := 3) hx hb hts i_X5 hown hK.1 hP 0 rfl rfl 0 (by decide) (hts _ wd_139) (fun _ h9 => h9) rfl dX5_cheque_1 ?_
  refine va_get (D := D) (ci := 4) (v := .ref aB) (C := RX4) (T := TX4) (N := 3) hx hb hts i_X4 hown hK.1 hP 1 rfl rfl 1 (by decide) (hts _ wd_91) (fun _ h9 => h9) rfl dX5_cheque_4 ?_
  refine lv_iload_n hx hb dX5_cheque_7 rfl (lv_at hl 1 rfl) ?_
  obtain ⟨q2, h1, hF⟩ := bd1_at hF
  refine rcall (va_runV (As := [.int x1]) (rest := []) S (K0_cellOf l D cI cZ cS cJ aB aF aZ aK aM bh bF bZ bK bM x1 q2 h1) (cwV 1 hts (gd_V wd_319 wd_320 wd_321 wd_25 wd_322) rfl rfl rfl hd0_cellOf ⟨Nat.le_of_ble_eq_true rfl, Nat.le_of_ble_eq_true rfl⟩) (rPreV hK (hP.sub (ws' := (W0 cI aB aF aZ aK aM bh bF bZ bK bM)) [4, 5, 6, 7, 8] rfl) (ci := 0) (q := (RX0, TX0, 5)) rfl rfl) rfl rfl hl.1 rfl (lv_room (Nat.le_of_ble_eq_true rfl)) dX5_cheque_8 ⟨(Nat.zero_le _), (Nat.zero_le _)⟩) ?_
  refine lv_istore_n (lv' := [(3, .int q2), (0, .ref aC), (1, .int x1), (2, .int x2)]) hx hb dX5_cheque_11 rfl hl (by decide) rfl (fun ls hl => ?_)
  refine lv_iload_n hx hb dX5_cheque_12 rfl (lv_at hl 0 rfl) ?_
  refine lv_iconst hx hb dX5_cheque_13 kc_iconst_m1 ?_
  refine lv_icmp_ne (tgt := 27) hx hb dX5_cheque_14 (by decide) (fun c3 => ?_) (fun c3 => ?_)
  · have hF := ite_f c3 hF
    refine lv_iload_n hx hb dX5_cheque_27 rfl (lv_at hl 3 rfl) ?_
    by_cases c4 : x2 = (0 : Int32)
    · have hF := ite_t c4 hF
      refine lv_tableIn (tgt := 64) hx hb dX5_cheque_28 (by rw [c4]; decide) (by rw [c4]; decide) (by rw [c4]; rfl) (by decide) ?_
      refine lv_aload_n hx hb dX5_cheque_64 rfl (lv_at hl 1 rfl) ?_
      refine va_get (D := D) (ci := 5) (v := .ref aS) (C := RX5) (T := TX5) (N := 3) hx hb hts i_X5 hown hK.1 hP 0 rfl rfl 0 (by decide) (hts _ wd_139) (fun _ h9 => h9) rfl dX5_cheque_65 ?_
      refine va_get (D := D) (ci := 4) (v := .ref aB) (C := RX4) (T := TX4) (N := 3) hx hb hts i_X4 hown hK.1 hP 1 rfl rfl 1 (by decide) (hts _ wd_91) (fun _ h9 => h9) rfl dX5_cheque_68 ?_
      refine lv_iload_n hx hb dX5_cheque_71 rfl (lv_at hl 0 rfl) ?_
      obtain ⟨q6, h5, hF⟩ := bd1_at hF
      refine rcall (va_runV (As := [.int q2]) (rest := []) S (K0_kindAt l D cI cZ cS cJ aB aF aZ aK aM bh bF bZ bK bM q2 q6 h5) (cwV 1 hts (gd_V wd_323 wd_324 wd_325 wd_25 wd_326) rfl rfl rfl hd0_kindAt ⟨Nat.le_of_ble_eq_true rfl, Nat.le_of_ble_eq_true rfl⟩) (rPreV hK (hP.sub (ws' := (W0 cI aB aF aZ aK aM bh bF bZ bK bM)) [4, 5, 6, 7, 8] rfl) (ci := 0) (q := (RX0, TX0, 5)) rfl rfl) rfl rfl hl.1 rfl (lv_room (Nat.le_of_ble_eq_true rfl)) dX5_cheque_72 ⟨(Nat.zero_le _), (Nat.zero_le _)⟩) ?_
      have hF := nt_some hF
      exact rret hF hx hb hr hlocks dX5_cheque_75
    have hF := ite_f c4 hF
    by_cases c7 : x2 = (1 : Int32)
    · have hF := ite_t c7 hF
      refine lv_tableIn (tgt := 76) hx hb dX5_cheque_28 (by rw [c7]; decide) (by rw [c7]; decide) (by rw [c7]; rfl) (by decide) ?_
      refine lv_aload_n hx hb dX5_cheque_76 rfl (lv_at hl 1 rfl) ?_
      refine va_get (D := D) (ci := 5) (v := .ref aS) (C := RX5) (T := TX5) (N := 3) hx hb hts i_X5 hown hK.1 hP 0 rfl rfl 0 (by decide) (hts _ wd_139) (fun _ h9 => h9) rfl dX5_cheque_77 ?_
      refine va_get (D := D) (ci := 4) (v := .ref aB) (C := RX4) (T := TX4) (N := 3) hx hb hts i_X4 hown hK.1 hP 1 rfl rfl 1 (by decide) (hts _ wd_91) (fun _ h9 => h9) rfl dX5_cheque_80 ?_
      refine lv_iload_n hx hb dX5_cheque_83 rfl (lv_at hl 0 rfl) ?_
      obtain ⟨q9, h8, hF⟩ := bd1_at hF
      refine rcall (va_runV (As := [.int q2]) (rest := []) S (K0_amountAt l D cI cZ cS cJ aB aF aZ aK aM bh bF bZ bK bM q2 q9 h8) (cwV 1 hts (gd_V wd_577 wd_371 wd_372 wd_25 wd_373) rfl rfl rfl hd0_amountAt ⟨Nat.le_of_ble_eq_true rfl, Nat.le_of_ble_eq_true rfl⟩) (rPreV hK (hP.sub (ws' := (W0 cI aB aF aZ aK aM bh bF bZ bK bM)) [4, 5, 6, 7, 8] rfl) (ci := 0) (q := (RX0, TX0, 5)) rfl rfl) rfl rfl hl.1 rfl (lv_room (Nat.le_of_ble_eq_true rfl)) dX5_cheque_84 ⟨(Nat.zero_le _), (Nat.zero_le _)⟩) ?_
      have hF := nt_some hF
      exact rret hF hx hb hr hlocks dX5_cheque_87
    have hF := ite_f c7 hF
    by_cases c10 : x2 = (2 : Int32)
    · have hF := ite_t c10 hF
      refine lv_tableIn (tgt := 88) hx hb dX5_cheque_28 (by rw [c10]; decide) (by rw [c10]; decide) (by rw [c10]; rfl) (by decide) ?_
      refine lv_iload_n hx hb dX5_cheque_88 rfl (lv_at hl 0 rfl) ?_
      refine lv_bipush hx hb dX5_cheque_89 kc_bipush_40 ?_
      refine lv_idiv hx hb dX5_cheque_91 (by decide) ?_
      have hF := nt_some hF
      exact rret hF hx hb hr hlocks dX5_cheque_92
    have hF := ite_f c10 hF
    by_cases c11 : x2 = (3 : Int32)
    · have hF := ite_t c11 hF
      refine lv_tableIn (tgt := 93) hx hb dX5_cheque_28 (by rw [c11]; decide) (by rw [c11]; decide) (by rw [c11]; rfl) (by decide) ?_
      refine lv_iload_n hx hb dX5_cheque_93 rfl (lv_at hl 0 rfl) ?_
      refine lv_bipush hx hb dX5_cheque_94 kc_bipush_40 ?_
      refine lv_irem hx hb dX5_cheque_96 (by decide) ?_
      have hF := nt_some hF
      exact rret hF hx hb hr hlocks dX5_cheque_97
    have hF := ite_f c11 hF
    by_cases c12 : x2 = (4 : Int32)
    · have hF := ite_t c12 hF
      refine lv_tableIn (tgt := 98) hx hb dX5_cheque_28 (by rw [c12]; decide) (by rw [c12]; decide) (by rw [c12]; rfl) (by decide) ?_
      refine lv_aload_n hx hb dX5_cheque_98 rfl (lv_at hl 1 rfl) ?_
      refine va_get (D := D) (ci := 5) (v := .ref aS) (C := RX5) (T := TX5) (N := 3) hx hb hts i_X5 hown hK.1 hP 0 rfl rfl 0 (by decide) (hts _ wd_139) (fun _ h9 => h9) rfl dX5_cheque_99 ?_
      refine va_get (D := D) (ci := 4) (v := .ref aB) (C := RX4) (T := TX4) (N := 3) hx hb hts i_X4 hown hK.1 hP 1 rfl rfl 1 (by decide) (hts _ wd_91) (fun _ h9 => h9) rfl dX5_cheque_102 ?_
      refine lv_iload_n hx hb dX5_cheque_105 rfl (lv_at hl 0 rfl) ?_
      obtain ⟨q14, h13, hF⟩ := bd1_at hF
      refine rcall (va_runV (As := [.int q2]) (rest := []) S (K0_sameKindFrom l D cI cZ cS cJ aB aF aZ aK aM bh bF bZ bK bM q2 q14 h13) (cwV 1 hts (gd_V wd_578 wd_579 wd_580 wd_25 wd_581) rfl rfl rfl hd0_sameKindFrom ⟨Nat.le_of_ble_eq_true rfl, Nat.le_of_ble_eq_true rfl⟩) (rPreV hK (hP.sub (ws' := (W0 cI aB aF aZ aK aM bh bF bZ bK bM)) [4, 5, 6, 7, 8] rfl) (ci := 0) (q := (RX0, TX0, 5)) rfl rfl) rfl rfl hl.1 rfl (lv_room (Nat.le_of_ble_eq_true rfl)) dX5_cheque_106 ⟨(Nat.zero_le _), (Nat.zero_le _)⟩) ?_
      have hF := nt_some hF
      exact rret hF hx hb hr hlocks dX5_cheque_109
    have hF := ite_f c12 hF
    refine lv_tableOut (tgt := 110) hx hb dX5_cheque_28 (by have q0 := ne_ti c4 (show (0 : Int32).toInt = 0 by decide); have q1 := ne_ti c7 (show (1 : Int32).toInt = 1 by decide); have q2 := ne_ti c10 (show (2 : Int32).toInt = 2 by decide); have q3 := ne_ti c11 (show (3 : Int32).toInt = 3 by decide); have q4 := ne_ti c12 (show (4 : Int32).toInt = 4 by decide); omega) (by decide) ?_
    exact (nt_no hF (by decide)).elim
  · have hF := ite_t c3 hF
    exact (nt_no hF (by decide)).elim
abbrev rmN5_bookOf : Room := { frames := 3, cells := 0, slots := 0, locals := 69 }
set_option maxHeartbeats 4000000 in
set_option maxRecDepth 100000 in
theorem N5_bookOf (l : Launch) (D : va_G) (cI cZ cS cJ : ClassId) (aC aS aL aW aB aF aZ aK aM aO aT aY aV aU aR : Nat) (kQ : Nat → SA) (sr : Int32) (wm : Int32) (wW : Nat → Int32) (bh : Int32) (bF : Nat → Int32) (bZ : Nat → Int32) (bK : Nat → Int32) (bM : Nat → Int32) (ol : Int32) (oS : Nat → Int32) (kd : Int32) (kf : Nat → Int32) (kA : Nat → SA) (kV : Nat → SV) (kP : Nat → SV) (x1 : Int32) (x2 : Int32) (r : Int32) (hF : f5_bookOf bh bF bZ bK bM x1 x2 = some (0, r)) : Met l yX5_bookOf wsX5_bookOf rmN5_bookOf (rP D (gT cI cZ cS cJ) ((W5x cI aC aS aL aW aB aF aZ aK aM aO aT aY sr wm wW bh bF bZ bK bM ol oS) ++ (HB cI cZ cS aY aV aU aR kd kf kA kV kQ kP)) [.ref aC, .int x1, .int x2]) (rQ (.int r)) 0 0 (fun _ => False) := by
  refine Met.ofW (cc := cX5_bookOf) (maxL := 3) (ret := (some .int)) (by decide) rfl ?_
  intro p e s m args below meth c s₁ B hml hv
  obtain ⟨ha, hK, hP⟩ := hv
  have hx := B.exec
  have hb := B.bytes
  have hr := B.returns
  have hlocks := B.notSynchronized
  have hts : ∀ w ∈ lw_all, w.before args s = true := fun w h => atoms_spec (ws := wsX5_bookOf) B.pre w (List.mem_cons_of_mem _ h)
  have hown : s.vm.findClass RX5 = some m.cls := findClass_of_methodNamed B.named
  have S : CallFix p m c cX5_bookOf 3 s args lw_all RX5 := ⟨hx, hb, hml, hown, hts⟩
  have hl := lv_entry ([.ref aC, .int x1, .int x2] : List Value) (n := 3) (Nat.le_of_ble_eq_true rfl)
  refine W.eq (g2 := F0 m 0 ((lg_sl ([.ref aC, .int x1, .int x2] : List Value) ++ List.replicate (3 - (lg_sl ([.ref aC, .int x1, .int x2] : List Value)).length) Slot.unset).toArray) []) (by rw [ha]; exact lg_entry_eq _ _ _) ?_
  generalize (lg_sl ([.ref aC, .int x1, .int x2] : List Value) ++ List.replicate (3 - (lg_sl ([.ref aC, .int x1, .int x2] : List Value)).length) Slot.unset).toArray = ls at hl ⊢
  have hl : lv_has ls 3 [(0, .ref aC), (1, .int x1), (2, .int x2)] := hl
  rw [f5_bookOf] at hF
  show rW p l e wsX5_bookOf rmN5_bookOf s m args below meth c (.int r) (F0 m 0 ls [])
  refine lv_iload_n hx hb dX5_bookOf_0 rfl (lv_at hl 1 rfl) ?_
  refine lv_if_lt (tgt := 18) hx hb dX5_bookOf_1 (by decide) (fun c1 => ?_) (fun c1 => ?_)
  · have hF := ite_t c1 hF
    exact (nt_no hF (by decide)).elim
  · have hF := ite_f c1 hF
    refine lv_iload_n hx hb dX5_bookOf_4 rfl (lv_at hl 1 rfl) ?_
    refine lv_aload_n hx hb dX5_bookOf_5 rfl (lv_at hl 0 rfl) ?_
    refine va_get (D := D) (ci := 5) (v := .ref aS) (C := RX5) (T := TX5) (N := 3) hx hb hts i_X5 hown hK.1 hP 0 rfl rfl 0 (by decide) (hts _ wd_139) (fun _ h9 => h9) rfl dX5_bookOf_6 ?_
    refine va_get (D := D) (ci := 4) (v := .ref aB) (C := RX4) (T := TX4) (N := 3) hx hb hts i_X4 hown hK.1 hP 1 rfl rfl 1 (by decide) (hts _ wd_91) (fun _ h9 => h9) rfl dX5_bookOf_9 ?_
    refine va_get (D := D) (ci := 0) (v := .int bh) (C := RX0) (T := TX0) (N := 5) hx hb hts i_X0 hown hK.1 hP 4 rfl rfl 4 (by decide) (hts _ wd_76) (fun _ h9 => h9) rfl dX5_bookOf_12 ?_
    refine lv_icmp_lt (tgt := 28) hx hb dX5_bookOf_15 (by decide) (fun c2 => ?_) (fun c2 => ?_)
    · have hF := ite_t c2 hF
      refine lv_iload_n hx hb dX5_bookOf_28 rfl (lv_at hl 2 rfl) ?_
      refine lv_if_lt (tgt := 38) hx hb dX5_bookOf_29 (by decide) (fun c3 => ?_) (fun c3 => ?_)
      · have hF := ite_t c3 hF
        exact (nt_no hF (by decide)).elim
      · have hF := ite_f c3 hF
        refine lv_iload_n hx hb dX5_bookOf_32 rfl (lv_at hl 2 rfl) ?_
        refine lv_bipush hx hb dX5_bookOf_33 kc_bipush_8 ?_
        refine lv_icmp_le (tgt := 48) hx hb dX5_bookOf_35 (by decide) (fun c4 => ?_) (fun c4 => ?_)
        · have hF := ite_t c4 hF
          refine lv_aload_n hx hb dX5_bookOf_48 rfl (lv_at hl 0 rfl) ?_
          refine va_get (D := D) (ci := 5) (v := .ref aS) (C := RX5) (T := TX5) (N := 3) hx hb hts i_X5 hown hK.1 hP 0 rfl rfl 0 (by decide) (hts _ wd_139) (fun _ h9 => h9) rfl dX5_bookOf_49 ?_
          refine va_get (D := D) (ci := 4) (v := .ref aB) (C := RX4) (T := TX4) (N := 3) hx hb hts i_X4 hown hK.1 hP 1 rfl rfl 1 (by decide) (hts _ wd_91) (fun _ h9 => h9) rfl dX5_bookOf_52 ?_
          refine lv_iload_n hx hb dX5_bookOf_55 rfl (lv_at hl 1 rfl) ?_
          refine lv_iload_n hx hb dX5_bookOf_56 rfl (lv_at hl 2 rfl) ?_
          obtain ⟨q6, h5, hF⟩ := bd1_at hF
          refine rcall (va_runV (As := [.int x1, .int x2]) (rest := []) S (K0_numberOf l D cI cZ cS cJ aB aF aZ aK aM bh bF bZ bK bM x1 x2 q6 h5) (cwV 2 hts (gd_V wd_589 wd_424 wd_425 wd_25 wd_426) rfl rfl rfl hd0_numberOf ⟨Nat.le_of_ble_eq_true rfl, Nat.le_of_ble_eq_true rfl⟩) (rPreV hK (hP.sub (ws' := (W0 cI aB aF aZ aK aM bh bF bZ bK bM)) [4, 5, 6, 7, 8] rfl) (ci := 0) (q := (RX0, TX0, 5)) rfl rfl) rfl rfl hl.1 rfl (lv_room (Nat.le_of_ble_eq_true rfl)) dX5_bookOf_57 ⟨(Nat.zero_le _), (Nat.zero_le _)⟩) ?_
          have hF := nt_some hF
          exact rret hF hx hb hr hlocks dX5_bookOf_60
        · have hF := ite_f c4 hF
          exact (nt_no hF (by decide)).elim
    · have hF := ite_f c2 hF
      exact (nt_no hF (by decide)).elim
abbrev rmN5_count : Room := { frames := 4, cells := 0, slots := 0, locals := 92 }
set_option maxHeartbeats 4000000 in
set_option maxRecDepth 100000 in
theorem N5_count (l : Launch) (D : va_G) (cI cZ cS cJ : ClassId) (aC aS aL aW aB aF aZ aK aM aO aT aY aV aU aR : Nat) (kQ : Nat → SA) (sr : Int32) (wm : Int32) (wW : Nat → Int32) (bh : Int32) (bF : Nat → Int32) (bZ : Nat → Int32) (bK : Nat → Int32) (bM : Nat → Int32) (ol : Int32) (oS : Nat → Int32) (kd : Int32) (kf : Nat → Int32) (kA : Nat → SA) (kV : Nat → SV) (kP : Nat → SV) (x1 : Int32) (r : Int32) (hF : f5_count sr wm wW bh bF bZ bK bM ol kd x1 = some (0, r)) : Met l yX5_count wsX5_count rmN5_count (rP D (gT cI cZ cS cJ) ((W5x cI aC aS aL aW aB aF aZ aK aM aO aT aY sr wm wW bh bF bZ bK bM ol oS) ++ (HB cI cZ cS aY aV aU aR kd kf kA kV kQ kP)) [.ref aC, .int x1]) (rQ (.int r)) 0 0 (fun _ => False) := by
  refine Met.ofW (cc := cX5_count) (maxL := 2) (ret := (some .int)) (by decide) rfl ?_
  intro p e s m args below meth c s₁ B hml hv
  obtain ⟨ha, hK, hP⟩ := hv
  have hx := B.exec
  have hb := B.bytes
  have hr := B.returns
  have hlocks := B.notSynchronized
  have hts : ∀ w ∈ lw_all, w.before args s = true := fun w h => atoms_spec (ws := wsX5_count) B.pre w (List.mem_cons_of_mem _ h)
  have hown : s.vm.findClass RX5 = some m.cls := findClass_of_methodNamed B.named
  have S : CallFix p m c cX5_count 2 s args lw_all RX5 := ⟨hx, hb, hml, hown, hts⟩
  have hl := lv_entry ([.ref aC, .int x1] : List Value) (n := 2) (Nat.le_of_ble_eq_true rfl)
  refine W.eq (g2 := F0 m 0 ((lg_sl ([.ref aC, .int x1] : List Value) ++ List.replicate (2 - (lg_sl ([.ref aC, .int x1] : List Value)).length) Slot.unset).toArray) []) (by rw [ha]; exact lg_entry_eq _ _ _) ?_
  generalize (lg_sl ([.ref aC, .int x1] : List Value) ++ List.replicate (2 - (lg_sl ([.ref aC, .int x1] : List Value)).length) Slot.unset).toArray = ls at hl ⊢
  have hl : lv_has ls 2 [(0, .ref aC), (1, .int x1)] := hl
  rw [f5_count] at hF
  show rW p l e wsX5_count rmN5_count s m args below meth c (.int r) (F0 m 0 ls [])
  refine lv_iload_n hx hb dX5_count_0 rfl (lv_at hl 1 rfl) ?_
  refine lv_if_lt (tgt := 10) hx hb dX5_count_1 (by decide) (fun c1 => ?_) (fun c1 => ?_)
  · have hF := ite_t c1 hF
    exact (nt_no hF (by decide)).elim
  · have hF := ite_f c1 hF
    refine lv_iload_n hx hb dX5_count_4 rfl (lv_at hl 1 rfl) ?_
    refine lv_bipush hx hb dX5_count_5 kc_bipush_17 ?_
    refine lv_icmp_le (tgt := 20) hx hb dX5_count_7 (by decide) (fun c2 => ?_) (fun c2 => ?_)
    · have hF := ite_t c2 hF
      refine lv_iload_n hx hb dX5_count_20 rfl (lv_at hl 1 rfl) ?_
      refine lv_bipush hx hb dX5_count_21 kc_bipush_12 ?_
      refine lv_icmp_lt (tgt := 41) hx hb dX5_count_23 (by decide) (fun c3 => ?_) (fun c3 => ?_)
      · have hF := ite_t c3 hF
        refine lv_iload_n hx hb dX5_count_41 rfl (lv_at hl 1 rfl) ?_
        by_cases c4 : x1 = (0 : Int32)
        · have hF := ite_t c4 hF
          refine lv_tableIn (tgt := 104) hx hb dX5_count_42 (by rw [c4]; decide) (by rw [c4]; decide) (by rw [c4]; rfl) (by decide) ?_
          refine lv_aload_n hx hb dX5_count_104 rfl (lv_at hl 0 rfl) ?_
          refine va_get (D := D) (ci := 5) (v := .ref aS) (C := RX5) (T := TX5) (N := 3) hx hb hts i_X5 hown hK.1 hP 0 rfl rfl 0 (by decide) (hts _ wd_139) (fun _ h9 => h9) rfl dX5_count_105 ?_
          refine va_get (D := D) (ci := 4) (v := .ref aB) (C := RX4) (T := TX4) (N := 3) hx hb hts i_X4 hown hK.1 hP 1 rfl rfl 1 (by decide) (hts _ wd_91) (fun _ h9 => h9) rfl dX5_count_108 ?_
          refine va_get (D := D) (ci := 0) (v := .int bh) (C := RX0) (T := TX0) (N := 5) hx hb hts i_X0 hown hK.1 hP 4 rfl rfl 4 (by decide) (hts _ wd_76) (fun _ h9 => h9) rfl dX5_count_111 ?_
          have hF := nt_some hF
          exact rret hF hx hb hr hlocks dX5_count_114
        have hF := ite_f c4 hF
        by_cases c5 : x1 = (1 : Int32)
        · have hF := ite_t c5 hF
          refine lv_tableIn (tgt := 150) hx hb dX5_count_42 (by rw [c5]; decide) (by rw [c5]; decide) (by rw [c5]; rfl) (by decide) ?_
          refine lv_aload_n hx hb dX5_count_150 rfl (lv_at hl 0 rfl) ?_
          refine va_get (D := D) (ci := 5) (v := .ref aS) (C := RX5) (T := TX5) (N := 3) hx hb hts i_X5 hown hK.1 hP 0 rfl rfl 0 (by decide) (hts _ wd_139) (fun _ h9 => h9) rfl dX5_count_151 ?_
          refine va_get (D := D) (ci := 4) (v := .ref aB) (C := RX4) (T := TX4) (N := 3) hx hb hts i_X4 hown hK.1 hP 1 rfl rfl 1 (by decide) (hts _ wd_91) (fun _ h9 => h9) rfl dX5_count_154 ?_
          refine lv_iload_n hx hb dX5_count_157 rfl (lv_at hl 1 rfl) ?_
          obtain ⟨q17, h16, hF⟩ := bd1_at hF
          refine rcall (va_runV (As := [.int x1]) (rest := []) S (K0_numberOfAll l D cI cZ cS cJ aB aF aZ aK aM bh bF bZ bK bM x1 q17 h16) (cwV 1 hts (gd_V wd_419 wd_420 wd_421 wd_25 wd_422) rfl rfl rfl hd0_numberOfAll ⟨Nat.le_of_ble_eq_true rfl, Nat.le_of_ble_eq_true rfl⟩) (rPreV hK (hP.sub (ws' := (W0 cI aB aF aZ aK aM bh bF bZ bK bM)) [4, 5, 6, 7, 8] rfl) (ci := 0) (q := (RX0, TX0, 5)) rfl rfl) rfl rfl hl.1 rfl (lv_room (Nat.le_of_ble_eq_true rfl)) dX5_count_158 ⟨(Nat.zero_le _), (Nat.zero_le _)⟩) ?_
          have hF := nt_some hF
          exact rret hF hx hb hr hlocks dX5_count_161
        have hF := ite_f c5 hF
        by_cases c6 : x1 = (2 : Int32)
        · have hF := ite_t c6 hF
          refine lv_tableIn (tgt := 150) hx hb dX5_count_42 (by rw [c6]; decide) (by rw [c6]; decide) (by rw [c6]; rfl) (by decide) ?_
          refine lv_aload_n hx hb dX5_count_150 rfl (lv_at hl 0 rfl) ?_
          refine va_get (D := D) (ci := 5) (v := .ref aS) (C := RX5) (T := TX5) (N := 3) hx hb hts i_X5 hown hK.1 hP 0 rfl rfl 0 (by decide) (hts _ wd_139) (fun _ h9 => h9) rfl dX5_count_151 ?_
          refine va_get (D := D) (ci := 4) (v := .ref aB) (C := RX4) (T := TX4) (N := 3) hx hb hts i_X4 hown hK.1 hP 1 rfl rfl 1 (by decide) (hts _ wd_91) (fun _ h9 => h9) rfl dX5_count_154 ?_
          refine lv_iload_n hx hb dX5_count_157 rfl (lv_at hl 1 rfl) ?_
          obtain ⟨q17, h16, hF⟩ := bd1_at hF
          refine rcall (va_runV (As := [.int x1]) (rest := []) S (K0_numberOfAll l D cI cZ cS cJ aB aF aZ aK aM bh bF bZ bK bM x1 q17 h16) (cwV 1 hts (gd_V wd_419 wd_420 wd_421 wd_25 wd_422) rfl rfl rfl hd0_numberOfAll ⟨Nat.le_of_ble_eq_true rfl, Nat.le_of_ble_eq_true rfl⟩) (rPreV hK (hP.sub (ws' := (W0 cI aB aF aZ aK aM bh bF bZ bK bM)) [4, 5, 6, 7, 8] rfl) (ci := 0) (q := (RX0, TX0, 5)) rfl rfl) rfl rfl hl.1 rfl (lv_room (Nat.le_of_ble_eq_true rfl)) dX5_count_158 ⟨(Nat.zero_le _), (Nat.zero_le _)⟩) ?_
          have hF := nt_some hF
          exact rret hF hx hb hr hlocks dX5_count_161
        have hF := ite_f c6 hF
        by_cases c7 : x1 = (3 : Int32)
        · have hF := ite_t c7 hF
          refine lv_tableIn (tgt := 150) hx hb dX5_count_42 (by rw [c7]; decide) (by rw [c7]; decide) (by rw [c7]; rfl) (by decide) ?_
          refine lv_aload_n hx hb dX5_count_150 rfl (lv_at hl 0 rfl) ?_
          refine va_get (D := D) (ci := 5) (v := .ref aS) (C := RX5) (T := TX5) (N := 3) hx hb hts i_X5 hown hK.1 hP 0 rfl rfl 0 (by decide) (hts _ wd_139) (fun _ h9 => h9) rfl dX5_count_151 ?_
          refine va_get (D := D) (ci := 4) (v := .ref aB) (C := RX4) (T := TX4) (N := 3) hx hb hts i_X4 hown hK.1 hP 1 rfl rfl 1 (by decide) (hts _ wd_91) (fun _ h9 => h9) rfl dX5_count_154 ?_
          refine lv_iload_n hx hb dX5_count_157 rfl (lv_at hl 1 rfl) ?_
          obtain ⟨q17, h16, hF⟩ := bd1_at hF
          refine rcall (va_runV (As := [.int x1]) (rest := []) S (K0_numberOfAll l D cI cZ cS cJ aB aF aZ aK aM bh bF bZ bK bM x1 q17 h16) (cwV 1 hts (gd_V wd_419 wd_420 wd_421 wd_25 wd_422) rfl rfl rfl hd0_numberOfAll ⟨Nat.le_of_ble_eq_true rfl, Nat.le_of_ble_eq_true rfl⟩) (rPreV hK (hP.sub (ws' := (W0 cI aB aF aZ aK aM bh bF bZ bK bM)) [4, 5, 6, 7, 8] rfl) (ci := 0) (q := (RX0, TX0, 5)) rfl rfl) rfl rfl hl.1 rfl (lv_room (Nat.le_of_ble_eq_true rfl)) dX5_count_158 ⟨(Nat.zero_le _), (Nat.zero_le _)⟩) ?_
          have hF := nt_some hF
          exact rret hF hx hb hr hlocks dX5_count_161
        have hF := ite_f c7 hF
        by_cases c8 : x1 = (4 : Int32)
        · have hF := ite_t c8 hF
          refine lv_tableIn (tgt := 150) hx hb dX5_count_42 (by rw [c8]; decide) (by rw [c8]; decide) (by rw [c8]; rfl) (by decide) ?_
          refine lv_aload_n hx hb dX5_count_150 rfl (lv_at hl 0 rfl) ?_
          refine va_get (D := D) (ci := 5) (v := .ref aS) (C := RX5) (T := TX5) (N := 3) hx hb hts i_X5 hown hK.1 hP 0 rfl rfl 0 (by decide) (hts _ wd_139) (fun _ h9 => h9) rfl dX5_count_151 ?_
          refine va_get (D := D) (ci := 4) (v := .ref aB) (C := RX4) (T := TX4) (N := 3) hx hb hts i_X4 hown hK.1 hP 1 rfl rfl 1 (by decide) (hts _ wd_91) (fun _ h9 => h9) rfl dX5_count_154 ?_
          refine lv_iload_n hx hb dX5_count_157 rfl (lv_at hl 1 rfl) ?_
          obtain ⟨q17, h16, hF⟩ := bd1_at hF
          refine rcall (va_runV (As := [.int x1]) (rest := []) S (K0_numberOfAll l D cI cZ cS cJ aB aF aZ aK aM bh bF bZ bK bM x1 q17 h16) (cwV 1 hts (gd_V wd_419 wd_420 wd_421 wd_25 wd_422) rfl rfl rfl hd0_numberOfAll ⟨Nat.le_of_ble_eq_true rfl, Nat.le_of_ble_eq_true rfl⟩) (rPreV hK (hP.sub (ws' := (W0 cI aB aF aZ aK aM bh bF bZ bK bM)) [4, 5, 6, 7, 8] rfl) (ci := 0) (q := (RX0, TX0, 5)) rfl rfl) rfl rfl hl.1 rfl (lv_room (Nat.le_of_ble_eq_true rfl)) dX5_count_158 ⟨(Nat.zero_le _), (Nat.zero_le _)⟩) ?_
          have hF := nt_some hF
          exact rret hF hx hb hr hlocks dX5_count_161
        have hF := ite_f c8 hF
        by_cases c9 : x1 = (5 : Int32)
        · have hF := ite_t c9 hF
          refine lv_tableIn (tgt := 150) hx hb dX5_count_42 (by rw [c9]; decide) (by rw [c9]; decide) (by rw [c9]; rfl) (by decide) ?_
          refine lv_aload_n hx hb dX5_count_150 rfl (lv_at hl 0 rfl) ?_
          refine va_get (D := D) (ci := 5) (v := .ref aS) (C := RX5) (T := TX5) (N := 3) hx hb hts i_X5 hown hK.1 hP 0 rfl rfl 0 (by decide) (hts _ wd_139) (fun _ h9 => h9) rfl dX5_count_151 ?_
          refine va_get (D := D) (ci := 4) (v := .ref aB) (C := RX4) (T := TX4) (N := 3) hx hb hts i_X4 hown hK.1 hP 1 rfl rfl 1 (by decide) (hts _ wd_91) (fun _ h9 => h9) rfl dX5_count_154 ?_
          refine lv_iload_n hx hb dX5_count_157 rfl (lv_at hl 1 rfl) ?_
          obtain ⟨q17, h16, hF⟩ := bd1_at hF
          refine rcall (va_runV (As := [.int x1]) (rest := []) S (K0_numberOfAll l D cI cZ cS cJ aB aF aZ aK aM bh bF bZ bK bM x1 q17 h16) (cwV 1 hts (gd_V wd_419 wd_420 wd_421 wd_25 wd_422) rfl rfl rfl hd0_numberOfAll ⟨Nat.le_of_ble_eq_true rfl, Nat.le_of_ble_eq_true rfl⟩) (rPreV hK (hP.sub (ws' := (W0 cI aB aF aZ aK aM bh bF bZ bK bM)) [4, 5, 6, 7, 8] rfl) (ci := 0) (q := (RX0, TX0, 5)) rfl rfl) rfl rfl hl.1 rfl (lv_room (Nat.le_of_ble_eq_true rfl)) dX5_count_158 ⟨(Nat.zero_le _), (Nat.zero_le _)⟩) ?_
          have hF := nt_some hF
          exact rret hF hx hb hr hlocks dX5_count_161
        have hF := ite_f c9 hF
        by_cases c10 : x1 = (6 : Int32)
        · have hF := ite_t c10 hF
          refine lv_tableIn (tgt := 150) hx hb dX5_count_42 (by rw [c10]; decide) (by rw [c10]; decide) (by rw [c10]; rfl) (by decide) ?_
          refine lv_aload_n hx hb dX5_count_150 rfl (lv_at hl 0 rfl) ?_
          refine va_get (D := D) (ci := 5) (v := .ref aS) (C := RX5) (T := TX5) (N := 3) hx hb hts i_X5 hown hK.1 hP 0 rfl rfl 0 (by decide) (hts _ wd_139) (fun _ h9 => h9) rfl dX5_count_151 ?_
          refine va_get (D := D) (ci := 4) (v := .ref aB) (C := RX4) (T := TX4) (N := 3) hx hb hts i_X4 hown hK.1 hP 1 rfl rfl 1 (by decide) (hts _ wd_91) (fun _ h9 => h9) rfl dX5_count_154 ?_
          refine lv_iload_n hx hb dX5_count_157 rfl (lv_at hl 1 rfl) ?_
          obtain ⟨q17, h16, hF⟩ := bd1_at hF
          refine rcall (va_runV (As := [.int x1]) (rest := []) S (K0_numberOfAll l D cI cZ cS cJ aB aF aZ aK aM bh bF bZ bK bM x1 q17 h16) (cwV 1 hts (gd_V wd_419 wd_420 wd_421 wd_25 wd_422) rfl rfl rfl hd0_numberOfAll ⟨Nat.le_of_ble_eq_true rfl, Nat.le_of_ble_eq_true rfl⟩) (rPreV hK (hP.sub (ws' := (W0 cI aB aF aZ aK aM bh bF bZ bK bM)) [4, 5, 6, 7, 8] rfl) (ci := 0) (q := (RX0, TX0, 5)) rfl rfl) rfl rfl hl.1 rfl (lv_room (Nat.le_of_ble_eq_true rfl)) dX5_count_158 ⟨(Nat.zero_le _), (Nat.zero_le _)⟩) ?_
          have hF := nt_some hF
          exact rret hF hx hb hr hlocks dX5_count_161
        have hF := ite_f c10 hF
        by_cases c11 : x1 = (7 : Int32)
        · have hF := ite_t c11 hF
          refine lv_tableIn (tgt := 150) hx hb dX5_count_42 (by rw [c11]; decide) (by rw [c11]; decide) (by rw [c11]; rfl) (by decide) ?_
          refine lv_aload_n hx hb dX5_count_150 rfl (lv_at hl 0 rfl) ?_
          refine va_get (D := D) (ci := 5) (v := .ref aS) (C := RX5) (T := TX5) (N := 3) hx hb hts i_X5 hown hK.1 hP 0 rfl rfl 0 (by decide) (hts _ wd_139) (fun _ h9 => h9) rfl dX5_count_151 ?_
          refine va_get (D := D) (ci := 4) (v := .ref aB) (C := RX4) (T := TX4) (N := 3) hx hb hts i_X4 hown hK.1 hP 1 rfl rfl 1 (by decide) (hts _ wd_91) (fun _ h9 => h9) rfl dX5_count_154 ?_
          refine lv_iload_n hx hb dX5_count_157 rfl (lv_at hl 1 rfl) ?_
          obtain ⟨q17, h16, hF⟩ := bd1_at hF
          refine rcall (va_runV (As := [.int x1]) (rest := []) S (K0_numberOfAll l D cI cZ cS cJ aB aF aZ aK aM bh bF bZ bK bM x1 q17 h16) (cwV 1 hts (gd_V wd_419 wd_420 wd_421 wd_25 wd_422) rfl rfl rfl hd0_numberOfAll ⟨Nat.le_of_ble_eq_true rfl, Nat.le_of_ble_eq_true rfl⟩) (rPreV hK (hP.sub (ws' := (W0 cI aB aF aZ aK aM bh bF bZ bK bM)) [4, 5, 6, 7, 8] rfl) (ci := 0) (q := (RX0, TX0, 5)) rfl rfl) rfl rfl hl.1 rfl (lv_room (Nat.le_of_ble_eq_true rfl)) dX5_count_158 ⟨(Nat.zero_le _), (Nat.zero_le _)⟩) ?_
          have hF := nt_some hF
          exact rret hF hx hb hr hlocks dX5_count_161
        have hF := ite_f c11 hF
        by_cases c12 : x1 = (8 : Int32)
        · have hF := ite_t c12 hF
          refine lv_tableIn (tgt := 115) hx hb dX5_count_42 (by rw [c12]; decide) (by rw [c12]; decide) (by rw [c12]; rfl) (by decide) ?_
          refine lv_aload_n hx hb dX5_count_115 rfl (lv_at hl 0 rfl) ?_
          refine va_get (D := D) (ci := 5) (v := .ref aS) (C := RX5) (T := TX5) (N := 3) hx hb hts i_X5 hown hK.1 hP 0 rfl rfl 0 (by decide) (hts _ wd_139) (fun _ h9 => h9) rfl dX5_count_116 ?_
          refine va_get (D := D) (ci := 4) (v := .int sr) (C := RX4) (T := TX4) (N := 3) hx hb hts i_X4 hown hK.1 hP 1 rfl rfl 2 (by decide) (hts _ wd_93) (fun _ h9 => h9) rfl dX5_count_119 ?_
          have hF := nt_some hF
          exact rret hF hx hb hr hlocks dX5_count_122
        have hF := ite_f c12 hF
        by_cases c13 : x1 = (9 : Int32)
        · have hF := ite_t c13 hF
          refine lv_tableIn (tgt := 123) hx hb dX5_count_42 (by rw [c13]; decide) (by rw [c13]; decide) (by rw [c13]; rfl) (by decide) ?_
          refine lv_aload_n hx hb dX5_count_123 rfl (lv_at hl 0 rfl) ?_
          refine va_get (D := D) (ci := 5) (v := .ref aS) (C := RX5) (T := TX5) (N := 3) hx hb hts i_X5 hown hK.1 hP 0 rfl rfl 0 (by decide) (hts _ wd_139) (fun _ h9 => h9) rfl dX5_count_124 ?_
          refine va_get (D := D) (ci := 4) (v := .ref aL) (C := RX4) (T := TX4) (N := 3) hx hb hts i_X4 hown hK.1 hP 1 rfl rfl 0 (by decide) (hts _ wd_89) (fun _ h9 => h9) rfl dX5_count_127 ?_
          refine va_get (D := D) (ci := 2) (v := .int wm) (C := RX2) (T := TX2) (N := 2) hx hb hts i_X2 hown hK.1 hP 2 rfl rfl 1 (by decide) (hts _ wd_57) (fun _ h9 => h9) rfl dX5_count_130 ?_
          have hF := nt_some hF
          exact rret hF hx hb hr hlocks dX5_count_133
        have hF := ite_f c13 hF
        by_cases c14 : x1 = (10 : Int32)
        · have hF := ite_t c14 hF
          refine lv_tableIn (tgt := 134) hx hb dX5_count_42 (by rw [c14]; decide) (by rw [c14]; decide) (by rw [c14]; rfl) (by decide) ?_
          refine lv_aload_n hx hb dX5_count_134 rfl (lv_at hl 0 rfl) ?_
          refine va_get (D := D) (ci := 5) (v := .ref aY) (C := RX5) (T := TX5) (N := 3) hx hb hts i_X5 hown hK.1 hP 0 rfl rfl 1 (by decide) (hts _ wd_140) (fun _ h9 => h9) rfl dX5_count_135 ?_
          refine va_get (D := D) (ci := 1) (v := .int kd) (C := RX1) (T := TX1) (N := 4) hx hb hts i_X1 hown hK.1 hP 11 rfl rfl 3 (by decide) (hts _ wd_114) (fun _ h9 => h9) rfl dX5_count_138 ?_
          have hF := nt_some hF
          exact rret hF hx hb hr hlocks dX5_count_141
        have hF := ite_f c14 hF
        by_cases c15 : x1 = (11 : Int32)
        · have hF := ite_t c15 hF
          refine lv_tableIn (tgt := 142) hx hb dX5_count_42 (by rw [c15]; decide) (by rw [c15]; decide) (by rw [c15]; rfl) (by decide) ?_
          refine lv_aload_n hx hb dX5_count_142 rfl (lv_at hl 0 rfl) ?_
          refine va_get (D := D) (ci := 5) (v := .ref aO) (C := RX5) (T := TX5) (N := 3) hx hb hts i_X5 hown hK.1 hP 0 rfl rfl 2 (by decide) (hts _ wd_141) (fun _ h9 => h9) rfl dX5_count_143 ?_
          refine va_get (D := D) (ci := 3) (v := .int ol) (C := RX3) (T := TX3) (N := 2) hx hb hts i_X3 hown hK.1 hP 9 rfl rfl 1 (by decide) (hts _ wd_133) (fun _ h9 => h9) rfl dX5_count_146 ?_
          have hF := nt_some hF
          exact rret hF hx hb hr hlocks dX5_count_149
        have hF := ite_f c15 hF
        refine lv_tableOut (tgt := 150) hx hb dX5_count_42 (by have q0 := ne_ti c4 (show (0 : Int32).toInt = 0 by decide); have q1 := ne_ti c5 (show (1 : Int32).toInt = 1 by decide); have q2 := ne_ti c6 (show (2 : Int32).toInt = 2 by decide); have q3 := ne_ti c7 (show (3 : Int32).toInt = 3 by decide); have q4 := ne_ti c8 (show (4 : Int32).toInt = 4 by decide); have q5 := ne_ti c9 (show (5 : Int32).toInt = 5 by decide); have q6 := ne_ti c10 (show (6 : Int32).toInt = 6 by decide); have q7 := ne_ti c11 (show (7 : Int32).toInt = 7 by decide); have q8 := ne_ti c12 (show (8 : Int32).toInt = 8 by decide); have q9 := ne_ti c13 (show (9 : Int32).toInt = 9 by decide); have q10 := ne_ti c14 (show (10 : Int32).toInt = 10 by decide); have q11 := ne_ti c15 (show (11 : Int32).toInt = 11 by decide); omega) (by decide) ?_
        refine lv_aload_n hx hb dX5_count_150 rfl (lv_at hl 0 rfl) ?_
        refine va_get (D := D) (ci := 5) (v := .ref aS) (C := RX5) (T := TX5) (N := 3) hx hb hts i_X5 hown hK.1 hP 0 rfl rfl 0 (by decide) (hts _ wd_139) (fun _ h9 => h9) rfl dX5_count_151 ?_
        refine va_get (D := D) (ci := 4) (v := .ref aB) (C := RX4) (T := TX4) (N := 3) hx hb hts i_X4 hown hK.1 hP 1 rfl rfl 1 (by decide) (hts _ wd_91) (fun _ h9 => h9) rfl dX5_count_154 ?_
        refine lv_iload_n hx hb dX5_count_157 rfl (lv_at hl 1 rfl) ?_
        obtain ⟨q17, h16, hF⟩ := bd1_at hF
        refine rcall (va_runV (As := [.int x1]) (rest := []) S (K0_numberOfAll l D cI cZ cS cJ aB aF aZ aK aM bh bF bZ bK bM x1 q17 h16) (cwV 1 hts (gd_V wd_419 wd_420 wd_421 wd_25 wd_422) rfl rfl rfl hd0_numberOfAll ⟨Nat.le_of_ble_eq_true rfl, Nat.le_of_ble_eq_true rfl⟩) (rPreV hK (hP.sub (ws' := (W0 cI aB aF aZ aK aM bh bF bZ bK bM)) [4, 5, 6, 7, 8] rfl) (ci := 0) (q := (RX0, TX0, 5)) rfl rfl) rfl rfl hl.1 rfl (lv_room (Nat.le_of_ble_eq_true rfl)) dX5_count_158 ⟨(Nat.zero_le _), (Nat.zero_le _)⟩) ?_
        have hF := nt_some hF
        exact rret hF hx hb hr hlocks dX5_count_161
      · have hF := ite_f c3 hF
        refine lv_aload_n hx hb dX5_count_26 rfl (lv_at hl 0 rfl) ?_
        refine va_get (D := D) (ci := 5) (v := .ref aS) (C := RX5) (T := TX5) (N := 3) hx hb hts i_X5 hown hK.1 hP 0 rfl rfl 0 (by decide) (hts _ wd_139) (fun _ h9 => h9) rfl dX5_count_27 ?_
        refine va_get (D := D) (ci := 4) (v := .ref aL) (C := RX4) (T := TX4) (N := 3) hx hb hts i_X4 hown hK.1 hP 1 rfl rfl 0 (by decide) (hts _ wd_89) (fun _ h9 => h9) rfl dX5_count_30 ?_
        refine lv_iload_n hx hb dX5_count_33 rfl (lv_at hl 1 rfl) ?_
        refine lv_bipush hx hb dX5_count_34 kc_bipush_12 ?_
        refine lv_isub hx hb dX5_count_36 ?_
        obtain ⟨q19, h18, hF⟩ := bd1_at hF
        refine rcall (va_runV (As := [.int (x1 - (12 : Int32))]) (rest := []) S (K2_weightAt l D cI cZ cS cJ aL aW wm wW (x1 - (12 : Int32)) q19 h18) (cwV 1 hts (gd_V wd_418 wd_336 wd_337 wd_24 wd_338) rfl rfl rfl hd2_weightAt ⟨Nat.le_of_ble_eq_true rfl, Nat.le_of_ble_eq_true rfl⟩) (rPreV hK (hP.sub (ws' := (W2 cI aL aW wm wW)) [2, 3] rfl) (ci := 2) (q := (RX2, TX2, 2)) rfl rfl) rfl rfl hl.1 rfl (lv_room (Nat.le_of_ble_eq_true rfl)) dX5_count_37 ⟨(Nat.zero_le _), (Nat.zero_le _)⟩) ?_
        have hF := nt_some hF
        exact rret hF hx hb hr hlocks dX5_count_40
    · have hF := ite_f c2 hF
      exact (nt_no hF (by decide)).elim
abbrev rmN5_ranked : Room := { frames := 4, cells := 0, slots := 0, locals := 91 }
set_option maxHeartbeats 4000000 in
set_option maxRecDepth 100000 in
theorem N5_ranked (l : Launch) (D : va_G) (cI cZ cS cJ : ClassId) (aC aS aL aW aB aF aZ aK aM aO aT aY aV aU aR : Nat) (kQ : Nat → SA) (sr : Int32) (wm : Int32) (wW : Nat → Int32) (bh : Int32) (bF : Nat → Int32) (bZ : Nat → Int32) (bK : Nat → Int32) (bM : Nat → Int32) (ol : Int32) (oS : Nat → Int32) (kd : Int32) (kf : Nat → Int32) (kA : Nat → SA) (kV : Nat → SV) (kP : Nat → SV) (x1 : Int32) (r : Int32) (hF : f5_ranked bh bF bZ x1 = some (0, r)) : Met l yX5_ranked wsX5_ranked rmN5_ranked (rP D (gT cI cZ cS cJ) ((W5x cI aC aS aL aW aB aF aZ aK aM aO aT aY sr wm wW bh bF bZ bK bM ol oS) ++ (HB cI cZ cS aY aV aU aR kd kf kA kV kQ kP)) [.ref aC, .int x1]) (rQ (.int r)) 0 0 (fun _ => False) := by
  refine Met.ofW (cc := cX5_ranked) (maxL := 2) (ret := (some .int)) (by decide) rfl ?_
  intro p e s m args below meth c s₁ B hml hv
  obtain ⟨ha, hK, hP⟩ := hv
  have hx := B.exec
  have hb := B.bytes
  have hr := B.returns
  have hlocks := B.notSynchronized
  have hts : ∀ w ∈ lw_all, w.before args s = true := fun w h => atoms_spec (ws := wsX5_ranked) B.pre w (List.mem_cons_of_mem _ h)
  have hown : s.vm.findClass RX5 = some m.cls := findClass_of_methodNamed B.named
  have S : CallFix p m c cX5_ranked 2 s args lw_all RX5 := ⟨hx, hb, hml, hown, hts⟩
  have hl := lv_entry ([.ref aC, .int x1] : List Value) (n := 2) (Nat.le_of_ble_eq_true rfl)
  refine W.eq (g2 := F0 m 0 ((lg_sl ([.ref aC, .int x1] : List Value) ++ List.replicate (2 - (lg_sl ([.ref aC, .int x1] : List Value)).length) Slot.unset).toArray) []) (by rw [ha]; exact lg_entry_eq _ _ _) ?_
  generalize (lg_sl ([.ref aC, .int x1] : List Value) ++ List.replicate (2 - (lg_sl ([.ref aC, .int x1] : List Value)).length) Slot.unset).toArray = ls at hl ⊢
  have hl : lv_has ls 2 [(0, .ref aC), (1, .int x1)] := hl
  rw [f5_ranked] at hF
  show rW p l e wsX5_ranked rmN5_ranked s m args below meth c (.int r) (F0 m 0 ls [])
  refine lv_iload_n hx hb dX5_ranked_0 rfl (lv_at hl 1 rfl) ?_
  refine lv_if_ge (tgt := 14) hx hb dX5_ranked_1 (by decide) (fun c1 => ?_) (fun c1 => ?_)
  · have hF := ite_t c1 hF
    refine lv_aload_n hx hb dX5_ranked_14 rfl (lv_at hl 0 rfl) ?_
    refine va_get (D := D) (ci := 5) (v := .ref aS) (C := RX5) (T := TX5) (N := 3) hx hb hts i_X5 hown hK.1 hP 0 rfl rfl 0 (by decide) (hts _ wd_139) (fun _ h9 => h9) rfl dX5_ranked_15 ?_
    refine va_get (D := D) (ci := 4) (v := .ref aB) (C := RX4) (T := TX4) (N := 3) hx hb hts i_X4 hown hK.1 hP 1 rfl rfl 1 (by decide) (hts _ wd_91) (fun _ h9 => h9) rfl dX5_ranked_18 ?_
    refine lv_iload_n hx hb dX5_ranked_21 rfl (lv_at hl 1 rfl) ?_
    obtain ⟨q3, h2, hF⟩ := bd1_at hF
    refine rcall (va_runV (As := [.int x1]) (rest := []) S (K0_serialOfRank l D cI cZ cS cJ aB aF aZ aK aM bh bF bZ bK bM x1 q3 h2) (cwV 1 hts (gd_V wd_595 wd_596 wd_597 wd_25 wd_598) rfl rfl rfl hd0_serialOfRank ⟨Nat.le_of_ble_eq_true rfl, Nat.le_of_ble_eq_true rfl⟩) (rPreV hK (hP.sub (ws' := (W0 cI aB aF aZ aK aM bh bF bZ bK bM)) [4, 5, 6, 7, 8] rfl) (ci := 0) (q := (RX0, TX0, 5)) rfl rfl) rfl rfl hl.1 rfl (lv_room (Nat.le_of_ble_eq_true rfl)) dX5_ranked_22 ⟨(Nat.zero_le _), (Nat.zero_le _)⟩) ?_
    have hF := nt_some hF
    exact rret hF hx hb hr hlocks dX5_ranked_25
  · have hF := ite_f c1 hF
    exact (nt_no hF (by decide)).elim
abbrev rmN5_missed : Room := { frames := 3, cells := 0, slots := 0, locals := 70 }
set_option maxHeartbeats 4000000 in
set_option maxRecDepth 100000 in
theorem N5_missed (l : Launch) (D : va_G) (cI cZ cS cJ : ClassId) (aC aS aL aW aB aF aZ aK aM aO aT aY aV aU aR : Nat) (kQ : Nat → SA) (sr : Int32) (wm : Int32) (wW : Nat → Int32) (bh : Int32) (bF : Nat → Int32) (bZ : Nat → Int32) (bK : Nat → Int32) (bM : Nat → Int32) (ol : Int32) (oS : Nat → Int32) (kd : Int32) (kf : Nat → Int32) (kA : Nat → SA) (kV : Nat → SV) (kP : Nat → SV) (x1 : Int32) (x2 : Int32) (r : Int32) (hF : f5_missed wm wW x1 x2 = some (0, r)) : Met l yX5_missed wsX5_missed rmN5_missed (rP D (gT cI cZ cS cJ) ((W5x cI aC aS aL aW aB aF aZ aK aM aO aT aY sr wm wW bh bF bZ bK bM ol oS) ++ (HB cI cZ cS aY aV aU aR kd kf kA kV kQ kP)) [.ref aC, .int x1, .int x2]) (rQ (.int r)) 0 0 (fun _ => False) := by
  refine Met.ofW (cc := cX5_missed) (maxL := 3) (ret := (some .int)) (by decide) rfl ?_
  intro p e s m args below meth c s₁ B hml hv
  obtain ⟨ha, hK, hP⟩ := hv
  have hx := B.exec
  have hb := B.bytes
  have hr := B.returns
  have hlocks := B.notSynchronized
  have hts : ∀ w ∈ lw_all, w.before args s = true := fun w h => atoms_spec (ws := wsX5_missed) B.pre w (List.mem_cons_of_mem _ h)
  have hown : s.vm.findClass RX5 = some m.cls := findClass_of_methodNamed B.named
  have S : CallFix p m c cX5_missed 3 s args lw_all RX5 := ⟨hx, hb, hml, hown, hts⟩
  have hl := lv_entry ([.ref aC, .int x1, .int x2] : List Value) (n := 3) (Nat.le_of_ble_eq_true rfl)
  refine W.eq (g2 := F0 m 0 ((lg_sl ([.ref aC, .int x1, .int x2] : List Value) ++ List.replicate (3 - (lg_sl ([.ref aC, .int x1, .int x2] : List Value)).length) Slot.unset).toArray) []) (by rw [ha]; exact lg_entry_eq _ _ _) ?_
  generalize (lg_sl ([.ref aC, .int x1, .int x2] : List Value) ++ List.replicate (3 - (lg_sl ([.ref aC, .int x1, .int x2] : List Value)).length) Slot.unset).toArray = ls at hl ⊢
  have hl : lv_has ls 3 [(0, .ref aC), (1, .int x1), (2, .int x2)] := hl
  rw [f5_missed] at hF
  show rW p l e wsX5_missed rmN5_missed s m args below meth c (.int r) (F0 m 0 ls [])
  refine lv_iload_n hx hb dX5_missed_0 rfl (lv_at hl 1 rfl) ?_
  obtain ⟨k2, h1, hF⟩ := bd1_at hF
  by_cases c11 : k2 = 0
  · subst c11
    have hF := ite_t rfl hF
    refine rcall0 (va_runS (As := [.int x1]) (rest := []) S (N5_throwIfNoSerial l D cI cZ cS cJ x1 h1) (va_cwS 1 hts (gd_S wd_347 wd_348 wd_22 wd_349) rfl rfl rfl hdn5_throwIfNoSerial ⟨Nat.le_of_ble_eq_true rfl, Nat.le_of_ble_eq_true rfl⟩) (rPreS hK (hP.sub (ws' := ([] : va_W)) [] rfl)) rfl rfl hl.1 rfl (lv_room (Nat.le_of_ble_eq_true rfl)) dX5_missed_1 ⟨(Nat.zero_le _), (Nat.zero_le _)⟩) ?_
    refine lv_iload_n hx hb dX5_missed_4 rfl (lv_at hl 2 rfl) ?_
    obtain ⟨k4, h3, hF⟩ := bd1_at hF
    by_cases c12 : k4 = 0
    · subst c12
      have hF := ite_t rfl hF
      refine rcall0 (va_runS (As := [.int x2]) (rest := []) S (N5_throwIfNoSlipKind l D cI cZ cS cJ x2 h3) (va_cwS 1 hts (gd_S wd_611 wd_612 wd_22 wd_613) rfl rfl rfl hdn5_throwIfNoSlipKind ⟨Nat.le_of_ble_eq_true rfl, Nat.le_of_ble_eq_true rfl⟩) (rPreS hK (hP.sub (ws' := ([] : va_W)) [] rfl)) rfl rfl hl.1 rfl (lv_room (Nat.le_of_ble_eq_true rfl)) dX5_missed_5 ⟨(Nat.zero_le _), (Nat.zero_le _)⟩) ?_
      refine lv_iload_n hx hb dX5_missed_8 rfl (lv_at hl 2 rfl) ?_
      by_cases c5 : x2 = (0 : Int32)
      · have hF := ite_t c5 hF
        refine lv_lookup (tgt := 36) (off := 27) hx hb dX5_missed_9 (by decide) (by rw [c5]; decide) (by decide) ?_
        refine lv_aload_n hx hb dX5_missed_36 rfl (lv_at hl 0 rfl) ?_
        refine va_get (D := D) (ci := 5) (v := .ref aS) (C := RX5) (T := TX5) (N := 3) hx hb hts i_X5 hown hK.1 hP 0 rfl rfl 0 (by decide) (hts _ wd_139) (fun _ h9 => h9) rfl dX5_missed_37 ?_
        refine va_get (D := D) (ci := 4) (v := .ref aL) (C := RX4) (T := TX4) (N := 3) hx hb hts i_X4 hown hK.1 hP 1 rfl rfl 0 (by decide) (hts _ wd_89) (fun _ h9 => h9) rfl dX5_missed_40 ?_
        refine lv_iload_n hx hb dX5_missed_43 rfl (lv_at hl 1 rfl) ?_
        obtain ⟨q7, h6, hF⟩ := bd1_at hF
        refine rcall (va_runV (As := [.int x1]) (rest := []) S (K2_hiddenMisreadings l D cI cZ cS cJ aL aW wm wW x1 q7 h6) (cwV 1 hts (gd_V wd_615 wd_616 wd_617 wd_24 wd_618) rfl rfl rfl hd2_hiddenMisreadings ⟨Nat.le_of_ble_eq_true rfl, Nat.le_of_ble_eq_true rfl⟩) (rPreV hK (hP.sub (ws' := (W2 cI aL aW wm wW)) [2, 3] rfl) (ci := 2) (q := (RX2, TX2, 2)) rfl rfl) rfl rfl hl.1 rfl (lv_room (Nat.le_of_ble_eq_true rfl)) dX5_missed_44 ⟨(Nat.zero_le _), (Nat.zero_le _)⟩) ?_
        have hF := nt_some hF
        exact rret hF hx hb hr hlocks dX5_missed_47
      have hF := ite_f c5 hF
      by_cases c8 : x2 = (1 : Int32)
      · have hF := ite_t c8 hF
        refine lv_lookup (tgt := 48) (off := 39) hx hb dX5_missed_9 (by decide) (by rw [c8]; decide) (by decide) ?_
        refine lv_aload_n hx hb dX5_missed_48 rfl (lv_at hl 0 rfl) ?_
        refine va_get (D := D) (ci := 5) (v := .ref aS) (C := RX5) (T := TX5) (N := 3) hx hb hts i_X5 hown hK.1 hP 0 rfl rfl 0 (by decide) (hts _ wd_139) (fun _ h9 => h9) rfl dX5_missed_49 ?_
        refine va_get (D := D) (ci := 4) (v := .ref aL) (C := RX4) (T := TX4) (N := 3) hx hb hts i_X4 hown hK.1 hP 1 rfl rfl 0 (by decide) (hts _ wd_89) (fun _ h9 => h9) rfl dX5_missed_52 ?_
        refine lv_iload_n hx hb dX5_missed_55 rfl (lv_at hl 1 rfl) ?_
        obtain ⟨q10, h9, hF⟩ := bd1_at hF
        refine rcall (va_runV (As := [.int x1]) (rest := []) S (K2_hiddenSwaps l D cI cZ cS cJ aL aW wm wW x1 q10 h9) (cwV 1 hts (gd_V wd_630 wd_631 wd_632 wd_24 wd_633) rfl rfl rfl hd2_hiddenSwaps ⟨Nat.le_of_ble_eq_true rfl, Nat.le_of_ble_eq_true rfl⟩) (rPreV hK (hP.sub (ws' := (W2 cI aL aW wm wW)) [2, 3] rfl) (ci := 2) (q := (RX2, TX2, 2)) rfl rfl) rfl rfl hl.1 rfl (lv_room (Nat.le_of_ble_eq_true rfl)) dX5_missed_56 ⟨(Nat.zero_le _), (Nat.zero_le _)⟩) ?_
        have hF := nt_some hF
        exact rret hF hx hb hr hlocks dX5_missed_59
      have hF := ite_f c8 hF
      refine lv_lookup (tgt := 60) (off := 51) hx hb dX5_missed_9 (by decide) (by show Op.lookupswitch.offset [(0, 27), (1, 39)] (51) _ = _; rw [lv_osw c5 (show (0 : Int32).toInt = 0 by decide), lv_osw c8 (show (1 : Int32).toInt = 1 by decide)]; rfl) (by decide) ?_
      refine lv_iconst hx hb dX5_missed_60 kc_iconst_0 ?_
      have hF := nt_some hF
      exact rret hF hx hb hr hlocks dX5_missed_61
    · have hF := ite_f c12 hF
      exact (nt_no hF c12).elim
  · have hF := ite_f c11 hF
    exact (nt_no hF c11).elim
abbrev rmN5_weak : Room := { frames := 3, cells := 0, slots := 0, locals := 67 }
set_option maxHeartbeats 4000000 in
set_option maxRecDepth 100000 in
theorem N5_weak (l : Launch) (D : va_G) (cI cZ cS cJ : ClassId) (aC aS aL aW aB aF aZ aK aM aO aT aY aV aU aR : Nat) (kQ : Nat → SA) (sr : Int32) (wm : Int32) (wW : Nat → Int32) (bh : Int32) (bF : Nat → Int32) (bZ : Nat → Int32) (bK : Nat → Int32) (bM : Nat → Int32) (ol : Int32) (oS : Nat → Int32) (kd : Int32) (kf : Nat → Int32) (kA : Nat → SA) (kV : Nat → SV) (kP : Nat → SV) (x1 : Int32) (x2 : Int32) (x3 : Int32) (r : Int32) (hF : f5_weak wm wW x1 x2 x3 = some (0, r)) : Met l yX5_weak wsX5_weak rmN5_weak (rP D (gT cI cZ cS cJ) ((W5x cI aC aS aL aW aB aF aZ aK aM aO aT aY sr wm wW bh bF bZ bK bM ol oS) ++ (HB cI cZ cS aY aV aU aR kd kf kA kV kQ kP)) [.ref aC, .int x1, .int x2, .int x3]) (rQ (.int r)) 0 0 (fun _ => False) := by
  refine Met.ofW (cc := cX5_weak) (maxL := 5) (ret := (some .int)) (by decide) rfl ?_
  intro p e s m args below meth c s₁ B hml hv
  obtain ⟨ha, hK, hP⟩ := hv
  have hx := B.exec
  have hb := B.bytes
  have hr := B.returns
  have hlocks := B.notSynchronized
  have hts : ∀ w ∈ lw_all, w.before args s = true := fun w h => atoms_spec (ws := wsX5_weak) B.pre w (List.mem_cons_of_mem _ h)
  have hown : s.vm.findClass RX5 = some m.cls := findClass_of_methodNamed B.named
  have S : CallFix p m c cX5_weak 5 s args lw_all RX5 := ⟨hx, hb, hml, hown, hts⟩
  have hl := lv_entry ([.ref aC, .int x1, .int x2, .int x3] : List Value) (n := 5) (Nat.le_of_ble_eq_true rfl)
  refine W.eq (g2 := F0 m 0 ((lg_sl ([.ref aC, .int x1, .int x2, .int x3] : List Value) ++ List.replicate (5 - (lg_sl ([.ref aC, .int x1, .int x2, .int x3] : List Value)).length) Slot.unset).toArray) []) (by rw [ha]; exact lg_entry_eq _ _ _) ?_
  generalize (lg_sl ([.ref aC, .int x1, .int x2, .int x3] : List Value) ++ List.replicate (5 - (lg_sl ([.ref aC, .int x1, .int x2, .int x3] : List Value)).length) Slot.unset).toArray = ls at hl ⊢
  have hl : lv_has ls 5 [(0, .ref aC), (1, .int x1), (2, .int x2), (3, .int x3)] := hl
  rw [f5_weak] at hF
  show rW p l e wsX5_weak rmN5_weak s m args below meth c (.int r) (F0 m 0 ls [])
  refine lv_iload_n hx hb dX5_weak_0 rfl (lv_at hl 1 rfl) ?_
  refine lv_if_lt (tgt := 12) hx hb dX5_weak_1 (by decide) (fun c1 => ?_) (fun c1 => ?_)
  · have hF := ite_t c1 hF
    exact (nt_no hF (by decide)).elim
  · have hF := ite_f c1 hF
    refine lv_iload_n hx hb dX5_weak_4 rfl (lv_at hl 1 rfl) ?_
    refine lv_iload_n hx hb dX5_weak_5 rfl (lv_at hl 2 rfl) ?_
    obtain ⟨q3, h2, hF⟩ := bd1_at hF
    refine rcall (va_runS (As := [.int x2]) (rest := [.int x1]) S (K5_positionsOf l D cI cZ cS cJ x2 q3 h2) (va_cwS 1 hts (gd_S wd_638 wd_639 wd_22 wd_640) rfl rfl rfl hdn5_positionsOf ⟨Nat.le_of_ble_eq_true rfl, Nat.le_of_ble_eq_true rfl⟩) (rPreS hK (hP.sub (ws' := ([] : va_W)) [] rfl)) rfl rfl hl.1 rfl (lv_room (Nat.le_of_ble_eq_true rfl)) dX5_weak_6 ⟨(Nat.zero_le _), (Nat.zero_le _)⟩) ?_
    refine lv_icmp_lt (tgt := 22) hx hb dX5_weak_9 (by decide) (fun c4 => ?_) (fun c4 => ?_)
    · have hF := ite_t c4 hF
      refine lv_iload_n hx hb dX5_weak_22 rfl (lv_at hl 2 rfl) ?_
      refine lv_if_lt (tgt := 40) hx hb dX5_weak_23 (by decide) (fun c5 => ?_) (fun c5 => ?_)
      · have hF := ite_t c5 hF
        exact (nt_no hF (by decide)).elim
      · have hF := ite_f c5 hF
        refine lv_iload_n hx hb dX5_weak_26 rfl (lv_at hl 2 rfl) ?_
        refine lv_iconst hx hb dX5_weak_27 kc_iconst_1 ?_
        refine lv_icmp_gt (tgt := 40) hx hb dX5_weak_28 (by decide) (fun c6 => ?_) (fun c6 => ?_)
        · have hF := ite_t c6 hF
          exact (nt_no hF (by decide)).elim
        · have hF := ite_f c6 hF
          refine lv_iload_n hx hb dX5_weak_31 rfl (lv_at hl 3 rfl) ?_
          refine lv_if_lt (tgt := 40) hx hb dX5_weak_32 (by decide) (fun c7 => ?_) (fun c7 => ?_)
          · have hF := ite_t c7 hF
            exact (nt_no hF (by decide)).elim
          · have hF := ite_f c7 hF
            refine lv_iload_n hx hb dX5_weak_35 rfl (lv_at hl 3 rfl) ?_
            refine lv_iconst hx hb dX5_weak_36 kc_iconst_1 ?_
            refine lv_icmp_le (tgt := 50) hx hb dX5_weak_37 (by decide) (fun c8 => ?_) (fun c8 => ?_)
            · have hF := ite_t c8 hF
              refine lv_aload_n hx hb dX5_weak_50 rfl (lv_at hl 0 rfl) ?_
              refine va_get (D := D) (ci := 5) (v := .ref aS) (C := RX5) (T := TX5) (N := 3) hx hb hts i_X5 hown hK.1 hP 0 rfl rfl 0 (by decide) (hts _ wd_139) (fun _ h9 => h9) rfl dX5_weak_51 ?_
              refine va_get (D := D) (ci := 4) (v := .ref aL) (C := RX4) (T := TX4) (N := 3) hx hb hts i_X4 hown hK.1 hP 1 rfl rfl 0 (by decide) (hts _ wd_89) (fun _ h9 => h9) rfl dX5_weak_54 ?_
              refine lv_iload_n hx hb dX5_weak_57 rfl (lv_at hl 1 rfl) ?_
              refine lv_iload_n hx hb dX5_weak_58 rfl (lv_at hl 2 rfl) ?_
              obtain ⟨q10, h9, hF⟩ := bd1_at hF
              refine rcall (va_runV (As := [.int x1, .int x2]) (rest := []) S (K2_factorAt l D cI cZ cS cJ aL aW wm wW x1 x2 q10 h9) (cwV 2 hts (gd_V wd_642 wd_623 wd_624 wd_24 wd_625) rfl rfl rfl hd2_factorAt ⟨Nat.le_of_ble_eq_true rfl, Nat.le_of_ble_eq_true rfl⟩) (rPreV hK (hP.sub (ws' := (W2 cI aL aW wm wW)) [2, 3] rfl) (ci := 2) (q := (RX2, TX2, 2)) rfl rfl) rfl rfl hl.1 rfl (lv_room (Nat.le_of_ble_eq_true rfl)) dX5_weak_59 ⟨(Nat.zero_le _), (Nat.zero_le _)⟩) ?_
              refine lv_istore (lv' := [(4, .int q10), (0, .ref aC), (1, .int x1), (2, .int x2), (3, .int x3)]) hx hb dX5_weak_62 hl (by decide) rfl (fun ls hl => ?_)
              refine lv_iload_n hx hb dX5_weak_64 rfl (lv_at hl 4 rfl) ?_
              refine lv_if_ne (tgt := 83) hx hb dX5_weak_65 (by decide) (fun c11 => ?_) (fun c11 => ?_)
              · have hF := ite_f c11 hF
                refine lv_aload_n hx hb dX5_weak_83 rfl (lv_at hl 1 rfl) ?_
                refine va_get (D := D) (ci := 5) (v := .ref aS) (C := RX5) (T := TX5) (N := 3) hx hb hts i_X5 hown hK.1 hP 0 rfl rfl 0 (by decide) (hts _ wd_139) (fun _ h9 => h9) rfl dX5_weak_84 ?_
                refine va_get (D := D) (ci := 4) (v := .ref aL) (C := RX4) (T := TX4) (N := 3) hx hb hts i_X4 hown hK.1 hP 1 rfl rfl 0 (by decide) (hts _ wd_89) (fun _ h9 => h9) rfl dX5_weak_87 ?_
                refine lv_iload hx hb dX5_weak_90 (lv_at hl 0 rfl) ?_
                obtain ⟨q13, h12, hF⟩ := bd1_at hF
                refine rcall (va_runV (As := [.int q10]) (rest := []) S (K2_hiddenPairs l D cI cZ cS cJ aL aW wm wW q10 q13 h12) (cwV 1 hts (gd_V wd_647 wd_648 wd_649 wd_24 wd_650) rfl rfl rfl hd2_hiddenPairs ⟨Nat.le_of_ble_eq_true rfl, Nat.le_of_ble_eq_true rfl⟩) (rPreV hK (hP.sub (ws' := (W2 cI aL aW wm wW)) [2, 3] rfl) (ci := 2) (q := (RX2, TX2, 2)) rfl rfl) rfl rfl hl.1 rfl (lv_room (Nat.le_of_ble_eq_true rfl)) dX5_weak_92 ⟨(Nat.zero_le _), (Nat.zero_le _)⟩) ?_
                have hF := nt_some hF
                exact rret hF hx hb hr hlocks dX5_weak_95
              · have hF := ite_t c11 hF
                refine lv_aload_n hx hb dX5_weak_68 rfl (lv_at hl 1 rfl) ?_
                refine va_get (D := D) (ci := 5) (v := .ref aS) (C := RX5) (T := TX5) (N := 3) hx hb hts i_X5 hown hK.1 hP 0 rfl rfl 0 (by decide) (hts _ wd_139) (fun _ h9 => h9) rfl dX5_weak_69 ?_
                refine va_get (D := D) (ci := 4) (v := .ref aL) (C := RX4) (T := TX4) (N := 3) hx hb hts i_X4 hown hK.1 hP 1 rfl rfl 0 (by decide) (hts _ wd_89) (fun _ h9 => h9) rfl dX5_weak_72 ?_
                refine lv_iload hx hb dX5_weak_75 (lv_at hl 0 rfl) ?_
                obtain ⟨q15, h14, hF⟩ := bd1_at hF
                refine rcall (va_runV (As := [.int q10]) (rest := []) S (K2_hiddenPairsTried l D cI cZ cS cJ aL aW wm wW q10 q15 h14) (cwV 1 hts (gd_V wd_643 wd_644 wd_645 wd_24 wd_646) rfl rfl rfl hd2_hiddenPairsTried ⟨Nat.le_of_ble_eq_true rfl, Nat.le_of_ble_eq_true rfl⟩) (rPreV hK (hP.sub (ws' := (W2 cI aL aW wm wW)) [2, 3] rfl) (ci := 2) (q := (RX2, TX2, 2)) rfl rfl) rfl rfl hl.1 rfl (lv_room (Nat.le_of_ble_eq_true rfl)) dX5_weak_77 ⟨(Nat.zero_le _), (Nat.zero_le _)⟩) ?_
                refine lv_goto (tgt := 95) hx hb dX5_weak_80 (by decide) ?_
                have hF := nt_some hF
                exact rret hF hx hb hr hlocks dX5_weak_95
            · have hF := ite_f c8 hF
              exact (nt_no hF (by decide)).elim
    · have hF := ite_f c4 hF
      exact (nt_no hF (by decide)).elim
abbrev rmN5_finds : Room := { frames := 4, cells := 0, slots := 0, locals := 89 }
set_option maxHeartbeats 4000000 in
set_option maxRecDepth 100000 in
theorem N5_finds (l : Launch) (D : va_G) (cI cZ cS cJ : ClassId) (aC aS aL aW aB aF aZ aK aM aO aT aY aV aU aR : Nat) (kQ : Nat → SA) (sr : Int32) (wm : Int32) (wW : Nat → Int32) (bh : Int32) (bF : Nat → Int32) (bZ : Nat → Int32) (bK : Nat → Int32) (bM : Nat → Int32) (ol : Int32) (oS : Nat → Int32) (kd : Int32) (kf : Nat → Int32) (kA : Nat → SA) (kV : Nat → SV) (kP : Nat → SV) (x1 : Int32) (r : Int32) (hF : f5_finds wm wW x1 = some (0, r)) : Met l yX5_finds wsX5_finds rmN5_finds (rP D (gT cI cZ cS cJ) ((W5x cI aC aS aL aW aB aF aZ aK aM aO aT aY sr wm wW bh bF bZ bK bM ol oS) ++ (HB cI cZ cS aY aV aU aR kd kf kA kV kQ kP)) [.ref aC, .int x1]) (rQ (.int r)) 0 0 (fun _ => False) := by
  refine Met.ofW (cc := cX5_finds) (maxL := 2) (ret := (some .boolean)) (by decide) rfl ?_
  intro p e s m args below meth c s₁ B hml hv
  obtain ⟨ha, hK, hP⟩ := hv
  have hx := B.exec
  have hb := B.bytes
  have hr := B.returns
  have hlocks := B.notSynchronized
  have hts : ∀ w ∈ lw_all, w.before args s = true := fun w h => atoms_spec (ws := wsX5_finds) B.pre w (List.mem_cons_of_mem _ h)
  have hown : s.vm.findClass RX5 = some m.cls := findClass_of_methodNamed B.named
  have S : CallFix p m c cX5_finds 2 s args lw_all RX5 := ⟨hx, hb, hml, hown, hts⟩
  have hl := lv_entry ([.ref aC, .int x1] : List Value) (n := 2) (Nat.le_of_ble_eq_true rfl)
  refine W.eq (g2 := F0 m 0 ((lg_sl ([.ref aC, .int x1] : List Value) ++ List.replicate (2 - (lg_sl ([.ref aC, .int x1] : List Value)).length) Slot.unset).toArray) []) (by rw [ha]; exact lg_entry_eq _ _ _) ?_
  generalize (lg_sl ([.ref aC, .int x1] : List Value) ++ List.replicate (2 - (lg_sl ([.ref aC, .int x1] : List Value)).length) Slot.unset).toArray = ls at hl ⊢
  have hl : lv_has ls 2 [(0, .ref aC), (1, .int x1)] := hl
  rw [f5_finds] at hF
  show rW p l e wsX5_finds rmN5_finds s m args below meth c (.int r) (F0 m 0 ls [])
  refine lv_iload_n hx hb dX5_finds_0 rfl (lv_at hl 1 rfl) ?_
  obtain ⟨k2, h1, hF⟩ := bd1_at hF
  by_cases c7 : k2 = 0
  · subst c7
    have hF := ite_t rfl hF
    refine rcall0 (va_runS (As := [.int x1]) (rest := []) S (N5_throwIfNoSlipKind l D cI cZ cS cJ x1 h1) (va_cwS 1 hts (gd_S wd_611 wd_612 wd_22 wd_613) rfl rfl rfl hdn5_throwIfNoSlipKind ⟨Nat.le_of_ble_eq_true rfl, Nat.le_of_ble_eq_true rfl⟩) (rPreS hK (hP.sub (ws' := ([] : va_W)) [] rfl)) rfl rfl hl.1 rfl (lv_room (Nat.le_of_ble_eq_true rfl)) dX5_finds_1 ⟨(Nat.zero_le _), (Nat.zero_le _)⟩) ?_
    refine lv_iload_n hx hb dX5_finds_4 rfl (lv_at hl 1 rfl) ?_
    refine lv_iconst hx hb dX5_finds_5 kc_iconst_2 ?_
    refine lv_icmp_eq (tgt := 23) hx hb dX5_finds_6 (by decide) (fun c3 => ?_) (fun c3 => ?_)
    · have hF := ite_t c3 hF
      refine lv_iconst hx hb dX5_finds_23 kc_iconst_1 ?_
      refine lv_goto (tgt := 28) hx hb dX5_finds_24 (by decide) ?_
      have hF := nt_some hF
      exact rretz (by decide) hF hx hb hr hlocks dX5_finds_28
    · have hF := ite_f c3 hF
      refine lv_aload_n hx hb dX5_finds_9 rfl (lv_at hl 0 rfl) ?_
      refine va_get (D := D) (ci := 5) (v := .ref aS) (C := RX5) (T := TX5) (N := 3) hx hb hts i_X5 hown hK.1 hP 0 rfl rfl 0 (by decide) (hts _ wd_139) (fun _ h9 => h9) rfl dX5_finds_10 ?_
      refine va_get (D := D) (ci := 4) (v := .ref aL) (C := RX4) (T := TX4) (N := 3) hx hb hts i_X4 hown hK.1 hP 1 rfl rfl 0 (by decide) (hts _ wd_89) (fun _ h9 => h9) rfl dX5_finds_13 ?_
      refine lv_iload_n hx hb dX5_finds_16 rfl (lv_at hl 1 rfl) ?_
      obtain ⟨q5, h4, hF⟩ := bd1_at hF
      refine rcall (va_runV (As := [.int x1]) (rest := []) S (K2_hidesNothing l D cI cZ cS cJ aL aW wm wW x1 q5 h4) (cwV 1 hts (gd_V wd_692 wd_693 wd_694 wd_24 wd_695) rfl rfl rfl hd2_hidesNothing ⟨Nat.le_of_ble_eq_true rfl, Nat.le_of_ble_eq_true rfl⟩) (rPreV hK (hP.sub (ws' := (W2 cI aL aW wm wW)) [2, 3] rfl) (ci := 2) (q := (RX2, TX2, 2)) rfl rfl) rfl rfl hl.1 rfl (lv_room (Nat.le_of_ble_eq_true rfl)) dX5_finds_17 ⟨(Nat.zero_le _), (Nat.zero_le _)⟩) ?_
      refine lv_if_eq (tgt := 27) hx hb dX5_finds_20 (by decide) (fun c6 => ?_) (fun c6 => ?_)
      · rw [if_pos c6] at hF
        refine lv_iconst hx hb dX5_finds_27 kc_iconst_0 ?_
        have hF := nt_some hF
        exact rretz (by decide) hF hx hb hr hlocks dX5_finds_28
      · rw [if_neg c6] at hF
        refine lv_iconst hx hb dX5_finds_23 kc_iconst_1 ?_
        refine lv_goto (tgt := 28) hx hb dX5_finds_24 (by decide) ?_
        have hF := nt_some hF
        exact rretz (by decide) hF hx hb hr hlocks dX5_finds_28
  · have hF := ite_f c7 hF
    exact (nt_no hF c7).elim
abbrev rmN5_bestWeight : Room := { frames := 4, cells := 0, slots := 0, locals := 93 }
set_option maxHeartbeats 4000000 in
set_option maxRecDepth 100000 in
theorem N5_bestWeight (l : Launch) (D : va_G) (cI cZ cS cJ : ClassId) (aC aS aL aW aB aF aZ aK aM aO aT aY aV aU aR : Nat) (kQ : Nat → SA) (sr : Int32) (wm : Int32) (wW : Nat → Int32) (bh : Int32) (bF : Nat → Int32) (bZ : Nat → Int32) (bK : Nat → Int32) (bM : Nat → Int32) (ol : Int32) (oS : Nat → Int32) (kd : Int32) (kf : Nat → Int32) (kA : Nat → SA) (kV : Nat → SV) (kP : Nat → SV) (x1 : Int32) (r : Int32) (hF : f5_bestWeight wm wW x1 = some (0, r)) : Met l yX5_bestWeight wsX5_bestWeight rmN5_bestWeight (rP D (gT cI cZ cS cJ) ((W5x cI aC aS aL aW aB aF aZ aK aM aO aT aY sr wm wW bh bF bZ bK bM ol oS) ++ (HB cI cZ cS aY aV aU aR kd kf kA kV kQ kP)) [.ref aC, .int x1]) (rQ (.int r)) 0 0 (fun _ => False) := by
  refine Met.ofW (cc := cX5_bestWeight) (maxL := 6) (ret := (some .int)) (by decide) rfl ?_
  intro p e s m args below meth c s₁ B hml hv
  obtain ⟨ha, hK, hP⟩ := hv
  have hx := B.exec
  have hb := B.bytes
  have hr := B.returns
  have hlocks := B.notSynchronized
  have hts : ∀ w ∈ lw_all, w.before args s = true := fun w h => atoms_spec (ws := wsX5_bestWeight) B.pre w (List.mem_cons_of_mem _ h)
  have hown : s.vm.findClass RX5 = some m.cls := findClass_of_methodNamed B.named
  have S : CallFix p m c cX5_bestWeight 6 s args lw_all RX5 := ⟨hx, hb, hml, hown, hts⟩
  have hl := lv_entry ([.ref aC, .int x1] : List Value) (n := 6) (Nat.le_of_ble_eq_true rfl)
  refine W.eq (g2 := F0 m 0 ((lg_sl ([.ref aC, .int x1] : List Value) ++ List.replicate (6 - (lg_sl ([.ref aC, .int x1] : List Value)).length) Slot.unset).toArray) []) (by rw [ha]; exact lg_entry_eq _ _ _) ?_
  generalize (lg_sl ([.ref aC, .int x1] : List Value) ++ List.replicate (6 - (lg_sl ([.ref aC, .int x1] : List Value)).length) Slot.unset).toArray = ls at hl ⊢
  have hl : lv_has ls 6 [(0, .ref aC), (1, .int x1)] := hl
  clear ha
  have W_22 : ∀ (x1 : Int32) (n : Nat) (x2 : Int32) (x3 : Int32) (x4 : Int32), ∀ (ls : Array Slot), lv_has ls 6 [(0, .ref aC), (1, .int x1), (2, .int x2), (3, .int x3), (4, .int x4)] → f5_bestWeight_l22 wm wW x1 n x2 x3 x4 = some (0, r) → rW p l e wsX5_bestWeight rmN5_bestWeight s m args below meth c (.int r) (F0 m 22 ls []) := by
    intro x1  n
    induction n with
    | zero =>
      intro x2 x3 x4 ls hl hF
      rw [f5_bestWeight_l22] at hF
      cases hF
    | succ n ih =>
      intro x2 x3 x4 ls hl hF
      rw [f5_bestWeight_l22] at hF
      refine lv_iload hx hb dX5_bestWeight_22 (lv_at hl 4 rfl) ?_
      refine lv_bipush hx hb dX5_bestWeight_24 kc_bipush_9 ?_
      refine lv_icmp_gt (tgt := 62) hx hb dX5_bestWeight_26 (by decide) (fun c5 => ?_) (fun c5 => ?_)
      · have hF := ite_t c5 hF
        refine lv_iload_n hx hb dX5_bestWeight_62 rfl (lv_at hl 2 rfl) ?_
        have hF := nt_some hF
        exact rret hF hx hb hr hlocks dX5_bestWeight_63
      · have hF := ite_f c5 hF
        refine lv_aload_n hx hb dX5_bestWeight_29 rfl (lv_at hl 0 rfl) ?_
        refine va_get (D := D) (ci := 5) (v := .ref aS) (C := RX5) (T := TX5) (N := 3) hx hb hts i_X5 hown hK.1 hP 0 rfl rfl 0 (by decide) (hts _ wd_139) (fun _ h9 => h9) rfl dX5_bestWeight_30 ?_
        refine va_get (D := D) (ci := 4) (v := .ref aL) (C := RX4) (T := TX4) (N := 3) hx hb hts i_X4 hown hK.1 hP 1 rfl rfl 0 (by decide) (hts _ wd_89) (fun _ h9 => h9) rfl dX5_bestWeight_33 ?_
        refine lv_iload_n hx hb dX5_bestWeight_36 rfl (lv_at hl 1 rfl) ?_
        refine lv_iload hx hb dX5_bestWeight_37 (lv_at hl 4 rfl) ?_
        obtain ⟨q7, h6, hF⟩ := bd1_at hF
        refine rcall (va_runV (As := [.int x1, .int x4]) (rest := []) S (K2_hiddenPairsWith l D cI cZ cS cJ aL aW wm wW x1 x4 q7 h6) (cwV 2 hts (gd_V wd_655 wd_656 wd_657 wd_24 wd_658) rfl rfl rfl hd2_hiddenPairsWith ⟨Nat.le_of_ble_eq_true rfl, Nat.le_of_ble_eq_true rfl⟩) (rPreV hK (hP.sub (ws' := (W2 cI aL aW wm wW)) [2, 3] rfl) (ci := 2) (q := (RX2, TX2, 2)) rfl rfl) rfl rfl hl.1 rfl (lv_room (Nat.le_of_ble_eq_true rfl)) dX5_bestWeight_39 ⟨(Nat.zero_le _), (Nat.zero_le _)⟩) ?_
        refine lv_istore (lv' := [(5, .int q7), (0, .ref aC), (1, .int x1), (2, .int x2), (3, .int x3), (4, .int x4)]) hx hb dX5_bestWeight_42 hl (by decide) rfl (fun ls hl => ?_)
        refine lv_iload hx hb dX5_bestWeight_44 (lv_at hl 0 rfl) ?_
        refine lv_iload_n hx hb dX5_bestWeight_46 rfl (lv_at hl 4 rfl) ?_
        refine lv_icmp_ge (tgt := 56) hx hb dX5_bestWeight_47 (by decide) (fun c8 => ?_) (fun c8 => ?_)
        · rw [if_pos c8] at hF; try rw [if_pos c8] at hF
          refine lv_iinc (v := (x4 + 1)) (lv' := [(4, .int (x4 + 1)), (5, .int q7), (0, .ref aC), (1, .int x1), (2, .int x2), (3, .int x3)]) hx hb dX5_bestWeight_56 hl (k := 5) rfl rfl (by decide) rfl (fun ls hl => ?_)
          refine lv_goto (tgt := 22) hx hb dX5_bestWeight_59 (by decide) ?_
          exact ih x2 x3 (x4 + 1) ls (lv_sub hl [2, 3, 4, 5, 0] rfl) hF
        · rw [if_neg c8] at hF; try rw [if_neg c8] at hF
          refine lv_iload hx hb dX5_bestWeight_50 (lv_at hl 5 rfl) ?_
          refine lv_istore_n (lv' := [(2, .int x4), (5, .int q7), (0, .ref aC), (1, .int x1), (3, .int x3), (4, .int x4)]) hx hb dX5_bestWeight_52 rfl hl (by decide) rfl (fun ls hl => ?_)
          refine lv_iload hx hb dX5_bestWeight_53 (lv_at hl 1 rfl) ?_
          refine lv_istore_n (lv' := [(3, .int q7), (2, .int x4), (5, .int q7), (0, .ref aC), (1, .int x1), (4, .int x4)]) hx hb dX5_bestWeight_55 rfl hl (by decide) rfl (fun ls hl => ?_)
          refine lv_iinc (v := (x4 + 1)) (lv' := [(4, .int (x4 + 1)), (3, .int q7), (2, .int x4), (5, .int q7), (0, .ref aC), (1, .int x1)]) hx hb dX5_bestWeight_56 hl (k := 5) rfl rfl (by decide) rfl (fun ls hl => ?_)
          refine lv_goto (tgt := 22) hx hb dX5_bestWeight_59 (by decide) ?_
          exact ih x4 q7 (x4 + 1) ls (lv_sub hl [4, 5, 2, 1, 0] rfl) hF
  rw [f5_bestWeight] at hF
  show rW p l e wsX5_bestWeight rmN5_bestWeight s m args below meth c (.int r) (F0 m 0 ls [])
  refine lv_iload_n hx hb dX5_bestWeight_0 rfl (lv_at hl 1 rfl) ?_
  obtain ⟨k2, h1, hF⟩ := bd1_at hF
  by_cases c9 : k2 = 0
  · subst c9
    have hF := ite_t rfl hF
    refine rcall0 (va_runS (As := [.int x1]) (rest := []) S (N5_throwIfNoPosition l D cI cZ cS cJ x1 h1) (va_cwS 1 hts (gd_S wd_458 wd_459 wd_22 wd_460) rfl rfl rfl hdn5_throwIfNoPosition ⟨Nat.le_of_ble_eq_true rfl, Nat.le_of_ble_eq_true rfl⟩) (rPreS hK (hP.sub (ws' := ([] : va_W)) [] rfl)) rfl rfl hl.1 rfl (lv_room (Nat.le_of_ble_eq_true rfl)) dX5_bestWeight_1 ⟨(Nat.zero_le _), (Nat.zero_le _)⟩) ?_
    refine lv_iconst hx hb dX5_bestWeight_4 kc_iconst_1 ?_
    refine lv_istore_n (lv' := [(2, .int (1 : Int32)), (0, .ref aC), (1, .int x1)]) hx hb dX5_bestWeight_5 rfl hl (by decide) rfl (fun ls hl => ?_)
    refine lv_aload_n hx hb dX5_bestWeight_6 rfl (lv_at hl 1 rfl) ?_
    refine va_get (D := D) (ci := 5) (v := .ref aS) (C := RX5) (T := TX5) (N := 3) hx hb hts i_X5 hown hK.1 hP 0 rfl rfl 0 (by decide) (hts _ wd_139) (fun _ h9 => h9) rfl dX5_bestWeight_7 ?_
    refine va_get (D := D) (ci := 4) (v := .ref aL) (C := RX4) (T := TX4) (N := 3) hx hb hts i_X4 hown hK.1 hP 1 rfl rfl 0 (by decide) (hts _ wd_89) (fun _ h9 => h9) rfl dX5_bestWeight_10 ?_
    refine lv_iload_n hx hb dX5_bestWeight_13 rfl (lv_at hl 2 rfl) ?_
    refine lv_iload_n hx hb dX5_bestWeight_14 rfl (lv_at hl 0 rfl) ?_
    obtain ⟨q4, h3, hF⟩ := bd1_at hF
    refine rcall (va_runV (As := [.int x1, .int (1 : Int32)]) (rest := []) S (K2_hiddenPairsWith l D cI cZ cS cJ aL aW wm wW x1 (1 : Int32) q4 h3) (cwV 2 hts (gd_V wd_655 wd_656 wd_657 wd_24 wd_658) rfl rfl rfl hd2_hiddenPairsWith ⟨Nat.le_of_ble_eq_true rfl, Nat.le_of_ble_eq_true rfl⟩) (rPreV hK (hP.sub (ws' := (W2 cI aL aW wm wW)) [2, 3] rfl) (ci := 2) (q := (RX2, TX2, 2)) rfl rfl) rfl rfl hl.1 rfl (lv_room (Nat.le_of_ble_eq_true rfl)) dX5_bestWeight_15 ⟨(Nat.zero_le _), (Nat.zero_le _)⟩) ?_
    refine lv_istore_n (lv' := [(3, .int q4), (2, .int (1 : Int32)), (0, .ref aC), (1, .int x1)]) hx hb dX5_bestWeight_18 rfl hl (by decide) rfl (fun ls hl => ?_)
    refine lv_iconst hx hb dX5_bestWeight_19 kc_iconst_2 ?_
    refine lv_istore (lv' := [(4, .int (2 : Int32)), (3, .int q4), (2, .int (1 : Int32)), (0, .ref aC), (1, .int x1)]) hx hb dX5_bestWeight_20 hl (by decide) rfl (fun ls hl => ?_)
    exact W_22 x1  fu (1 : Int32) q4 (2 : Int32) ls (lv_sub hl [3, 4, 2, 1, 0] rfl) hF
  · have hF := ite_f c9 hF
    exact (nt_no hF c9).elim
abbrev rmN5_meant : Room := { frames := 5, cells := 0, slots := 0, locals := 121 }
set_option maxHeartbeats 4000000 in
set_option maxRecDepth 100000 in
theorem N5_meant (l : Launch) (D : va_G) (cI cZ cS cJ : ClassId) (aC aS aL aW aB aF aZ aK aM aO aT aY aV aU aR : Nat) (kQ : Nat → SA) (sr : Int32) (wm : Int32) (wW : Nat → Int32) (bh : Int32) (bF : Nat → Int32) (bZ : Nat → Int32) (bK : Nat → Int32) (bM : Nat → Int32) (ol : Int32) (oS : Nat → Int32) (kd : Int32) (kf : Nat → Int32) (kA : Nat → SA) (kV : Nat → SV) (kP : Nat → SV) (x1 : Int32) (x2 : Int32) (x3 : Int32) (r : Int32) (hF : f5_meant wm wW bh bF bZ x1 x2 x3 = some (0, r)) : Met l yX5_meant wsX5_meant rmN5_meant (rP D (gT cI cZ cS cJ) ((W5x cI aC aS aL aW aB aF aZ aK aM aO aT aY sr wm wW bh bF bZ bK bM ol oS) ++ (HB cI cZ cS aY aV aU aR kd kf kA kV kQ kP)) [.ref aC, .int x1, .int x2, .int x3]) (rQ (.int r)) 0 0 (fun _ => False) := by
  refine Met.ofW (cc := cX5_meant) (maxL := 4) (ret := (some .int)) (by decide) rfl ?_
  intro p e s m args below meth c s₁ B hml hv
  obtain ⟨ha, hK, hP⟩ := hv
  have hx := B.exec
  have hb := B.bytes
  have hr := B.returns
  have hlocks := B.notSynchronized
  have hts : ∀ w ∈ lw_all, w.before args s = true := fun w h => atoms_spec (ws := wsX5_meant) B.pre w (List.mem_cons_of_mem _ h)
  have hown : s.vm.findClass RX5 = some m.cls := findClass_of_methodNamed B.named
  have S : CallFix p m c cX5_meant 4 s args lw_all RX5 := ⟨hx, hb, hml, hown, hts⟩
  have hl := lv_entry ([.ref aC, .int x1, .int x2, .int x3] : List Value) (n := 4) (Nat.le_of_ble_eq_true rfl)
  refine W.eq (g2 := F0 m 0 ((lg_sl ([.ref aC, .int x1, .int x2, .int x3] : List Value) ++ List.replicate (4 - (lg_sl ([.ref aC, .int x1, .int x2, .int x3] : List Value)).length) Slot.unset).toArray) []) (by rw [ha]; exact lg_entry_eq _ _ _) ?_
  generalize (lg_sl ([.ref aC, .int x1, .int x2, .int x3] : List Value) ++ List.replicate (4 - (lg_sl ([.ref aC, .int x1, .int x2, .int x3] : List Value)).length) Slot.unset).toArray = ls at hl ⊢
  have hl : lv_has ls 4 [(0, .ref aC), (1, .int x1), (2, .int x2), (3, .int x3)] := hl
  rw [f5_meant] at hF
  show rW p l e wsX5_meant rmN5_meant s m args below meth c (.int r) (F0 m 0 ls [])
  refine lv_iload_n hx hb dX5_meant_0 rfl (lv_at hl 1 rfl) ?_
  obtain ⟨k2, h1, hF⟩ := bd1_at hF
  by_cases c8 : k2 = 0
  · subst c8
    have hF := ite_t rfl hF
    refine rcall0 (va_runS (As := [.int x1]) (rest := []) S (N5_throwIfNoSerial l D cI cZ cS cJ x1 h1) (va_cwS 1 hts (gd_S wd_347 wd_348 wd_22 wd_349) rfl rfl rfl hdn5_throwIfNoSerial ⟨Nat.le_of_ble_eq_true rfl, Nat.le_of_ble_eq_true rfl⟩) (rPreS hK (hP.sub (ws' := ([] : va_W)) [] rfl)) rfl rfl hl.1 rfl (lv_room (Nat.le_of_ble_eq_true rfl)) dX5_meant_1 ⟨(Nat.zero_le _), (Nat.zero_le _)⟩) ?_
    refine lv_iload_n hx hb dX5_meant_4 rfl (lv_at hl 2 rfl) ?_
    obtain ⟨k4, h3, hF⟩ := bd1_at hF
    by_cases c9 : k4 = 0
    · subst c9
      have hF := ite_t rfl hF
      refine rcall0 (va_runS (As := [.int x2]) (rest := []) S (N5_throwIfNoLetter l D cI cZ cS cJ x2 h3) (va_cwS 1 hts (gd_S wd_351 wd_352 wd_22 wd_353) rfl rfl rfl hdn5_throwIfNoLetter ⟨Nat.le_of_ble_eq_true rfl, Nat.le_of_ble_eq_true rfl⟩) (rPreS hK (hP.sub (ws' := ([] : va_W)) [] rfl)) rfl rfl hl.1 rfl (lv_room (Nat.le_of_ble_eq_true rfl)) dX5_meant_5 ⟨(Nat.zero_le _), (Nat.zero_le _)⟩) ?_
      refine lv_iload_n hx hb dX5_meant_8 rfl (lv_at hl 3 rfl) ?_
      refine lv_iconst hx hb dX5_meant_9 kc_iconst_m1 ?_
      refine lv_icmp_ge (tgt := 23) hx hb dX5_meant_10 (by decide) (fun c5 => ?_) (fun c5 => ?_)
      · have hF := ite_t c5 hF
        refine lv_aload_n hx hb dX5_meant_23 rfl (lv_at hl 0 rfl) ?_
        refine va_get (D := D) (ci := 5) (v := .ref aS) (C := RX5) (T := TX5) (N := 3) hx hb hts i_X5 hown hK.1 hP 0 rfl rfl 0 (by decide) (hts _ wd_139) (fun _ h9 => h9) rfl dX5_meant_24 ?_
        refine lv_iload_n hx hb dX5_meant_27 rfl (lv_at hl 1 rfl) ?_
        refine lv_iload_n hx hb dX5_meant_28 rfl (lv_at hl 2 rfl) ?_
        refine lv_iload_n hx hb dX5_meant_29 rfl (lv_at hl 3 rfl) ?_
        obtain ⟨q7, h6, hF⟩ := bd1_at hF
        refine rcall (va_runV (As := [.int x1, .int x2, .int x3]) (rest := []) S (K4_meantCheques l D cI cZ cS cJ aS aL aW aB aF aZ aK aM sr wm wW bh bF bZ bK bM x1 x2 x3 q7 h6) (cwV 3 hts (gd_V wd_665 wd_666 wd_667 wd_23 wd_668) rfl rfl rfl hd4_meantCheques ⟨Nat.le_of_ble_eq_true rfl, Nat.le_of_ble_eq_true rfl⟩) (rPreV hK (hP.sub (ws' := (W4 cI aS aL aW aB aF aZ aK aM sr wm wW bh bF bZ bK bM)) [1, 2, 3, 4, 5, 6, 7, 8] rfl) (ci := 4) (q := (RX4, TX4, 3)) rfl rfl) rfl rfl hl.1 rfl (lv_room (Nat.le_of_ble_eq_true rfl)) dX5_meant_30 ⟨(Nat.zero_le _), (Nat.zero_le _)⟩) ?_
        have hF := nt_some hF
        exact rret hF hx hb hr hlocks dX5_meant_33
      · have hF := ite_f c5 hF
        exact (nt_no hF (by decide)).elim
    · have hF := ite_f c9 hF
      exact (nt_no hF c9).elim
  · have hF := ite_f c8 hF
    exact (nt_no hF c8).elim
abbrev rmN5_slip : Room := { frames := 4, cells := 0, slots := 0, locals := 93 }
set_option maxHeartbeats 4000000 in
set_option maxRecDepth 100000 in
theorem N5_slip (l : Launch) (D : va_G) (cI cZ cS cJ : ClassId) (aC aS aL aW aB aF aZ aK aM aO aT aY aV aU aR : Nat) (kQ : Nat → SA) (sr : Int32) (wm : Int32) (wW : Nat → Int32) (bh : Int32) (bF : Nat → Int32) (bZ : Nat → Int32) (bK : Nat → Int32) (bM : Nat → Int32) (ol : Int32) (oS : Nat → Int32) (kd : Int32) (kf : Nat → Int32) (kA : Nat → SA) (kV : Nat → SV) (kP : Nat → SV) (x1 : Int32) (x2 : Int32) (x3 : Int32) (r : Int32) (hF : f5_slip wm wW x1 x2 x3 = some (0, r)) : Met l yX5_slip wsX5_slip rmN5_slip (rP D (gT cI cZ cS cJ) ((W5x cI aC aS aL aW aB aF aZ aK aM aO aT aY sr wm wW bh bF bZ bK bM ol oS) ++ (HB cI cZ cS aY aV aU aR kd kf kA kV kQ kP)) [.ref aC, .int x1, .int x2, .int x3]) (rQ (.int r)) 0 0 (fun _ => False) := by
  refine Met.ofW (cc := cX5_slip) (maxL := 4) (ret := (some .int)) (by decide) rfl ?_
  intro p e s m args below meth c s₁ B hml hv
  obtain ⟨ha, hK, hP⟩ := hv
  have hx := B.exec
  have hb := B.bytes
  have hr := B.returns
  have hlocks := B.notSynchronized
  have hts : ∀ w ∈ lw_all, w.before args s = true := fun w h => atoms_spec (ws := wsX5_slip) B.pre w (List.mem_cons_of_mem _ h)
  have hown : s.vm.findClass RX5 = some m.cls := findClass_of_methodNamed B.named
  have S : CallFix p m c cX5_slip 4 s args lw_all RX5 := ⟨hx, hb, hml, hown, hts⟩
  have hl := lv_entry ([.ref aC, .int x1, .int x2, .int x3] : List Value) (n := 4) (Nat.le_of_ble_eq_true rfl)
  refine W.eq (g2 := F0 m 0 ((lg_sl ([.ref aC, .int x1, .int x2, .int x3] : List Value) ++ List.replicate (4 - (lg_sl ([.ref aC, .int x1, .int x2, .int x3] : List Value)).length) Slot.unset).toArray) []) (by rw [ha]; exact lg_entry_eq _ _ _) ?_
  generalize (lg_sl ([.ref aC, .int x1, .int x2, .int x3] : List Value) ++ List.replicate (4 - (lg_sl ([.ref aC, .int x1, .int x2, .int x3] : List Value)).length) Slot.unset).toArray = ls at hl ⊢
  have hl : lv_has ls 4 [(0, .ref aC), (1, .int x1), (2, .int x2), (3, .int x3)] := hl
  rw [f5_slip] at hF
  show rW p l e wsX5_slip rmN5_slip s m args below meth c (.int r) (F0 m 0 ls [])
  refine lv_iload_n hx hb dX5_slip_0 rfl (lv_at hl 1 rfl) ?_
  obtain ⟨k2, h1, hF⟩ := bd1_at hF
  by_cases c9 : k2 = 0
  · subst c9
    have hF := ite_t rfl hF
    refine rcall0 (va_runS (As := [.int x1]) (rest := []) S (N5_throwIfNoSerial l D cI cZ cS cJ x1 h1) (va_cwS 1 hts (gd_S wd_347 wd_348 wd_22 wd_349) rfl rfl rfl hdn5_throwIfNoSerial ⟨Nat.le_of_ble_eq_true rfl, Nat.le_of_ble_eq_true rfl⟩) (rPreS hK (hP.sub (ws' := ([] : va_W)) [] rfl)) rfl rfl hl.1 rfl (lv_room (Nat.le_of_ble_eq_true rfl)) dX5_slip_1 ⟨(Nat.zero_le _), (Nat.zero_le _)⟩) ?_
    refine lv_iload_n hx hb dX5_slip_4 rfl (lv_at hl 2 rfl) ?_
    obtain ⟨k4, h3, hF⟩ := bd1_at hF
    by_cases c10 : k4 = 0
    · subst c10
      have hF := ite_t rfl hF
      refine rcall0 (va_runS (As := [.int x2]) (rest := []) S (N5_throwIfNoSerial l D cI cZ cS cJ x2 h3) (va_cwS 1 hts (gd_S wd_347 wd_348 wd_22 wd_349) rfl rfl rfl hdn5_throwIfNoSerial ⟨Nat.le_of_ble_eq_true rfl, Nat.le_of_ble_eq_true rfl⟩) (rPreS hK (hP.sub (ws' := ([] : va_W)) [] rfl)) rfl rfl hl.1 rfl (lv_room (Nat.le_of_ble_eq_true rfl)) dX5_slip_5 ⟨(Nat.zero_le _), (Nat.zero_le _)⟩) ?_
      refine lv_iload_n hx hb dX5_slip_8 rfl (lv_at hl 3 rfl) ?_
      obtain ⟨k6, h5, hF⟩ := bd1_at hF
      by_cases c11 : k6 = 0
      · subst c11
        have hF := ite_t rfl hF
        refine rcall0 (va_runS (As := [.int x3]) (rest := []) S (N5_throwIfNoLetter l D cI cZ cS cJ x3 h5) (va_cwS 1 hts (gd_S wd_351 wd_352 wd_22 wd_353) rfl rfl rfl hdn5_throwIfNoLetter ⟨Nat.le_of_ble_eq_true rfl, Nat.le_of_ble_eq_true rfl⟩) (rPreS hK (hP.sub (ws' := ([] : va_W)) [] rfl)) rfl rfl hl.1 rfl (lv_room (Nat.le_of_ble_eq_true rfl)) dX5_slip_9 ⟨(Nat.zero_le _), (Nat.zero_le _)⟩) ?_
        refine lv_aload_n hx hb dX5_slip_12 rfl (lv_at hl 0 rfl) ?_
        refine va_get (D := D) (ci := 5) (v := .ref aS) (C := RX5) (T := TX5) (N := 3) hx hb hts i_X5 hown hK.1 hP 0 rfl rfl 0 (by decide) (hts _ wd_139) (fun _ h9 => h9) rfl dX5_slip_13 ?_
        refine va_get (D := D) (ci := 4) (v := .ref aL) (C := RX4) (T := TX4) (N := 3) hx hb hts i_X4 hown hK.1 hP 1 rfl rfl 0 (by decide) (hts _ wd_89) (fun _ h9 => h9) rfl dX5_slip_16 ?_
        refine lv_iload_n hx hb dX5_slip_19 rfl (lv_at hl 1 rfl) ?_
        refine lv_iload_n hx hb dX5_slip_20 rfl (lv_at hl 2 rfl) ?_
        refine lv_iload_n hx hb dX5_slip_21 rfl (lv_at hl 3 rfl) ?_
        obtain ⟨q8, h7, hF⟩ := bd1_at hF
        refine rcall (va_runV (As := [.int x1, .int x2, .int x3]) (rest := []) S (K2_slipKind l D cI cZ cS cJ aL aW wm wW x1 x2 x3 q8 h7) (cwV 3 hts (gd_V wd_687 wd_673 wd_674 wd_24 wd_675) rfl rfl rfl hd2_slipKind ⟨Nat.le_of_ble_eq_true rfl, Nat.le_of_ble_eq_true rfl⟩) (rPreV hK (hP.sub (ws' := (W2 cI aL aW wm wW)) [2, 3] rfl) (ci := 2) (q := (RX2, TX2, 2)) rfl rfl) rfl rfl hl.1 rfl (lv_room (Nat.le_of_ble_eq_true rfl)) dX5_slip_22 ⟨(Nat.zero_le _), (Nat.zero_le _)⟩) ?_
        have hF := nt_some hF
        exact rret hF hx hb hr hlocks dX5_slip_25
      · have hF := ite_f c11 hF
        exact (nt_no hF c11).elim
    · have hF := ite_f c10 hF
      exact (nt_no hF c10).elim
  · have hF := ite_f c9 hF
    exact (nt_no hF c9).elim
