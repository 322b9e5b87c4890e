/-! ===== my second kit: rows that agree, methods that throw ===== -/
/-- the three exceptions, by the law's numbers -/
def exn (k : Nat) : String := if k = 1 then "java/lang/IndexOutOfBoundsException" else if k = 2 then "java/lang/IllegalArgumentException" else "java/lang/IllegalStateException"
/-- the words of a throw that don't travel by themselves -/
def gxw : List Cond := [.castable "java/lang/IndexOutOfBoundsException" "java/lang/IndexOutOfBoundsException", .castable "java/lang/IllegalArgumentException" "java/lang/IllegalArgumentException", .castable "java/lang/IllegalStateException" "java/lang/IllegalStateException",
  .declares ⟨"java/lang/RuntimeException", "<init>", "(Ljava/lang/String;)V"⟩, .declares ⟨"java/lang/Exception", "<init>", "(Ljava/lang/String;)V"⟩, .declares ⟨"java/lang/Throwable", "<init>", "(Ljava/lang/String;)V"⟩]
theorem gxw_warm {s U : State} (hW : s.WarmedH U.vm) (h : ∀ w ∈ gxw, va_Nw w s) : ∀ w ∈ gxw, va_Nw w U := by
  intro w hw
  have h1 := h w hw
  simp only [gxw, List.mem_cons, List.not_mem_nil, or_false] at hw
  rcases hw with rfl | rfl | rfl | rfl | rfl | rfl <;> first | exact va_Nw.warmC hW h1 | exact va_Nw.warmD hW h1
theorem gxw_tabs : ∀ w ∈ gxw, w.onTables = true := by decide +kernel
theorem at167g : ∀ w ∈ (vx_atS RX5 167 "java/lang/IndexOutOfBoundsException" ["java/lang/RuntimeException", "java/lang/Exception"]).filter goodWord, w ∈ lw_all := by decide +kernel
theorem at167b : ∀ w ∈ (vx_atS RX5 167 "java/lang/IndexOutOfBoundsException" ["java/lang/RuntimeException", "java/lang/Exception"]).filter (fun w => !goodWord w), w ∈ gxw := by decide +kernel
theorem ot167 : ∀ w ∈ Cond.classLink RX5 163 "java/lang/IndexOutOfBoundsException" :: Cond.initialized "java/lang/IndexOutOfBoundsException" :: vx_atS RX5 167 "java/lang/IndexOutOfBoundsException" ["java/lang/RuntimeException", "java/lang/Exception"], vx_ot w = true := by decide +kernel
theorem at38g : ∀ w ∈ (vx_atS RX5 38 "java/lang/IllegalArgumentException" ["java/lang/RuntimeException", "java/lang/Exception"]).filter goodWord, w ∈ lw_all := by decide +kernel
theorem at38b : ∀ w ∈ (vx_atS RX5 38 "java/lang/IllegalArgumentException" ["java/lang/RuntimeException", "java/lang/Exception"]).filter (fun w => !goodWord w), w ∈ gxw := by decide +kernel
theorem ot38 : ∀ w ∈ Cond.classLink RX5 34 "java/lang/IllegalArgumentException" :: Cond.initialized "java/lang/IllegalArgumentException" :: vx_atS RX5 38 "java/lang/IllegalArgumentException" ["java/lang/RuntimeException", "java/lang/Exception"], vx_ot w = true := by decide +kernel
theorem at118g : ∀ w ∈ (vx_atS RX5 118 "java/lang/IllegalStateException" ["java/lang/RuntimeException", "java/lang/Exception"]).filter goodWord, w ∈ lw_all := by decide +kernel
theorem at118b : ∀ w ∈ (vx_atS RX5 118 "java/lang/IllegalStateException" ["java/lang/RuntimeException", "java/lang/Exception"]).filter (fun w => !goodWord w), w ∈ gxw := by decide +kernel
theorem ot118 : ∀ w ∈ Cond.classLink RX5 114 "java/lang/IllegalStateException" :: Cond.initialized "java/lang/IllegalStateException" :: vx_atS RX5 118 "java/lang/IllegalStateException" ["java/lang/RuntimeException", "java/lang/Exception"], vx_ot w = true := by decide +kernel
def strs : List (Nat × String) := [(108, "a character code is 33 to 126"), (116, "the buffer is full"), (131, "the buffer is not a complete order text"), (139, "no state is saved"), (158, "the slot is empty"), (165, "there is no such cheque"), (177, "a cheque has the numbers 0 to 4"), (179, "there is no such book"), (181, "a book has the numbers 0 to 8"), (186, "a bank has the numbers 0 to 17"), (197, "a rank is not negative"), (214, "there is no such position"), (216, "kind and way are 0 or 1"), (233, "a rank is NONE or not negative"), (245, "there is no such serial"), (247, "a letter is 0 to 25"), (249, "a kind of slips is 0 to 2"), (251, "a slot is 0 or 1"), (253, "there is no such serial or cheque"), (255, "a number is out of range"), (257, "the books do not allow it"), (36, "a weight is 1 to 9"), (59, "a modulus is 7 to 26")]
/-- what a throwing method needs of the tables -/
def gX (U : State) : Prop := (∀ q ∈ strs, ∃ sa, vk_R RX5 q.1 q.2 sa U) ∧ ∀ w ∈ gxw, va_Nw w U
theorem gX.warm {s U : State} (hW : s.WarmedH U.vm) (h : gX s) : gX U := ⟨fun q hq => by obtain ⟨sa, h1⟩ := h.1 q hq; exact ⟨sa, h1.warm hW⟩, gxw_warm hW h.2⟩
theorem gX.same {s U : State} (hW : s.vm = U.vm) (h : gX s) : gX U := ⟨fun q hq => by obtain ⟨sa, h1⟩ := h.1 q hq; exact ⟨sa, vk_R.same hW.symm h1⟩, fun w hw => va_Nw.same (gxw_tabs w hw) hW (h.2 w hw)⟩
/-- the two statics that a new exception reads -/
def gZ (A : Nat → Prop) (U : State) (H : Heap) : Prop := vx_Zq Bundle.tN "UNASSIGNED_STACK" Bundle.steD A U H ∧ vx_Zq Bundle.tN "SUPPRESSED_SENTINEL" Bundle.listD A U H
theorem gZ.moved {A : Nat → Prop} {u U : State} {H : Heap} (hvm : u.vm.Alike U.vm) (h : gZ A u H) : gZ A U H := ⟨vx_Zq.moved hvm h.1, vx_Zq.moved hvm h.2⟩
theorem gZ.kept {A : Nat → Prop} {U : State} {H H1 : Heap} (h : gZ A U H) (hq : ∀ a : Nat, a < H.size → ¬ A a → H1[a]? = H[a]?) : gZ A U H1 := ⟨h.1.kept hq, h.2.kept hq⟩
theorem gZ.narrow {A B : Nat → Prop} {U : State} {H : Heap} (h : gZ A U H) (hAB : ∀ q, B q → A q) : gZ B U H := ⟨h.1.narrow hAB, h.2.narrow hAB⟩
/-- a method that returns (k = 0) or throws (k: which), told by one program -/
def xP (D : va_G) (tys : List (ClassId × FieldType)) (ws : va_W) (av : List Value) : Array Value → State → Prop := fun v U => v = av.toArray ∧ gK D tys U ∧ va_P D vwCl ws U.heap ∧ va_D (fun _ => True) ws ∧ gX U ∧ gZ (uA ws) U U.heap
theorem xP_blind (D : va_G) (tys : List (ClassId × FieldType)) (ws : va_W) (av : List Value) : FrameBlind (xP D tys ws av) := fun _ U g mk h => ⟨h.1, h.2.1.same rfl, h.2.2.1, h.2.2.2.1, gX.same (s := U) rfl h.2.2.2.2.1, h.2.2.2.2.2.moved (u := U) (Vm.Alike.refl U.vm)⟩
def xQ (D : va_G) (k : Nat) (v : Option Value) (A : Nat → Prop) (ws' : va_W) : Array Value → State → Outcome → State → Prop := fun _ st o t => k = 0 ∧ o = .returned v ∧ va_P D vwCl ws' t.heap ∧ va_F A st t
def xX (D : va_G) (k : Nat) (A : Nat → Prop) (ws' : va_W) : String → State → State → Prop := fun E st t => k ≠ 0 ∧ E = exn k ∧ va_P D vwCl ws' t.heap ∧ va_F A st t
section XRows
variable {p : Program} {l : Launch} {e : Env} {R : Room} {s : State} {m : MethodId} {args : Array Value} {below : List Frame} {meth : Method} {c : Code} {H : Heap} {locs : List Loc} {cells slots : Nat} {Q : State → Prop}
variable {cc : ByteArray} {pc : Nat} {ls : Array Slot} {rest st : List Value} {D : va_G} {A : Nat → Prop} {tys : List (ClassId × FieldType)} {ws wc wc' : va_W}
variable {n index : Nat} {own C : String} {b : Addr} {As : List Value} {v : Value} {k mc ms : Nat}
theorem xPreV {A0 : Nat → Prop} (hK : gK D tys s) (hX : gX s) (hZ : gZ A0 s s.heap) (hS : va_S A0 s.heap H locs) (hDw : va_D A0 ws) (is : List Nat) (hwc : is.map (fun i => ws[i]?) = wc.map some) (hP : va_P D vwCl wc H) (hD : va_D A wc) {ci : Nat} {fs : List Value} {q : vw_C} (h0 : wc[0]? = some (b, .inr (ci, fs))) (hc : vwCl[ci]? = some q) : PreV s H q.1 b (xP D tys wc (.ref b :: As)) As :=
  ⟨xP_blind D tys wc _, va_recv hK.1 hP hc h0, fun U hU hW => ⟨rfl, hK.warm hW, by rw [hU]; exact hP, hD.weaken (fun _ _ _ _ => trivial), hX.warm hW, by rw [hU]; exact ((hZ.kept hS.2.1).narrow (uA.of hDw is hwc)).moved hW.alike⟩⟩
theorem xPreS {A0 : Nat → Prop} (hK : gK D tys s) (hX : gX s) (hZ : gZ A0 s s.heap) (hS : va_S A0 s.heap H locs) (hDw : va_D A0 ws) (is : List Nat) (hwc : is.map (fun i => ws[i]?) = wc.map some) (hP : va_P D vwCl wc H) (hD : va_D A wc) : PreS s H (xP D tys wc As) As :=
  ⟨xP_blind D tys wc _, fun U hU hW => ⟨rfl, hK.warm hW, by rw [hU]; exact hP, hD.weaken (fun _ _ _ _ => trivial), hX.warm hW, by rw [hU]; exact ((hZ.kept hS.2.1).narrow (uA.of hDw is hwc)).moved hW.alike⟩⟩
theorem xcall {a : Array Value} {st0 : List Value} {v : Option Value} {H0 : Heap} (hr : vx_Run p l e R s m args below meth c H locs cells slots mc ms (F0 m pc ls st0) rest (xQ D k v (uA wc) wc' a) (xX D k (uA wc) wc') (uA wc)) (hS : va_S A H0 H locs) (hP : va_P D vwCl ws H) (hD : va_D A ws) (is : List Nat) (hwc : is.map (fun i => ws[i]?) = wc.map some) (hl : wc'.length = is.length) {ws' : va_W} (hws : va_puts ws is wc' = ws') (hwd : ws'.map (fun x => x.1) = ws.map (fun x => x.1))
    (kx : ∀ (ce : Cell) (q9 : Addr) (H1 : Heap) (locs1 : List Loc), k ≠ 0 → va_P D vwCl ws' H1 → va_D A ws' → va_S A H0 H1 locs1 → H1[q9]? = some ce → ce.vm = .none → s.vm.findClass (exn k) = some ce.cls → vx_W p l e R s m args below meth c H1 locs1 (cells + mc) (slots + ms) Q (F0 m pc ls rest) q9)
    (kk : ∀ (H1 : Heap) (locs1 : List Loc), k = 0 → va_P D vwCl ws' H1 → va_D A ws' → va_S A H0 H1 locs1 → W p l e R s m args below meth c H1 locs1 (cells + mc) (slots + ms) Q (F0 m (pc + 3) ls (v.toList ++ rest))) : W p l e R s m args below meth c H locs cells slots Q (F0 m pc ls st0) := by
  intro T hT X
  have hA := uA.of hD is hwc
  rcases hr T hT X with ⟨v', st₀, t, T', L, h0, X', hL, e1, e2, ⟨hk0, hv, hP1, hF⟩, st⟩ | ⟨q, st₀, t, T', L, E, ce, h0, X', hL, e1, e2, ⟨hk0, rfl, hP1, hF⟩, hce, hcv, hcl, st⟩
  · cases hv
    obtain ⟨k1, k2, k3⟩ := vx_keep h0 e1 hS (fun q _ h => hA q h) hA hL hF
    subst hws
    obtain ⟨t2, a1, b1⟩ := kk T'.heap (locs ++ L) hk0 (hP.puts hD is hwc hl k2 (by rw [e1]; exact hP1)) (hD.alike hwd) k3 T' rfl X'
    exact ⟨t2, st t2 a1, b1⟩
  · obtain ⟨k1, k2, k3⟩ := vx_keep h0 e1 hS (fun q _ h => hA q h) hA hL hF
    subst hws
    obtain ⟨t2, a1, b1⟩ := kx ce q T'.heap (locs ++ L) hk0 (hP.puts hD is hwc hl k2 (by rw [e1]; exact hP1)) (hD.alike hwd) k3 (by rw [e1]; exact hce) hcv hcl T' rfl X'
    exact ⟨t2, st.trans a1, b1⟩
/-- throw new X(text) -/
theorem xthrow {own cls text : String} {names : List String} {ik is ic : Nat} {A0 : Nat → Prop} {ws' : va_W} {v : Option Value} (hcl : cls = exn k) (hk0 : k ≠ 0) (hexec : p.tables.exec = Jvm.exec) (hb : c.code = cc) (hl : l.stackTraces = false) (hown : s.vm.findClass own = some m.cls) (hcls : Bundle.fit cls = true) (hnames : ∀ n ∈ names, Bundle.fit n = true)
    (hk : (Cond.classLink own ik cls).before args s = true) (hini : (Cond.initialized cls).before args s = true) (hstr : ∃ sa, vk_R own is text sa s) (hg : ∀ w ∈ (vx_atS own ic cls names).filter goodWord, w ∈ lw_all) (hbd : ∀ w ∈ (vx_atS own ic cls names).filter (fun w => !goodWord w), w ∈ gxw) (hts : ∀ w ∈ lw_all, w.before args s = true) (hX : gX s)
    (hgood : ∀ w ∈ Cond.classLink own ik cls :: Cond.initialized cls :: vx_atS own ic cls names, vx_ot w = true) (hZ : gZ A0 s s.heap) (hS : va_S A0 s.heap H locs) (hsize : ls.size = c.maxLocals)
    (d0 : decode cc pc = .ok (.new ik, 3)) (d3 : decode cc (pc + 3) = .ok (.dup, 1)) (d4 : decode cc (pc + 4) = .ok (.ldc is, 2)) (d6 : decode cc (pc + 6) = .ok (.invokespecial ic, 3)) (d9 : decode cc (pc + 9) = .ok (.athrow, 1))
    (hout : ∀ x ∈ c.exceptionTable.toList, False) (hRframes : names.length + 3 < R.frames) (hRlocals : (rest.map fun v => v.category).sum + (13 * (names.length + 1) + 43) ≤ R.locals) (hRcells : cells + 1 ≤ R.cells) (hRslots : slots + 6 ≤ R.slots) (hlocks : meth.locks = false)
    (hP : va_P D vwCl ws' H) (hc : cells + 1 ≤ mc) (hs : slots + 6 ≤ ms) :
    W p l e R s m args below meth c H locs cells slots (vx_MQ below (xQ D k v A0 ws') (xX D k A0 ws') args s mc ms A0) (F0 m pc ls rest) := by
  obtain ⟨sa, hstr⟩ := hstr
  refine vx_throwS hexec hb hl hown hcls hnames hk hini hstr (vx_hat (B := gxw) (fun w hw => hts w (hg w hw)) hbd (fun w hw => va_Nw.use (gxw_tabs w hw) (hX.2 w hw))) hgood hZ.1 hZ.2 hS hsize d0 d3 d4 d6 d9 (fun x hx => (hout x hx).elim) hRframes hRlocals hRcells hRslots hlocks (fun t _ hz hq => ⟨hk0, hcl, hP.kept (fun i q hi => hq q.1 (hP i q hi).lt), ?_⟩) hS.2.2 hc hs
  exact ⟨Nat.le_trans hS.1 hz, fun q h1 h2 => by rw [hq q (Nat.lt_of_lt_of_le h1 hS.1)]; exact hS.2.1 q h1 h2⟩
theorem xthrowW {own cls text : String} {names : List String} {ik is ic : Nat} {A0 : Nat → Prop} {ws' : va_W} {v : Option Value} (hcl : cls = exn k) (hk0 : k ≠ 0) (hexec : p.tables.exec = Jvm.exec) (hb : c.code = cc) (hl : l.stackTraces = false) (hown : s.vm.findClass own = some m.cls) (hcls : Bundle.fit cls = true) (hnames : ∀ n ∈ names, Bundle.fit n = true)
    (hk : (Cond.classLink own ik cls).before args s = true) (hini : (Cond.initialized cls).before args s = true) (hstr : ∃ sa, vk_R own is text sa s) (hg : ∀ w ∈ (vx_atS own ic cls names).filter goodWord, w ∈ lw_all) (hbd : ∀ w ∈ (vx_atS own ic cls names).filter (fun w => !goodWord w), w ∈ gxw) (hts : ∀ w ∈ lw_all, w.before args s = true) (hX : gX s)
    (hgood : ∀ w ∈ Cond.classLink own ik cls :: Cond.initialized cls :: vx_atS own ic cls names, vx_ot w = true) (hZ : gZ A0 s s.heap) (hS : va_S A0 s.heap H locs) (hsize : ls.size = c.maxLocals)
    (d0 : decode cc pc = .ok (.new ik, 3)) (d3 : decode cc (pc + 3) = .ok (.dup, 1)) (d4 : decode cc (pc + 4) = .ok (.ldc_w is, 3)) (d7 : decode cc (pc + 7) = .ok (.invokespecial ic, 3)) (d10 : decode cc (pc + 10) = .ok (.athrow, 1))
    (hout : ∀ x ∈ c.exceptionTable.toList, False) (hRframes : names.length + 3 < R.frames) (hRlocals : (rest.map fun v => v.category).sum + (13 * (names.length + 1) + 43) ≤ R.locals) (hRcells : cells + 1 ≤ R.cells) (hRslots : slots + 6 ≤ R.slots) (hlocks : meth.locks = false)
    (hP : va_P D vwCl ws' H) (hc : cells + 1 ≤ mc) (hs : slots + 6 ≤ ms) :
    W p l e R s m args below meth c H locs cells slots (vx_MQ below (xQ D k v A0 ws') (xX D k A0 ws') args s mc ms A0) (F0 m pc ls rest) := by
  obtain ⟨sa, hstr⟩ := hstr
  refine vx_throwSW hexec hb hl hown hcls hnames hk hini hstr (vx_hat (B := gxw) (fun w hw => hts w (hg w hw)) hbd (fun w hw => va_Nw.use (gxw_tabs w hw) (hX.2 w hw))) hgood hZ.1 hZ.2 hS hsize d0 d3 d4 d7 d10 (fun x hx => (hout x hx).elim) hRframes hRlocals hRcells hRslots hlocks (fun t _ hz hq => ⟨hk0, hcl, hP.kept (fun i q hi => hq q.1 (hP i q hi).lt), ?_⟩) hS.2.2 hc hs
  exact ⟨Nat.le_trans hS.1 hz, fun q h1 h2 => by rw [hq q (Nat.lt_of_lt_of_le h1 hS.1)]; exact hS.2.1 q h1 h2⟩
/-- a callee's exception goes on to the caller -/
theorem xout {A0 : Nat → Prop} {ws' : va_W} {v : Option Value} {ce : Cell} {q : Addr} (hk : k ≠ 0) (hout : ∀ x ∈ c.exceptionTable.toList, False) (hlocks : meth.locks = false) (hcell : H[q]? = some ce) (hv : ce.vm = .none) (hcl : s.vm.findClass (exn k) = some ce.cls) (hP : va_P D vwCl ws' H) (hS : va_S A0 s.heap H locs) (hc : cells ≤ mc) (hs : slots ≤ ms) :
    vx_W p l e R s m args below meth c H locs cells slots (vx_MQ below (xQ D k v A0 ws') (xX D k A0 ws') args s mc ms A0) (F0 m pc ls rest) q :=
  vx_out (fun x hx => (hout x hx).elim) hlocks hcell hv hcl (fun t ht _ => ⟨hk, rfl, by rw [ht]; exact hP, hS.F ht⟩) hS.2.2 hc hs
theorem xreti {x : Int32} {A0 : Nat → Prop} {ws' : va_W} (h1 : cells ≤ mc) (h2 : slots ≤ ms) (hx : p.tables.exec = Jvm.exec) (hb : c.code = cc) (hr : meth.sig.returnType = some .int) (hlocks : meth.locks = false) (hP : va_P D vwCl ws' H) (hS : va_S A0 s.heap H locs) (hdg : decode cc pc = .ok (.ireturn, 1)) :
    W p l e R s m args below meth c H locs cells slots (vx_MQ below (xQ D 0 (some (.int x)) A0 ws') (xX D 0 A0 ws') args s mc ms A0) (F0 m pc ls [.int x]) :=
  vx_ret (W.widen h1 h2 (W.iret hx hb hr (fun t ht hW => ⟨rfl, rfl, by rw [ht]; exact hP, hS.F ht⟩) hS.2.2 hdg hlocks))
theorem xretz {x : Int32} {A0 : Nat → Prop} {ws' : va_W} (h1 : cells ≤ mc) (h2 : slots ≤ ms) (hz : isZ x) (hx : p.tables.exec = Jvm.exec) (hb : c.code = cc) (hr : meth.sig.returnType = some .boolean) (hlocks : meth.locks = false) (hP : va_P D vwCl ws' H) (hS : va_S A0 s.heap H locs) (hdg : decode cc pc = .ok (.ireturn, 1)) :
    W p l e R s m args below meth c H locs cells slots (vx_MQ below (xQ D 0 (some (.int x)) A0 ws') (xX D 0 A0 ws') args s mc ms A0) (F0 m pc ls [.int x]) :=
  vx_ret (W.widen h1 h2 (W.zret hx hb hr (isZ_nar hz) (fun t ht hW => ⟨rfl, rfl, by rw [ht]; exact hP, hS.F ht⟩) hS.2.2 hdg hlocks))
theorem xretv {A0 : Nat → Prop} {ws' : va_W} (h1 : cells ≤ mc) (h2 : slots ≤ ms) (hx : p.tables.exec = Jvm.exec) (hb : c.code = cc) (hr : meth.sig.returnType = none) (hlocks : meth.locks = false) (hP : va_P D vwCl ws' H) (hS : va_S A0 s.heap H locs) (hdg : decode cc pc = .ok (.return_, 1)) :
    W p l e R s m args below meth c H locs cells slots (vx_MQ below (xQ D 0 none A0 ws') (xX D 0 A0 ws') args s mc ms A0) (F0 m pc ls []) :=
  vx_ret (W.widen h1 h2 (W.vret hx hb hr (fun t ht hW => ⟨rfl, rfl, by rw [ht]; exact hP, hS.F ht⟩) hS.2.2 hdg hlocks))
end XRows
