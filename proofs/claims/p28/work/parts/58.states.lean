
/-! ===== states as one value; calls on a whole world; the law's own judgements ===== -/
abbrev ST : Type := SV × Int32 × (Nat → Int32) × Int32 × (Nat → Int32) × Nat × (Nat → SV) × (Nat → SV)
abbrev AD : Type := Nat × SA × Nat × Nat × Nat × Nat × Nat × Nat × (Nat → SA) × (Nat → SA)
/-- no addresses: programs never look at them -/
def dA : Nat → SA := fun _ => (0, 0, 0, 0, 0, 0, 0, 0)
def rotn : Nat → (Nat → SA) → (Nat → SA)
  | 0, f => f
  | n + 1, f => rotA (rotn n f)
/-- the object's cells: where they lie, what they hold -/
def WS (cI cZ cS : ClassId) (a : AD) (st : ST) : va_W := (W5x cI a.1 a.2.1.1 a.2.1.2.1 a.2.1.2.2.1 a.2.1.2.2.2.1 a.2.1.2.2.2.2.1 a.2.1.2.2.2.2.2.1 a.2.1.2.2.2.2.2.2.1 a.2.1.2.2.2.2.2.2.2 a.2.2.1 a.2.2.2.1 a.2.2.2.2.1 st.1.1 st.1.2.1 st.1.2.2.1 st.1.2.2.2.1 st.1.2.2.2.2.1 st.1.2.2.2.2.2.1 st.1.2.2.2.2.2.2.1 st.1.2.2.2.2.2.2.2 st.2.1 st.2.2.1) ++ (HB cI cZ cS a.2.2.2.2.1 a.2.2.2.2.2.1 a.2.2.2.2.2.2.1 a.2.2.2.2.2.2.2.1 st.2.2.2.1 st.2.2.2.2.1 (rotn st.2.2.2.2.2.1 a.2.2.2.2.2.2.2.2.1) st.2.2.2.2.2.2.1 a.2.2.2.2.2.2.2.2.2 st.2.2.2.2.2.2.2)
/-- a new object's state -/
def st0 : ST := ((0, 11, iW, 0, i0, i0, i0, i0), 0, i0, 0, i0, 0, fun _ => iV, fun _ => iV)
theorem WS_0 (cI cZ cS : ClassId) (a : AD) (st : ST) : (WS cI cZ cS a st)[0]? = some (a.1, .inr (5, [.ref a.2.1.1, .ref a.2.2.2.2.1, .ref a.2.2.1])) := rfl
theorem WS_alike {A : Nat → Prop} {cI cZ cS : ClassId} {a : AD} {st st' : ST} (h : va_D A (WS cI cZ cS a st)) (e : st'.2.2.2.2.2.1 = st.2.2.2.2.2.1) : va_D A (WS cI cZ cS a st') := by
  refine h.alike ?_
  unfold WS
  rw [e]
  rfl
theorem WS_up {A : Nat → Prop} {cI cZ cS : ClassId} {a : AD} {v : SV} {ol : Int32} {oS : Nat → Int32} {kd : Int32} {kf : Nat → Int32} {n : Nat} {kV kP : Nat → SV} (h : va_D A (WS cI cZ cS a (v, ol, oS, kd, kf, n, kV, kP))) : va_D A (WS cI cZ cS a (v, ol, oS, kd, kf, n + 1, kV, kP)) :=
  (rot_D cI cZ cS _ _ _ _ _ _ _ _ _ _ _ _ _ _ _ _ _ _ _ _ _ _ _ _ _ _ _ _ _ _ _ h).alike rfl
theorem WS_dn {A : Nat → Prop} {cI cZ cS : ClassId} {a : AD} {v : SV} {ol : Int32} {oS : Nat → Int32} {kd : Int32} {kf : Nat → Int32} {n : Nat} {kV kP : Nat → SV} (h : va_D A (WS cI cZ cS a (v, ol, oS, kd, kf, n + 1, kV, kP))) : va_D A (WS cI cZ cS a (v, ol, oS, kd, kf, n, kV, kP)) :=
  (WS_up (WS_up (WS_up (WS_up (WS_up h))))).alike rfl
/-- another state's cells: as far apart -/
theorem WS_D {A : Nat → Prop} {cI cZ cS : ClassId} {a : AD} {st : ST} (st' : ST) (h : va_D A (WS cI cZ cS a st)) : va_D A (WS cI cZ cS a st') := by
  have dn : ∀ d : Nat, va_D A (WS cI cZ cS a (st.1, st.2.1, st.2.2.1, st.2.2.2.1, st.2.2.2.2.1, d, st.2.2.2.2.2.2.1, st.2.2.2.2.2.2.2)) → va_D A (WS cI cZ cS a (st.1, st.2.1, st.2.2.1, st.2.2.2.1, st.2.2.2.2.1, 0, st.2.2.2.2.2.2.1, st.2.2.2.2.2.2.2)) := by
    intro d
    induction d with
    | zero => exact fun h => h
    | succ d ih => exact fun h => ih (WS_dn h)
  have key : ∀ d : Nat, va_D A (WS cI cZ cS a (st.1, st.2.1, st.2.2.1, st.2.2.2.1, st.2.2.2.2.1, d, st.2.2.2.2.2.2.1, st.2.2.2.2.2.2.2)) := by
    intro d
    induction d with
    | zero => exact dn _ h
    | succ d ih => exact WS_up ih
  exact WS_alike (key st'.2.2.2.2.2.1) rfl
theorem rotn_if {c : Prop} [Decidable c] {n : Nat} {f : Nat → SA} : rotn (if c then n + 1 else n) f = if c then rotA (rotn n f) else rotn n f := by
  split <;> rfl
/-- one program's answers, told of another's: the same but for the addresses -/
def Rl {α : Type} (φ : α → α) (X Y : Option α) : Prop := ∀ z, X = some z → Y = some (φ z)
section RlRows
variable {α β γ δ ε ζ η θ ι κ : Type} {φ : α → α}
theorem rl_ite {c : Prop} {d : Decidable c} {x y x' y' : Option α} (h1 : c → Rl φ x x') (h2 : ¬ c → Rl φ y y') : Rl φ (@ite _ c d x y) (@ite _ c d x' y') := by
  by_cases h : c
  · rw [if_pos h, if_pos h]; exact h1 h
  · rw [if_neg h, if_neg h]; exact h2 h
theorem rl_none {y : Option α} : Rl φ none y := fun z h => by cases h
theorem rl_some {z z' : α} (h : z' = φ z) : Rl φ (some z) (some z') := fun w e => by
  cases e
  rw [h]
theorem rl_lt {a : β} {f g : β → Option α} (h : ∀ a, Rl φ (f a) (g a)) : Rl φ (lt_ a f) (lt_ a g) := h a
theorem rl_bd1 {x : Option β} {f g : β → Option α} (h : ∀ a, Rl φ (f a) (g a)) : Rl φ (bd1 x f) (bd1 x g) := by
  cases x with
  | none => exact rl_none
  | some a => exact h a
theorem rl_bd2 {x : Option (β × γ)} {f g : β → γ → Option α} (h : ∀ a b, Rl φ (f a b) (g a b)) : Rl φ (bd2 x f) (bd2 x g) := by
  cases x with
  | none => exact rl_none
  | some a => exact h _ _
theorem rl_bd3 {x : Option (β × γ × δ)} {f g : β → γ → δ → Option α} (h : ∀ a b c, Rl φ (f a b c) (g a b c)) : Rl φ (bd3 x f) (bd3 x g) := by
  cases x with
  | none => exact rl_none
  | some a => exact h _ _ _
theorem rl_bd4 {x : Option (β × γ × δ × ε)} {f g : β → γ → δ → ε → Option α} (h : ∀ a b c d, Rl φ (f a b c d) (g a b c d)) : Rl φ (bd4 x f) (bd4 x g) := by
  cases x with
  | none => exact rl_none
  | some a => exact h _ _ _ _
theorem rl_bd6 {x : Option (β × γ × δ × ε × ζ × η)} {f g : β → γ → δ → ε → ζ → η → Option α} (h : ∀ a b c d e z, Rl φ (f a b c d e z) (g a b c d e z)) : Rl φ (bd6 x f) (bd6 x g) := by
  cases x with
  | none => exact rl_none
  | some a => exact h _ _ _ _ _ _
theorem rl_bd7 {x : Option (β × γ × δ × ε × ζ × η × θ)} {f g : β → γ → δ → ε → ζ → η → θ → Option α} (h : ∀ a b c d e z t, Rl φ (f a b c d e z t) (g a b c d e z t)) : Rl φ (bd7 x f) (bd7 x g) := by
  cases x with
  | none => exact rl_none
  | some a => exact h _ _ _ _ _ _ _
theorem rl_bd8 {x : Option (β × γ × δ × ε × ζ × η × θ × ι)} {f g : β → γ → δ → ε → ζ → η → θ → ι → Option α} (h : ∀ a b c d e z t i, Rl φ (f a b c d e z t i) (g a b c d e z t i)) : Rl φ (bd8 x f) (bd8 x g) := by
  cases x with
  | none => exact rl_none
  | some a => exact h _ _ _ _ _ _ _ _
end RlRows
theorem save_a (kd : Int32) (kA : Nat → SA) (kV : Nat → SV) (sr wm : Int32) (wW : Nat → Int32) (bh : Int32) (bF bZ bK bM : Nat → Int32) {a : Int32} {b : Nat → SA} {c : Nat → SV} (h : f1_save kd dA kV sr wm wW bh bF bZ bK bM = some (a, b, c)) : f1_save kd kA kV sr wm wW bh bF bZ bK bM = some (a, if kd = 6 then rotA kA else kA, c) := by
  unfold f1_save at h ⊢
  by_cases h0 : kd = 0
  · subst h0; cases h; rfl
  by_cases h1 : kd = 1
  · subst h1; cases h; rfl
  by_cases h2 : kd = 2
  · subst h2; cases h; rfl
  by_cases h3 : kd = 3
  · subst h3; cases h; rfl
  by_cases h4 : kd = 4
  · subst h4; cases h; rfl
  by_cases h5 : kd = 5
  · subst h5; cases h; rfl
  by_cases h6 : kd = 6
  · subst h6; cases h; rfl
  · rw [if_neg h0, if_neg h1, if_neg h2, if_neg h3, if_neg h4, if_neg h5, if_neg h6] at h
    cases h
theorem rl_save {α : Type} {φ : α → α} {kd : Int32} {kA : Nat → SA} {kV : Nat → SV} {sr wm : Int32} {wW : Nat → Int32} {bh : Int32} {bF bZ bK bM : Nat → Int32} {f g : Int32 → (Nat → SA) → (Nat → SV) → Option α} (h : ∀ a b c, Rl φ (f a b c) (g a (if kd = 6 then rotA kA else kA) c)) : Rl φ (bd3 (f1_save kd dA kV sr wm wW bh bF bZ bK bM) f) (bd3 (f1_save kd kA kV sr wm wW bh bF bZ bK bM) g) := by
  cases e : f1_save kd dA kV sr wm wW bh bF bZ bK bM with
  | none => exact rl_none
  | some z =>
    have h1 := save_a kd kA kV sr wm wW bh bF bZ bK bM e
    rw [h1]
    exact h _ _ _
/-- what a caught exception becomes -/
def cv (k : Nat) (r : Int32) : Int32 := if k = 0 then r else if k = 1 then -11 else if k = 2 then -12 else -13
/-- an end that tells nothing of the cells made -/
def nQ (v : Value) (A : Nat → Prop) : Array Value → State → Outcome → State → Prop := fun _ st o t => o = .returned (some v) ∧ va_F A st t
/-- a maker's start: no argument, no world -/
def nP (D : va_G) (tys : List (ClassId × FieldType)) (sz : Nat) : Array Value → State → Prop := fun v U => v = #[] ∧ U.heap.size = sz ∧ gK D tys U ∧ gM U ∧ gX U ∧ gZ (fun q => sz ≤ q) U U.heap ∧ gY U
theorem nP_blind (D : va_G) (tys : List (ClassId × FieldType)) (sz : Nat) : FrameBlind (nP D tys sz) := fun _ U _ _ h => ⟨h.1, h.2.1, h.2.2.1.same rfl, gM.same (s := U) rfl h.2.2.2.1, gX.same (s := U) rfl h.2.2.2.2.1, h.2.2.2.2.2.1.moved (u := U) (Vm.Alike.refl U.vm), h.2.2.2.2.2.2.moved (u := U) (Vm.Alike.refl U.vm)⟩
section SRows
variable {p : Program} {l : Launch} {e : Env} {R : Room} {s : State} {m : MethodId} {args : Array Value} {below : List Frame} {meth : Method} {c : Code} {H : Heap} {locs : List Loc} {cells slots : Nat} {Q : State → Prop}
variable {cc : ByteArray} {pc : Nat} {ls : Array Slot} {rest st0 : List Value} {D : va_G} {A : Nat → Prop} {tys : List (ClassId × FieldType)} {X X' Y Y' : va_W} {As : List Value} {v : Option Value} {k mc ms : Nat} {b : Addr} {H0 : Heap} {a : Array Value}
/-- a call on the whole world -/
theorem scall (hr : va_Run p l e R s m args below meth c H locs cells slots mc ms (F0 m pc ls st0) rest (uQ D v (uA X) X' a) (uA X)) (hS : va_S A H0 H locs) (hD : va_D A X)
    (kk : ∀ (H1 : Heap) (locs1 : List Loc), va_P D vwCl X' H1 → va_S A H0 H1 locs1 → W p l e R s m args below meth c H1 locs1 (cells + mc) (slots + ms) Q (F0 m (pc + 3) ls (v.toList ++ rest))) : W p l e R s m args below meth c H locs cells slots Q (F0 m pc ls st0) := by
  intro T hT X0
  have hA := uA_sub hD
  obtain ⟨v', st₀, t, T', L, h0, XX, hL, e1, e2, ⟨hv, hP1, hF⟩, st⟩ := hr T hT X0
  cases hv
  obtain ⟨k1, k2, k3⟩ := vx_keep h0 e1 hS (fun q _ h => hA q h) hA hL hF
  obtain ⟨t2, a1, b1⟩ := kk T'.heap (locs ++ L) (by rw [e1]; exact hP1) k3 T' rfl XX
  exact ⟨t2, st t2 a1, b1⟩
theorem scalli {x : Int32} (hr : va_Run p l e R s m args below meth c H locs cells slots mc ms (F0 m pc ls st0) rest (uQ D (some (.int x)) (uA X) X' a) (uA X)) (hS : va_S A H0 H locs) (hD : va_D A X)
    (kk : ∀ (H1 : Heap) (locs1 : List Loc), va_P D vwCl X' H1 → va_S A H0 H1 locs1 → W p l e R s m args below meth c H1 locs1 (cells + mc) (slots + ms) Q (F0 m (pc + 3) ls (.int x :: rest))) : W p l e R s m args below meth c H locs cells slots Q (F0 m pc ls st0) := scall hr hS hD kk
/-- a call that may throw, on the whole world -/
theorem xcallW {x : Int32} (hr : vx_Run p l e R s m args below meth c H locs cells slots mc ms (F0 m pc ls st0) rest (xQ D k (some (.int x)) (uA X) X' a) (xX D k (uA X) X') (uA X)) (hS : va_S A H0 H locs) (hD : va_D A X)
    (kx : ∀ (ce : Cell) (q9 : Addr) (H1 : Heap) (locs1 : List Loc), k ≠ 0 → va_P D vwCl X' H1 → va_S A H0 H1 locs1 → H1[q9]? = some ce → ce.vm = .none → s.vm.findClass (exn k) = some ce.cls → vx_W p l e R s m args below meth c H1 locs1 (cells + mc) (slots + ms) Q (F0 m pc ls rest) q9)
    (kk : ∀ (H1 : Heap) (locs1 : List Loc), k = 0 → va_P D vwCl X' H1 → va_S A H0 H1 locs1 → W p l e R s m args below meth c H1 locs1 (cells + mc) (slots + ms) Q (F0 m (pc + 3) ls (.int x :: rest))) : W p l e R s m args below meth c H locs cells slots Q (F0 m pc ls st0) := by
  intro T hT X0
  have hA := uA_sub hD
  rcases hr T hT X0 with ⟨v', st₀, t, T', L, h0, XX, hL, e1, e2, ⟨hk0, hv, hP1, hF⟩, st⟩ | ⟨q, st₀, t, T', L, E, ce, h0, XX, hL, e1, e2, ⟨hk0, rfl, hP1, hF⟩, hce, hcv, hcl, st⟩
  · cases hv
    obtain ⟨k1, k2, k3⟩ := vx_keep h0 e1 hS (fun q _ h => hA q h) hA hL hF
    obtain ⟨t2, a1, b1⟩ := kk T'.heap (locs ++ L) hk0 (by rw [e1]; exact hP1) k3 T' rfl XX
    exact ⟨t2, st t2 a1, b1⟩
  · obtain ⟨k1, k2, k3⟩ := vx_keep h0 e1 hS (fun q _ h => hA q h) hA hL hF
    obtain ⟨t2, a1, b1⟩ := kx ce q T'.heap (locs ++ L) hk0 (by rw [e1]; exact hP1) k3 (by rw [e1]; exact hce) hcv hcl T' rfl XX
    exact ⟨t2, st.trans a1, b1⟩
/-- a maker's call -/
theorem ncall {x : Int32} (hr : va_Run p l e R s m args below meth c H locs cells slots mc ms (F0 m pc ls st0) rest (nQ (.int x) (fun q => H.size ≤ q) a) (fun q => H.size ≤ q)) (hS : va_S A H0 H locs) (hA : ∀ q : Nat, H.size ≤ q → A q)
    (kk : ∀ (H1 : Heap) (locs1 : List Loc), va_S A H0 H1 locs1 → W p l e R s m args below meth c H1 locs1 (cells + mc) (slots + ms) Q (F0 m (pc + 3) ls (.int x :: rest))) : W p l e R s m args below meth c H locs cells slots Q (F0 m pc ls st0) := by
  intro T hT X0
  obtain ⟨v', st₀, t, T', L, h0, XX, hL, e1, e2, ⟨hv, hF⟩, st⟩ := hr T hT X0
  cases hv
  obtain ⟨k1, k2, k3⟩ := vx_keep h0 e1 hS (fun q _ h => hA q h) hA hL hF
  obtain ⟨t2, a1, b1⟩ := kk T'.heap (locs ++ L) k3 T' rfl XX
  exact ⟨t2, st t2 a1, b1⟩
theorem nPreS (hK : gK D tys s) (hM : gM s) (hX : gX s) (hZ : gZ A s s.heap) (hY : gY s) (hS : va_S A s.heap H locs) (hA : ∀ q : Nat, H.size ≤ q → A q) : PreS s H (nP D tys H.size) [] :=
  ⟨nP_blind D tys _, fun U hU hW => ⟨rfl, by rw [hU], hK.warm hW, hM.warm hW, hX.warm hW, by rw [hU]; exact ((hZ.kept hS.2.1).narrow hA).moved hW.alike, hY.moved hW.alike⟩⟩
/-- ends -/
theorem rretl {x r : Int64} (hF : some x = some r) (hx : p.tables.exec = Jvm.exec) (hb : c.code = cc) (hr : meth.sig.returnType = some .long) (hlocks : meth.locks = false) (hdg : decode cc pc = .ok (.lreturn, 1)) :
    W p l e R s m args below meth c s.heap [] cells slots (MQ below (rQ (.long r)) args s cells slots (fun _ => False)) (F0 m pc ls [.long x]) := by
  obtain rfl := Option.some.inj hF
  exact W.lret hx hb hr (fun t ht hW => ⟨rfl, ht⟩) (fun q hq => absurd hq List.not_mem_nil) hdg hlocks
theorem vretz {x : Int32} {A0 : Nat → Prop} {ws' : va_W} (h1 : cells ≤ mc) (h2 : slots ≤ ms) (hz : isZ x) (hx : p.tables.exec = Jvm.exec) (hb : c.code = cc) (hr : meth.sig.returnType = some .boolean) (hlocks : meth.locks = false) (hP : va_P D vwCl ws' H) (hS : va_S A0 s.heap H locs) (hdg : decode cc pc = .ok (.ireturn, 1)) :
    W p l e R s m args below meth c H locs cells slots (MQ below (uQ D (some (.int x)) A0 ws') args s mc ms A0) (F0 m pc ls [.int x]) :=
  W.widen h1 h2 (W.zret hx hb hr (isZ_nar hz) (fun t ht hW => ⟨rfl, by rw [ht]; exact hP, hS.F ht⟩) hS.2.2 hdg hlocks)
theorem vreti {x : Int32} {A0 : Nat → Prop} {ws' : va_W} (h1 : cells ≤ mc) (h2 : slots ≤ ms) (hx : p.tables.exec = Jvm.exec) (hb : c.code = cc) (hr : meth.sig.returnType = some .int) (hlocks : meth.locks = false) (hP : va_P D vwCl ws' H) (hS : va_S A0 s.heap H locs) (hdg : decode cc pc = .ok (.ireturn, 1)) :
    W p l e R s m args below meth c H locs cells slots (MQ below (uQ D (some (.int x)) A0 ws') args s mc ms A0) (F0 m pc ls [.int x]) :=
  W.widen h1 h2 (W.iret hx hb hr (fun t ht hW => ⟨rfl, by rw [ht]; exact hP, hS.F ht⟩) hS.2.2 hdg hlocks)
theorem nretz {x : Int32} {A0 : Nat → Prop} (h1 : cells ≤ mc) (h2 : slots ≤ ms) (hz : isZ x) (hx : p.tables.exec = Jvm.exec) (hb : c.code = cc) (hr : meth.sig.returnType = some .boolean) (hlocks : meth.locks = false) (hS : va_S A0 s.heap H locs) (hdg : decode cc pc = .ok (.ireturn, 1)) :
    W p l e R s m args below meth c H locs cells slots (MQ below (nQ (.int x) A0) args s mc ms A0) (F0 m pc ls [.int x]) :=
  W.widen h1 h2 (W.zret hx hb hr (isZ_nar hz) (fun t ht hW => ⟨rfl, hS.F ht⟩) hS.2.2 hdg hlocks)
/-- a row of longs behind the object -/
theorem w_put {cI cZ cS cJ : ClassId} {aQ n : Nat} {f : Nat → Int64} {i : Int32} {x : Int64} (hexec : p.tables.exec = Jvm.exec) (hb : c.code = cc) (hK : gK D (gT cI cZ cS cJ) s) (hP : va_P D vwCl (X ++ [(aQ, .inl (cJ, n, .inr (.inl f)))]) H) (hD : va_D A (X ++ [(aQ, .inl (cJ, n, .inr (.inl f)))])) (hS : va_S A H0 H locs) (hin : inb i n) (hdg : decode cc pc = .ok (.lastore, 1))
    (kk : ∀ (H1 : Heap) (locs1 : List Loc), va_P D vwCl (X ++ [(aQ, .inl (cJ, n, .inr (.inl (vp_updL f i.toNatClampNeg x))))]) H1 → va_D A (X ++ [(aQ, .inl (cJ, n, .inr (.inl (vp_updL f i.toNatClampNeg x))))]) → va_S A H0 H1 locs1 → W p l e R s m args below meth c H1 locs1 cells slots Q (F0 m (pc + 1) ls rest)) : W p l e R s m args below meth c H locs cells slots Q (F0 m pc ls (.long x :: .int i :: .ref aQ :: rest)) := by
  refine va_last (tys := gT cI cZ cS cJ) hexec hb hK.1 hP hD hS X.length 3 (get_last _ _) rfl hin hdg (fun H1 locs1 h1 h2 h3 => ?_)
  rw [set_last] at h1 h2
  exact kk H1 locs1 h1 h2 h3
theorem w_get {cI cZ cS cJ : ClassId} {aQ n : Nat} {f : Nat → Int64} {i : Int32} (hexec : p.tables.exec = Jvm.exec) (hb : c.code = cc) (hK : gK D (gT cI cZ cS cJ) s) (hP : va_P D vwCl (X ++ [(aQ, .inl (cJ, n, .inr (.inl f)))]) H) (hin : inb i n) (hdg : decode cc pc = .ok (.laload, 1))
    (kk : W p l e R s m args below meth c H locs cells slots Q (F0 m (pc + 1) ls (.long (f i.toNatClampNeg) :: rest))) : W p l e R s m args below meth c H locs cells slots Q (F0 m pc ls (.int i :: .ref aQ :: rest)) :=
  va_lald (tys := gT cI cZ cS cJ) hexec hb hK.1 hP X.length 3 (get_last _ _) rfl hin hdg kk
end SRows
def F_weight (st : ST) (x1 : Int32) (x2 : Int32) : Option (Nat × Int32 × ST) := bd6 (f5_weight st.1.1 st.1.2.1 st.1.2.2.1 st.1.2.2.2.1 st.1.2.2.2.2.1 st.1.2.2.2.2.2.1 st.1.2.2.2.2.2.2.1 st.1.2.2.2.2.2.2.2 st.2.2.2.1 dA st.2.2.2.2.2.2.1 x1 x2) (fun k r z_wW z_kd _ z_kV => some (k, r, ((st.1.1, st.1.2.1, z_wW, st.1.2.2.2.1, st.1.2.2.2.2.1, st.1.2.2.2.2.2.1, st.1.2.2.2.2.2.2.1, st.1.2.2.2.2.2.2.2), st.2.1, st.2.2.1, z_kd, st.2.2.2.2.1, (if k = 0 ∧ st.2.2.2.1 = 6 then st.2.2.2.2.2.1 + 1 else st.2.2.2.2.2.1), z_kV, st.2.2.2.2.2.2.2)))
theorem P_weight (sr : Int32) (wm : Int32) (wW : Nat → Int32) (bh : Int32) (bF : Nat → Int32) (bZ : Nat → Int32) (bK : Nat → Int32) (bM : Nat → Int32) (kd : Int32) (kA : Nat → SA) (kV : Nat → SV) (x1 : Int32) (x2 : Int32) : Rl (fun z => (z.1, z.2.1, z.2.2.1, z.2.2.2.1, (if z.1 = 0 ∧ kd = 6 then rotA kA else kA), z.2.2.2.2.2)) (f5_weight sr wm wW bh bF bZ bK bM kd dA kV x1 x2) (f5_weight sr wm wW bh bF bZ bK bM kd kA kV x1 x2) := by
  unfold f5_weight
  repeat (first | (refine rl_save (fun _ _ _ => ?_)) | (refine rl_bd1 (fun _ => ?_)) | (refine rl_bd2 (fun _ _ => ?_)) | (refine rl_bd3 (fun _ _ _ => ?_)) | (refine rl_bd4 (fun _ _ _ _ => ?_)) | (refine rl_bd6 (fun _ _ _ _ _ _ => ?_)) | (refine rl_bd7 (fun _ _ _ _ _ _ _ => ?_)) | (refine rl_bd8 (fun _ _ _ _ _ _ _ _ => ?_)) | (refine rl_ite (fun _ => ?_) (fun _ => ?_)) | exact rl_none | (focus (refine rl_some ?_; simp; done)) | (focus (refine rl_some ?_; simp [*]; done)))
theorem KS_weight (l : Launch) (hfl : l.stackTraces = false) (D : va_G) (cI cZ cS cJ : ClassId) (a : AD) (st : ST) (x1 : Int32) (x2 : Int32) (k : Nat) (r : Int32) (st' : ST) (hF : F_weight st x1 x2 = some (k, r, st')) : vx_Met l yX5_weight wsX5_weight rm5_weight (xP D (gT cI cZ cS cJ) (WS cI cZ cS a st) [.ref a.1, .int x1, .int x2]) (xQ D k (some (.int r)) (uA (WS cI cZ cS a st)) (WS cI cZ cS a st')) (xX D k (uA (WS cI cZ cS a st)) (WS cI cZ cS a st')) 2 12 (uA (WS cI cZ cS a st)) := by
  obtain ⟨k0, r0, z_wW, z_kd, z_kA, z_kV, h, e⟩ := bd6_at hF
  cases e
  have h := P_weight st.1.1 st.1.2.1 st.1.2.2.1 st.1.2.2.2.1 st.1.2.2.2.2.1 st.1.2.2.2.2.2.1 st.1.2.2.2.2.2.2.1 st.1.2.2.2.2.2.2.2 st.2.2.2.1 (rotn st.2.2.2.2.2.1 a.2.2.2.2.2.2.2.2.1) st.2.2.2.2.2.2.1 x1 x2 _ h
  have t := K5_weight l hfl D cI cZ cS cJ a.1 a.2.1.1 a.2.1.2.1 a.2.1.2.2.1 a.2.1.2.2.2.1 a.2.1.2.2.2.2.1 a.2.1.2.2.2.2.2.1 a.2.1.2.2.2.2.2.2.1 a.2.1.2.2.2.2.2.2.2 a.2.2.1 a.2.2.2.1 a.2.2.2.2.1 a.2.2.2.2.2.1 a.2.2.2.2.2.2.1 a.2.2.2.2.2.2.2.1 a.2.2.2.2.2.2.2.2.2 st.1.1 st.1.2.1 st.1.2.2.1 st.1.2.2.2.1 st.1.2.2.2.2.1 st.1.2.2.2.2.2.1 st.1.2.2.2.2.2.2.1 st.1.2.2.2.2.2.2.2 st.2.1 st.2.2.1 st.2.2.2.1 st.2.2.2.2.1 (rotn st.2.2.2.2.2.1 a.2.2.2.2.2.2.2.2.1) st.2.2.2.2.2.2.1 st.2.2.2.2.2.2.2 x1 x2 _ _ _ _ _ _ h
  rw [← rotn_if] at t
  exact t
theorem NS_weight (l : Launch) (D : va_G) (cI cZ cS cJ : ClassId) (a : AD) (st : ST) (x1 : Int32) (x2 : Int32) (r : Int32) (st' : ST) (hF : F_weight st x1 x2 = some (0, r, st')) : Met l yX5_weight wsX5_weight rmN5_weight (uP D (gT cI cZ cS cJ) (WS cI cZ cS a st) [.ref a.1, .int x1, .int x2]) (uQ D (some (.int r)) (uA (WS cI cZ cS a st)) (WS cI cZ cS a st')) 0 0 (uA (WS cI cZ cS a st)) := by
  obtain ⟨k0, r0, z_wW, z_kd, z_kA, z_kV, h, e⟩ := bd6_at hF
  cases e
  have h := P_weight st.1.1 st.1.2.1 st.1.2.2.1 st.1.2.2.2.1 st.1.2.2.2.2.1 st.1.2.2.2.2.2.1 st.1.2.2.2.2.2.2.1 st.1.2.2.2.2.2.2.2 st.2.2.2.1 (rotn st.2.2.2.2.2.1 a.2.2.2.2.2.2.2.2.1) st.2.2.2.2.2.2.1 x1 x2 _ h
  have t := N5_weight l D cI cZ cS cJ a.1 a.2.1.1 a.2.1.2.1 a.2.1.2.2.1 a.2.1.2.2.2.1 a.2.1.2.2.2.2.1 a.2.1.2.2.2.2.2.1 a.2.1.2.2.2.2.2.2.1 a.2.1.2.2.2.2.2.2.2 a.2.2.1 a.2.2.2.1 a.2.2.2.2.1 a.2.2.2.2.2.1 a.2.2.2.2.2.2.1 a.2.2.2.2.2.2.2.1 a.2.2.2.2.2.2.2.2.2 st.1.1 st.1.2.1 st.1.2.2.1 st.1.2.2.2.1 st.1.2.2.2.2.1 st.1.2.2.2.2.2.1 st.1.2.2.2.2.2.2.1 st.1.2.2.2.2.2.2.2 st.2.1 st.2.2.1 st.2.2.2.1 st.2.2.2.2.1 (rotn st.2.2.2.2.2.1 a.2.2.2.2.2.2.2.2.1) st.2.2.2.2.2.2.1 st.2.2.2.2.2.2.2 x1 x2 _ _ _ _ _ h
  rw [← rotn_if] at t
  exact t
def F_modulus (st : ST) (x1 : Int32) : Option (Nat × Int32 × ST) := bd6 (f5_modulus st.1.1 st.1.2.1 st.1.2.2.1 st.1.2.2.2.1 st.1.2.2.2.2.1 st.1.2.2.2.2.2.1 st.1.2.2.2.2.2.2.1 st.1.2.2.2.2.2.2.2 st.2.2.2.1 dA st.2.2.2.2.2.2.1 x1) (fun k r z_wm z_kd _ z_kV => some (k, r, ((st.1.1, z_wm, st.1.2.2.1, st.1.2.2.2.1, st.1.2.2.2.2.1, st.1.2.2.2.2.2.1, st.1.2.2.2.2.2.2.1, st.1.2.2.2.2.2.2.2), st.2.1, st.2.2.1, z_kd, st.2.2.2.2.1, (if k = 0 ∧ st.2.2.2.1 = 6 then st.2.2.2.2.2.1 + 1 else st.2.2.2.2.2.1), z_kV, st.2.2.2.2.2.2.2)))
theorem P_modulus (sr : Int32) (wm : Int32) (wW : Nat → Int32) (bh : Int32) (bF : Nat → Int32) (bZ : Nat → Int32) (bK : Nat → Int32) (bM : Nat → Int32) (kd : Int32) (kA : Nat → SA) (kV : Nat → SV) (x1 : Int32) : Rl (fun z => (z.1, z.2.1, z.2.2.1, z.2.2.2.1, (if z.1 = 0 ∧ kd = 6 then rotA kA else kA), z.2.2.2.2.2)) (f5_modulus sr wm wW bh bF bZ bK bM kd dA kV x1) (f5_modulus sr wm wW bh bF bZ bK bM kd kA kV x1) := by
  unfold f5_modulus
  repeat (first | (refine rl_save (fun _ _ _ => ?_)) | (refine rl_bd1 (fun _ => ?_)) | (refine rl_bd2 (fun _ _ => ?_)) | (refine rl_bd3 (fun _ _ _ => ?_)) | (refine rl_bd4 (fun _ _ _ _ => ?_)) | (refine rl_bd6 (fun _ _ _ _ _ _ => ?_)) | (refine rl_bd7 (fun _ _ _ _ _ _ _ => ?_)) | (refine rl_bd8 (fun _ _ _ _ _ _ _ _ => ?_)) | (refine rl_ite (fun _ => ?_) (fun _ => ?_)) | exact rl_none | (focus (refine rl_some ?_; simp; done)) | (focus (refine rl_some ?_; simp [*]; done)))
theorem KS_modulus (l : Launch) (hfl : l.stackTraces = false) (D : va_G) (cI cZ cS cJ : ClassId) (a : AD) (st : ST) (x1 : Int32) (k : Nat) (r : Int32) (st' : ST) (hF : F_modulus st x1 = some (k, r, st')) : vx_Met l yX5_modulus wsX5_modulus rm5_modulus (xP D (gT cI cZ cS cJ) (WS cI cZ cS a st) [.ref a.1, .int x1]) (xQ D k (some (.int r)) (uA (WS cI cZ cS a st)) (WS cI cZ cS a st')) (xX D k (uA (WS cI cZ cS a st)) (WS cI cZ cS a st')) 1 6 (uA (WS cI cZ cS a st)) := by
  obtain ⟨k0, r0, z_wm, z_kd, z_kA, z_kV, h, e⟩ := bd6_at hF
  cases e
  have h := P_modulus st.1.1 st.1.2.1 st.1.2.2.1 st.1.2.2.2.1 st.1.2.2.2.2.1 st.1.2.2.2.2.2.1 st.1.2.2.2.2.2.2.1 st.1.2.2.2.2.2.2.2 st.2.2.2.1 (rotn st.2.2.2.2.2.1 a.2.2.2.2.2.2.2.2.1) st.2.2.2.2.2.2.1 x1 _ h
  have t := K5_modulus l hfl D cI cZ cS cJ a.1 a.2.1.1 a.2.1.2.1 a.2.1.2.2.1 a.2.1.2.2.2.1 a.2.1.2.2.2.2.1 a.2.1.2.2.2.2.2.1 a.2.1.2.2.2.2.2.2.1 a.2.1.2.2.2.2.2.2.2 a.2.2.1 a.2.2.2.1 a.2.2.2.2.1 a.2.2.2.2.2.1 a.2.2.2.2.2.2.1 a.2.2.2.2.2.2.2.1 a.2.2.2.2.2.2.2.2.2 st.1.1 st.1.2.1 st.1.2.2.1 st.1.2.2.2.1 st.1.2.2.2.2.1 st.1.2.2.2.2.2.1 st.1.2.2.2.2.2.2.1 st.1.2.2.2.2.2.2.2 st.2.1 st.2.2.1 st.2.2.2.1 st.2.2.2.2.1 (rotn st.2.2.2.2.2.1 a.2.2.2.2.2.2.2.2.1) st.2.2.2.2.2.2.1 st.2.2.2.2.2.2.2 x1 _ _ _ _ _ _ h
  rw [← rotn_if] at t
  exact t
theorem NS_modulus (l : Launch) (D : va_G) (cI cZ cS cJ : ClassId) (a : AD) (st : ST) (x1 : Int32) (r : Int32) (st' : ST) (hF : F_modulus st x1 = some (0, r, st')) : Met l yX5_modulus wsX5_modulus rmN5_modulus (uP D (gT cI cZ cS cJ) (WS cI cZ cS a st) [.ref a.1, .int x1]) (uQ D (some (.int r)) (uA (WS cI cZ cS a st)) (WS cI cZ cS a st')) 0 0 (uA (WS cI cZ cS a st)) := by
  obtain ⟨k0, r0, z_wm, z_kd, z_kA, z_kV, h, e⟩ := bd6_at hF
  cases e
  have h := P_modulus st.1.1 st.1.2.1 st.1.2.2.1 st.1.2.2.2.1 st.1.2.2.2.2.1 st.1.2.2.2.2.2.1 st.1.2.2.2.2.2.2.1 st.1.2.2.2.2.2.2.2 st.2.2.2.1 (rotn st.2.2.2.2.2.1 a.2.2.2.2.2.2.2.2.1) st.2.2.2.2.2.2.1 x1 _ h
  have t := N5_modulus l D cI cZ cS cJ a.1 a.2.1.1 a.2.1.2.1 a.2.1.2.2.1 a.2.1.2.2.2.1 a.2.1.2.2.2.2.1 a.2.1.2.2.2.2.2.1 a.2.1.2.2.2.2.2.2.1 a.2.1.2.2.2.2.2.2.2 a.2.2.1 a.2.2.2.1 a.2.2.2.2.1 a.2.2.2.2.2.1 a.2.2.2.2.2.2.1 a.2.2.2.2.2.2.2.1 a.2.2.2.2.2.2.2.2.2 st.1.1 st.1.2.1 st.1.2.2.1 st.1.2.2.2.1 st.1.2.2.2.2.1 st.1.2.2.2.2.2.1 st.1.2.2.2.2.2.2.1 st.1.2.2.2.2.2.2.2 st.2.1 st.2.2.1 st.2.2.2.1 st.2.2.2.2.1 (rotn st.2.2.2.2.2.1 a.2.2.2.2.2.2.2.2.1) st.2.2.2.2.2.2.1 st.2.2.2.2.2.2.2 x1 _ _ _ _ _ h
  rw [← rotn_if] at t
  exact t
def F_book (st : ST) (x1 : Int32) (x2 : Int32) : Option (Nat × Int32 × ST) := bd10 (f5_book st.1.1 st.1.2.1 st.1.2.2.1 st.1.2.2.2.1 st.1.2.2.2.2.1 st.1.2.2.2.2.2.1 st.1.2.2.2.2.2.2.1 st.1.2.2.2.2.2.2.2 st.2.2.2.1 dA st.2.2.2.2.2.2.1 x1 x2) (fun k r z_bh z_bF z_bZ z_bK z_bM z_kd _ z_kV => some (k, r, ((st.1.1, st.1.2.1, st.1.2.2.1, z_bh, z_bF, z_bZ, z_bK, z_bM), st.2.1, st.2.2.1, z_kd, st.2.2.2.2.1, (if k = 0 ∧ st.2.2.2.1 = 6 then st.2.2.2.2.2.1 + 1 else st.2.2.2.2.2.1), z_kV, st.2.2.2.2.2.2.2)))
theorem P_book (sr : Int32) (wm : Int32) (wW : Nat → Int32) (bh : Int32) (bF : Nat → Int32) (bZ : Nat → Int32) (bK : Nat → Int32) (bM : Nat → Int32) (kd : Int32) (kA : Nat → SA) (kV : Nat → SV) (x1 : Int32) (x2 : Int32) : Rl (fun z => (z.1, z.2.1, z.2.2.1, z.2.2.2.1, z.2.2.2.2.1, z.2.2.2.2.2.1, z.2.2.2.2.2.2.1, z.2.2.2.2.2.2.2.1, (if z.1 = 0 ∧ kd = 6 then rotA kA else kA), z.2.2.2.2.2.2.2.2.2)) (f5_book sr wm wW bh bF bZ bK bM kd dA kV x1 x2) (f5_book sr wm wW bh bF bZ bK bM kd kA kV x1 x2) := by
  unfold f5_book
  repeat (first | (refine rl_save (fun _ _ _ => ?_)) | (refine rl_bd1 (fun _ => ?_)) | (refine rl_bd2 (fun _ _ => ?_)) | (refine rl_bd3 (fun _ _ _ => ?_)) | (refine rl_bd4 (fun _ _ _ _ => ?_)) | (refine rl_bd6 (fun _ _ _ _ _ _ => ?_)) | (refine rl_bd7 (fun _ _ _ _ _ _ _ => ?_)) | (refine rl_bd8 (fun _ _ _ _ _ _ _ _ => ?_)) | (refine rl_ite (fun _ => ?_) (fun _ => ?_)) | exact rl_none | (focus (refine rl_some ?_; simp; done)) | (focus (refine rl_some ?_; simp [*]; done)))
theorem KS_book (l : Launch) (hfl : l.stackTraces = false) (D : va_G) (cI cZ cS cJ : ClassId) (a : AD) (st : ST) (x1 : Int32) (x2 : Int32) (k : Nat) (r : Int32) (st' : ST) (hF : F_book st x1 x2 = some (k, r, st')) : vx_Met l yX5_book wsX5_book rm5_book (xP D (gT cI cZ cS cJ) (WS cI cZ cS a st) [.ref a.1, .int x1, .int x2]) (xQ D k (some (.int r)) (uA (WS cI cZ cS a st)) (WS cI cZ cS a st')) (xX D k (uA (WS cI cZ cS a st)) (WS cI cZ cS a st')) 1 6 (uA (WS cI cZ cS a st)) := by
  obtain ⟨k0, r0, z_bh, z_bF, z_bZ, z_bK, z_bM, z_kd, z_kA, z_kV, h, e⟩ := bd10_at hF
  cases e
  have h := P_book st.1.1 st.1.2.1 st.1.2.2.1 st.1.2.2.2.1 st.1.2.2.2.2.1 st.1.2.2.2.2.2.1 st.1.2.2.2.2.2.2.1 st.1.2.2.2.2.2.2.2 st.2.2.2.1 (rotn st.2.2.2.2.2.1 a.2.2.2.2.2.2.2.2.1) st.2.2.2.2.2.2.1 x1 x2 _ h
  have t := K5_book l hfl D cI cZ cS cJ a.1 a.2.1.1 a.2.1.2.1 a.2.1.2.2.1 a.2.1.2.2.2.1 a.2.1.2.2.2.2.1 a.2.1.2.2.2.2.2.1 a.2.1.2.2.2.2.2.2.1 a.2.1.2.2.2.2.2.2.2 a.2.2.1 a.2.2.2.1 a.2.2.2.2.1 a.2.2.2.2.2.1 a.2.2.2.2.2.2.1 a.2.2.2.2.2.2.2.1 a.2.2.2.2.2.2.2.2.2 st.1.1 st.1.2.1 st.1.2.2.1 st.1.2.2.2.1 st.1.2.2.2.2.1 st.1.2.2.2.2.2.1 st.1.2.2.2.2.2.2.1 st.1.2.2.2.2.2.2.2 st.2.1 st.2.2.1 st.2.2.2.1 st.2.2.2.2.1 (rotn st.2.2.2.2.2.1 a.2.2.2.2.2.2.2.2.1) st.2.2.2.2.2.2.1 st.2.2.2.2.2.2.2 x1 x2 _ _ _ _ _ _ _ _ _ _ h
  rw [← rotn_if] at t
  exact t
theorem NS_book (l : Launch) (D : va_G) (cI cZ cS cJ : ClassId) (a : AD) (st : ST) (x1 : Int32) (x2 : Int32) (r : Int32) (st' : ST) (hF : F_book st x1 x2 = some (0, r, st')) : Met l yX5_book wsX5_book rmN5_book (uP D (gT cI cZ cS cJ) (WS cI cZ cS a st) [.ref a.1, .int x1, .int x2]) (uQ D (some (.int r)) (uA (WS cI cZ cS a st)) (WS cI cZ cS a st')) 0 0 (uA (WS cI cZ cS a st)) := by
  obtain ⟨k0, r0, z_bh, z_bF, z_bZ, z_bK, z_bM, z_kd, z_kA, z_kV, h, e⟩ := bd10_at hF
  cases e
  have h := P_book st.1.1 st.1.2.1 st.1.2.2.1 st.1.2.2.2.1 st.1.2.2.2.2.1 st.1.2.2.2.2.2.1 st.1.2.2.2.2.2.2.1 st.1.2.2.2.2.2.2.2 st.2.2.2.1 (rotn st.2.2.2.2.2.1 a.2.2.2.2.2.2.2.2.1) st.2.2.2.2.2.2.1 x1 x2 _ h
  have t := N5_book l D cI cZ cS cJ a.1 a.2.1.1 a.2.1.2.1 a.2.1.2.2.1 a.2.1.2.2.2.1 a.2.1.2.2.2.2.1 a.2.1.2.2.2.2.2.1 a.2.1.2.2.2.2.2.2.1 a.2.1.2.2.2.2.2.2.2 a.2.2.1 a.2.2.2.1 a.2.2.2.2.1 a.2.2.2.2.2.1 a.2.2.2.2.2.2.1 a.2.2.2.2.2.2.2.1 a.2.2.2.2.2.2.2.2.2 st.1.1 st.1.2.1 st.1.2.2.1 st.1.2.2.2.1 st.1.2.2.2.2.1 st.1.2.2.2.2.2.1 st.1.2.2.2.2.2.2.1 st.1.2.2.2.2.2.2.2 st.2.1 st.2.2.1 st.2.2.2.1 st.2.2.2.2.1 (rotn st.2.2.2.2.2.1 a.2.2.2.2.2.2.2.2.1) st.2.2.2.2.2.2.1 st.2.2.2.2.2.2.2 x1 x2 _ _ _ _ _ _ _ _ _ h
  rw [← rotn_if] at t
  exact t
def F_write (st : ST) (x1 : Int32) (x2 : Int32) : Option (Nat × Int32 × ST) := bd7 (f5_write st.1.1 st.1.2.1 st.1.2.2.1 st.1.2.2.2.1 st.1.2.2.2.2.1 st.1.2.2.2.2.2.1 st.1.2.2.2.2.2.2.1 st.1.2.2.2.2.2.2.2 st.2.2.2.1 dA st.2.2.2.2.2.2.1 x1 x2) (fun k r z_bK z_bM z_kd _ z_kV => some (k, r, ((st.1.1, st.1.2.1, st.1.2.2.1, st.1.2.2.2.1, st.1.2.2.2.2.1, st.1.2.2.2.2.2.1, z_bK, z_bM), st.2.1, st.2.2.1, z_kd, st.2.2.2.2.1, (if k = 0 ∧ st.2.2.2.1 = 6 then st.2.2.2.2.2.1 + 1 else st.2.2.2.2.2.1), z_kV, st.2.2.2.2.2.2.2)))
theorem P_write (sr : Int32) (wm : Int32) (wW : Nat → Int32) (bh : Int32) (bF : Nat → Int32) (bZ : Nat → Int32) (bK : Nat → Int32) (bM : Nat → Int32) (kd : Int32) (kA : Nat → SA) (kV : Nat → SV) (x1 : Int32) (x2 : Int32) : Rl (fun z => (z.1, z.2.1, z.2.2.1, z.2.2.2.1, z.2.2.2.2.1, (if z.1 = 0 ∧ kd = 6 then rotA kA else kA), z.2.2.2.2.2.2)) (f5_write sr wm wW bh bF bZ bK bM kd dA kV x1 x2) (f5_write sr wm wW bh bF bZ bK bM kd kA kV x1 x2) := by
  unfold f5_write
  repeat (first | (refine rl_save (fun _ _ _ => ?_)) | (refine rl_bd1 (fun _ => ?_)) | (refine rl_bd2 (fun _ _ => ?_)) | (refine rl_bd3 (fun _ _ _ => ?_)) | (refine rl_bd4 (fun _ _ _ _ => ?_)) | (refine rl_bd6 (fun _ _ _ _ _ _ => ?_)) | (refine rl_bd7 (fun _ _ _ _ _ _ _ => ?_)) | (refine rl_bd8 (fun _ _ _ _ _ _ _ _ => ?_)) | (refine rl_ite (fun _ => ?_) (fun _ => ?_)) | exact rl_none | (focus (refine rl_some ?_; simp; done)) | (focus (refine rl_some ?_; simp [*]; done)))
theorem KS_write (l : Launch) (hfl : l.stackTraces = false) (D : va_G) (cI cZ cS cJ : ClassId) (a : AD) (st : ST) (x1 : Int32) (x2 : Int32) (k : Nat) (r : Int32) (st' : ST) (hF : F_write st x1 x2 = some (k, r, st')) : vx_Met l yX5_write wsX5_write rm5_write (xP D (gT cI cZ cS cJ) (WS cI cZ cS a st) [.ref a.1, .int x1, .int x2]) (xQ D k (some (.int r)) (uA (WS cI cZ cS a st)) (WS cI cZ cS a st')) (xX D k (uA (WS cI cZ cS a st)) (WS cI cZ cS a st')) 1 6 (uA (WS cI cZ cS a st)) := by
  obtain ⟨k0, r0, z_bK, z_bM, z_kd, z_kA, z_kV, h, e⟩ := bd7_at hF
  cases e
  have h := P_write st.1.1 st.1.2.1 st.1.2.2.1 st.1.2.2.2.1 st.1.2.2.2.2.1 st.1.2.2.2.2.2.1 st.1.2.2.2.2.2.2.1 st.1.2.2.2.2.2.2.2 st.2.2.2.1 (rotn st.2.2.2.2.2.1 a.2.2.2.2.2.2.2.2.1) st.2.2.2.2.2.2.1 x1 x2 _ h
  have t := K5_write l hfl D cI cZ cS cJ a.1 a.2.1.1 a.2.1.2.1 a.2.1.2.2.1 a.2.1.2.2.2.1 a.2.1.2.2.2.2.1 a.2.1.2.2.2.2.2.1 a.2.1.2.2.2.2.2.2.1 a.2.1.2.2.2.2.2.2.2 a.2.2.1 a.2.2.2.1 a.2.2.2.2.1 a.2.2.2.2.2.1 a.2.2.2.2.2.2.1 a.2.2.2.2.2.2.2.1 a.2.2.2.2.2.2.2.2.2 st.1.1 st.1.2.1 st.1.2.2.1 st.1.2.2.2.1 st.1.2.2.2.2.1 st.1.2.2.2.2.2.1 st.1.2.2.2.2.2.2.1 st.1.2.2.2.2.2.2.2 st.2.1 st.2.2.1 st.2.2.2.1 st.2.2.2.2.1 (rotn st.2.2.2.2.2.1 a.2.2.2.2.2.2.2.2.1) st.2.2.2.2.2.2.1 st.2.2.2.2.2.2.2 x1 x2 _ _ _ _ _ _ _ h
  rw [← rotn_if] at t
  exact t
theorem NS_write (l : Launch) (D : va_G) (cI cZ cS cJ : ClassId) (a : AD) (st : ST) (x1 : Int32) (x2 : Int32) (r : Int32) (st' : ST) (hF : F_write st x1 x2 = some (0, r, st')) : Met l yX5_write wsX5_write rmN5_write (uP D (gT cI cZ cS cJ) (WS cI cZ cS a st) [.ref a.1, .int x1, .int x2]) (uQ D (some (.int r)) (uA (WS cI cZ cS a st)) (WS cI cZ cS a st')) 0 0 (uA (WS cI cZ cS a st)) := by
  obtain ⟨k0, r0, z_bK, z_bM, z_kd, z_kA, z_kV, h, e⟩ := bd7_at hF
  cases e
  have h := P_write st.1.1 st.1.2.1 st.1.2.2.1 st.1.2.2.2.1 st.1.2.2.2.2.1 st.1.2.2.2.2.2.1 st.1.2.2.2.2.2.2.1 st.1.2.2.2.2.2.2.2 st.2.2.2.1 (rotn st.2.2.2.2.2.1 a.2.2.2.2.2.2.2.2.1) st.2.2.2.2.2.2.1 x1 x2 _ h
  have t := N5_write l D cI cZ cS cJ a.1 a.2.1.1 a.2.1.2.1 a.2.1.2.2.1 a.2.1.2.2.2.1 a.2.1.2.2.2.2.1 a.2.1.2.2.2.2.2.1 a.2.1.2.2.2.2.2.2.1 a.2.1.2.2.2.2.2.2.2 a.2.2.1 a.2.2.2.1 a.2.2.2.2.1 a.2.2.2.2.2.1 a.2.2.2.2.2.2.1 a.2.2.2.2.2.2.2.1 a.2.2.2.2.2.2.2.2.2 st.1.1 st.1.2.1 st.1.2.2.1 st.1.2.2.2.1 st.1.2.2.2.2.1 st.1.2.2.2.2.2.1 st.1.2.2.2.2.2.2.1 st.1.2.2.2.2.2.2.2 st.2.1 st.2.2.1 st.2.2.2.1 st.2.2.2.2.1 (rotn st.2.2.2.2.2.1 a.2.2.2.2.2.2.2.2.1) st.2.2.2.2.2.2.1 st.2.2.2.2.2.2.2 x1 x2 _ _ _ _ _ _ h
  rw [← rotn_if] at t
  exact t
def F_cash (st : ST) (x1 : Int32) (x2 : Int32) : Option (Nat × Int32 × ST) := bd8 (f5_cash st.1.1 st.1.2.1 st.1.2.2.1 st.1.2.2.2.1 st.1.2.2.2.2.1 st.1.2.2.2.2.2.1 st.1.2.2.2.2.2.2.1 st.1.2.2.2.2.2.2.2 st.2.2.2.1 dA st.2.2.2.2.2.2.1 x1 x2) (fun k r z_sr z_bK z_bM z_kd _ z_kV => some (k, r, ((z_sr, st.1.2.1, st.1.2.2.1, st.1.2.2.2.1, st.1.2.2.2.2.1, st.1.2.2.2.2.2.1, z_bK, z_bM), st.2.1, st.2.2.1, z_kd, st.2.2.2.2.1, (if k = 0 ∧ st.2.2.2.1 = 6 then st.2.2.2.2.2.1 + 1 else st.2.2.2.2.2.1), z_kV, st.2.2.2.2.2.2.2)))
theorem P_cash (sr : Int32) (wm : Int32) (wW : Nat → Int32) (bh : Int32) (bF : Nat → Int32) (bZ : Nat → Int32) (bK : Nat → Int32) (bM : Nat → Int32) (kd : Int32) (kA : Nat → SA) (kV : Nat → SV) (x1 : Int32) (x2 : Int32) : Rl (fun z => (z.1, z.2.1, z.2.2.1, z.2.2.2.1, z.2.2.2.2.1, z.2.2.2.2.2.1, (if z.1 = 0 ∧ kd = 6 then rotA kA else kA), z.2.2.2.2.2.2.2)) (f5_cash sr wm wW bh bF bZ bK bM kd dA kV x1 x2) (f5_cash sr wm wW bh bF bZ bK bM kd kA kV x1 x2) := by
  unfold f5_cash
  repeat (first | (refine rl_save (fun _ _ _ => ?_)) | (refine rl_bd1 (fun _ => ?_)) | (refine rl_bd2 (fun _ _ => ?_)) | (refine rl_bd3 (fun _ _ _ => ?_)) | (refine rl_bd4 (fun _ _ _ _ => ?_)) | (refine rl_bd6 (fun _ _ _ _ _ _ => ?_)) | (refine rl_bd7 (fun _ _ _ _ _ _ _ => ?_)) | (refine rl_bd8 (fun _ _ _ _ _ _ _ _ => ?_)) | (refine rl_ite (fun _ => ?_) (fun _ => ?_)) | exact rl_none | (focus (refine rl_some ?_; simp; done)) | (focus (refine rl_some ?_; simp [*]; done)))
theorem KS_cash (l : Launch) (hfl : l.stackTraces = false) (D : va_G) (cI cZ cS cJ : ClassId) (a : AD) (st : ST) (x1 : Int32) (x2 : Int32) (k : Nat) (r : Int32) (st' : ST) (hF : F_cash st x1 x2 = some (k, r, st')) : vx_Met l yX5_cash wsX5_cash rm5_cash (xP D (gT cI cZ cS cJ) (WS cI cZ cS a st) [.ref a.1, .int x1, .int x2]) (xQ D k (some (.int r)) (uA (WS cI cZ cS a st)) (WS cI cZ cS a st')) (xX D k (uA (WS cI cZ cS a st)) (WS cI cZ cS a st')) 2 12 (uA (WS cI cZ cS a st)) := by
  obtain ⟨k0, r0, z_sr, z_bK, z_bM, z_kd, z_kA, z_kV, h, e⟩ := bd8_at hF
  cases e
  have h := P_cash st.1.1 st.1.2.1 st.1.2.2.1 st.1.2.2.2.1 st.1.2.2.2.2.1 st.1.2.2.2.2.2.1 st.1.2.2.2.2.2.2.1 st.1.2.2.2.2.2.2.2 st.2.2.2.1 (rotn st.2.2.2.2.2.1 a.2.2.2.2.2.2.2.2.1) st.2.2.2.2.2.2.1 x1 x2 _ h
  have t := K5_cash l hfl D cI cZ cS cJ a.1 a.2.1.1 a.2.1.2.1 a.2.1.2.2.1 a.2.1.2.2.2.1 a.2.1.2.2.2.2.1 a.2.1.2.2.2.2.2.1 a.2.1.2.2.2.2.2.2.1 a.2.1.2.2.2.2.2.2.2 a.2.2.1 a.2.2.2.1 a.2.2.2.2.1 a.2.2.2.2.2.1 a.2.2.2.2.2.2.1 a.2.2.2.2.2.2.2.1 a.2.2.2.2.2.2.2.2.2 st.1.1 st.1.2.1 st.1.2.2.1 st.1.2.2.2.1 st.1.2.2.2.2.1 st.1.2.2.2.2.2.1 st.1.2.2.2.2.2.2.1 st.1.2.2.2.2.2.2.2 st.2.1 st.2.2.1 st.2.2.2.1 st.2.2.2.2.1 (rotn st.2.2.2.2.2.1 a.2.2.2.2.2.2.2.2.1) st.2.2.2.2.2.2.1 st.2.2.2.2.2.2.2 x1 x2 _ _ _ _ _ _ _ _ h
  rw [← rotn_if] at t
  exact t
theorem NS_cash (l : Launch) (D : va_G) (cI cZ cS cJ : ClassId) (a : AD) (st : ST) (x1 : Int32) (x2 : Int32) (r : Int32) (st' : ST) (hF : F_cash st x1 x2 = some (0, r, st')) : Met l yX5_cash wsX5_cash rmN5_cash (uP D (gT cI cZ cS cJ) (WS cI cZ cS a st) [.ref a.1, .int x1, .int x2]) (uQ D (some (.int r)) (uA (WS cI cZ cS a st)) (WS cI cZ cS a st')) 0 0 (uA (WS cI cZ cS a st)) := by
  obtain ⟨k0, r0, z_sr, z_bK, z_bM, z_kd, z_kA, z_kV, h, e⟩ := bd8_at hF
  cases e
  have h := P_cash st.1.1 st.1.2.1 st.1.2.2.1 st.1.2.2.2.1 st.1.2.2.2.2.1 st.1.2.2.2.2.2.1 st.1.2.2.2.2.2.2.1 st.1.2.2.2.2.2.2.2 st.2.2.2.1 (rotn st.2.2.2.2.2.1 a.2.2.2.2.2.2.2.2.1) st.2.2.2.2.2.2.1 x1 x2 _ h
  have t := N5_cash l D cI cZ cS cJ a.1 a.2.1.1 a.2.1.2.1 a.2.1.2.2.1 a.2.1.2.2.2.1 a.2.1.2.2.2.2.1 a.2.1.2.2.2.2.2.1 a.2.1.2.2.2.2.2.2.1 a.2.1.2.2.2.2.2.2.2 a.2.2.1 a.2.2.2.1 a.2.2.2.2.1 a.2.2.2.2.2.1 a.2.2.2.2.2.2.1 a.2.2.2.2.2.2.2.1 a.2.2.2.2.2.2.2.2.2 st.1.1 st.1.2.1 st.1.2.2.1 st.1.2.2.2.1 st.1.2.2.2.2.1 st.1.2.2.2.2.2.1 st.1.2.2.2.2.2.2.1 st.1.2.2.2.2.2.2.2 st.2.1 st.2.2.1 st.2.2.2.1 st.2.2.2.2.1 (rotn st.2.2.2.2.2.1 a.2.2.2.2.2.2.2.2.1) st.2.2.2.2.2.2.1 st.2.2.2.2.2.2.2 x1 x2 _ _ _ _ _ _ _ h
  rw [← rotn_if] at t
  exact t
def F_voidRun (st : ST) (x1 : Int32) (x2 : Int32) : Option (Nat × Int32 × ST) := bd7 (f5_voidRun st.1.1 st.1.2.1 st.1.2.2.1 st.1.2.2.2.1 st.1.2.2.2.2.1 st.1.2.2.2.2.2.1 st.1.2.2.2.2.2.2.1 st.1.2.2.2.2.2.2.2 st.2.2.2.1 dA st.2.2.2.2.2.2.1 x1 x2) (fun k r z_bK z_bM z_kd _ z_kV => some (k, r, ((st.1.1, st.1.2.1, st.1.2.2.1, st.1.2.2.2.1, st.1.2.2.2.2.1, st.1.2.2.2.2.2.1, z_bK, z_bM), st.2.1, st.2.2.1, z_kd, st.2.2.2.2.1, (if k = 0 ∧ st.2.2.2.1 = 6 then st.2.2.2.2.2.1 + 1 else st.2.2.2.2.2.1), z_kV, st.2.2.2.2.2.2.2)))
theorem P_voidRun (sr : Int32) (wm : Int32) (wW : Nat → Int32) (bh : Int32) (bF : Nat → Int32) (bZ : Nat → Int32) (bK : Nat → Int32) (bM : Nat → Int32) (kd : Int32) (kA : Nat → SA) (kV : Nat → SV) (x1 : Int32) (x2 : Int32) : Rl (fun z => (z.1, z.2.1, z.2.2.1, z.2.2.2.1, z.2.2.2.2.1, (if z.1 = 0 ∧ kd = 6 then rotA kA else kA), z.2.2.2.2.2.2)) (f5_voidRun sr wm wW bh bF bZ bK bM kd dA kV x1 x2) (f5_voidRun sr wm wW bh bF bZ bK bM kd kA kV x1 x2) := by
  unfold f5_voidRun
  repeat (first | (refine rl_save (fun _ _ _ => ?_)) | (refine rl_bd1 (fun _ => ?_)) | (refine rl_bd2 (fun _ _ => ?_)) | (refine rl_bd3 (fun _ _ _ => ?_)) | (refine rl_bd4 (fun _ _ _ _ => ?_)) | (refine rl_bd6 (fun _ _ _ _ _ _ => ?_)) | (refine rl_bd7 (fun _ _ _ _ _ _ _ => ?_)) | (refine rl_bd8 (fun _ _ _ _ _ _ _ _ => ?_)) | (refine rl_ite (fun _ => ?_) (fun _ => ?_)) | exact rl_none | (focus (refine rl_some ?_; simp; done)) | (focus (refine rl_some ?_; simp [*]; done)))
theorem KS_voidRun (l : Launch) (hfl : l.stackTraces = false) (D : va_G) (cI cZ cS cJ : ClassId) (a : AD) (st : ST) (x1 : Int32) (x2 : Int32) (k : Nat) (r : Int32) (st' : ST) (hF : F_voidRun st x1 x2 = some (k, r, st')) : vx_Met l yX5_voidRun wsX5_voidRun rm5_voidRun (xP D (gT cI cZ cS cJ) (WS cI cZ cS a st) [.ref a.1, .int x1, .int x2]) (xQ D k (some (.int r)) (uA (WS cI cZ cS a st)) (WS cI cZ cS a st')) (xX D k (uA (WS cI cZ cS a st)) (WS cI cZ cS a st')) 1 6 (uA (WS cI cZ cS a st)) := by
  obtain ⟨k0, r0, z_bK, z_bM, z_kd, z_kA, z_kV, h, e⟩ := bd7_at hF
  cases e
  have h := P_voidRun st.1.1 st.1.2.1 st.1.2.2.1 st.1.2.2.2.1 st.1.2.2.2.2.1 st.1.2.2.2.2.2.1 st.1.2.2.2.2.2.2.1 st.1.2.2.2.2.2.2.2 st.2.2.2.1 (rotn st.2.2.2.2.2.1 a.2.2.2.2.2.2.2.2.1) st.2.2.2.2.2.2.1 x1 x2 _ h
  have t := K5_voidRun l hfl D cI cZ cS cJ a.1 a.2.1.1 a.2.1.2.1 a.2.1.2.2.1 a.2.1.2.2.2.1 a.2.1.2.2.2.2.1 a.2.1.2.2.2.2.2.1 a.2.1.2.2.2.2.2.2.1 a.2.1.2.2.2.2.2.2.2 a.2.2.1 a.2.2.2.1 a.2.2.2.2.1 a.2.2.2.2.2.1 a.2.2.2.2.2.2.1 a.2.2.2.2.2.2.2.1 a.2.2.2.2.2.2.2.2.2 st.1.1 st.1.2.1 st.1.2.2.1 st.1.2.2.2.1 st.1.2.2.2.2.1 st.1.2.2.2.2.2.1 st.1.2.2.2.2.2.2.1 st.1.2.2.2.2.2.2.2 st.2.1 st.2.2.1 st.2.2.2.1 st.2.2.2.2.1 (rotn st.2.2.2.2.2.1 a.2.2.2.2.2.2.2.2.1) st.2.2.2.2.2.2.1 st.2.2.2.2.2.2.2 x1 x2 _ _ _ _ _ _ _ h
  rw [← rotn_if] at t
  exact t
theorem NS_voidRun (l : Launch) (D : va_G) (cI cZ cS cJ : ClassId) (a : AD) (st : ST) (x1 : Int32) (x2 : Int32) (r : Int32) (st' : ST) (hF : F_voidRun st x1 x2 = some (0, r, st')) : Met l yX5_voidRun wsX5_voidRun rmN5_voidRun (uP D (gT cI cZ cS cJ) (WS cI cZ cS a st) [.ref a.1, .int x1, .int x2]) (uQ D (some (.int r)) (uA (WS cI cZ cS a st)) (WS cI cZ cS a st')) 0 0 (uA (WS cI cZ cS a st)) := by
  obtain ⟨k0, r0, z_bK, z_bM, z_kd, z_kA, z_kV, h, e⟩ := bd7_at hF
  cases e
  have h := P_voidRun st.1.1 st.1.2.1 st.1.2.2.1 st.1.2.2.2.1 st.1.2.2.2.2.1 st.1.2.2.2.2.2.1 st.1.2.2.2.2.2.2.1 st.1.2.2.2.2.2.2.2 st.2.2.2.1 (rotn st.2.2.2.2.2.1 a.2.2.2.2.2.2.2.2.1) st.2.2.2.2.2.2.1 x1 x2 _ h
  have t := N5_voidRun l D cI cZ cS cJ a.1 a.2.1.1 a.2.1.2.1 a.2.1.2.2.1 a.2.1.2.2.2.1 a.2.1.2.2.2.2.1 a.2.1.2.2.2.2.2.1 a.2.1.2.2.2.2.2.2.1 a.2.1.2.2.2.2.2.2.2 a.2.2.1 a.2.2.2.1 a.2.2.2.2.1 a.2.2.2.2.2.1 a.2.2.2.2.2.2.1 a.2.2.2.2.2.2.2.1 a.2.2.2.2.2.2.2.2.2 st.1.1 st.1.2.1 st.1.2.2.1 st.1.2.2.2.1 st.1.2.2.2.2.1 st.1.2.2.2.2.2.1 st.1.2.2.2.2.2.2.1 st.1.2.2.2.2.2.2.2 st.2.1 st.2.2.1 st.2.2.2.1 st.2.2.2.2.1 (rotn st.2.2.2.2.2.1 a.2.2.2.2.2.2.2.2.1) st.2.2.2.2.2.2.1 st.2.2.2.2.2.2.2 x1 x2 _ _ _ _ _ _ h
  rw [← rotn_if] at t
  exact t
def F_append (st : ST) (x1 : Int32) : Option (Nat × Int32 × ST) := bd4 (f5_append st.2.1 st.2.2.1 x1) (fun k r z_ol z_oS => some (k, r, (st.1, z_ol, z_oS, st.2.2.2.1, st.2.2.2.2.1, st.2.2.2.2.2.1, st.2.2.2.2.2.2.1, st.2.2.2.2.2.2.2)))
theorem KS_append (l : Launch) (hfl : l.stackTraces = false) (D : va_G) (cI cZ cS cJ : ClassId) (a : AD) (st : ST) (x1 : Int32) (k : Nat) (r : Int32) (st' : ST) (hF : F_append st x1 = some (k, r, st')) : vx_Met l yX5_append wsX5_append rm5_append (xP D (gT cI cZ cS cJ) (WS cI cZ cS a st) [.ref a.1, .int x1]) (xQ D k (some (.int r)) (uA (WS cI cZ cS a st)) (WS cI cZ cS a st')) (xX D k (uA (WS cI cZ cS a st)) (WS cI cZ cS a st')) 1 6 (uA (WS cI cZ cS a st)) := by
  obtain ⟨k0, r0, z_ol, z_oS, h, e⟩ := bd4_at hF
  cases e
  have t := K5_append l hfl D cI cZ cS cJ a.1 a.2.1.1 a.2.1.2.1 a.2.1.2.2.1 a.2.1.2.2.2.1 a.2.1.2.2.2.2.1 a.2.1.2.2.2.2.2.1 a.2.1.2.2.2.2.2.2.1 a.2.1.2.2.2.2.2.2.2 a.2.2.1 a.2.2.2.1 a.2.2.2.2.1 a.2.2.2.2.2.1 a.2.2.2.2.2.2.1 a.2.2.2.2.2.2.2.1 a.2.2.2.2.2.2.2.2.2 st.1.1 st.1.2.1 st.1.2.2.1 st.1.2.2.2.1 st.1.2.2.2.2.1 st.1.2.2.2.2.2.1 st.1.2.2.2.2.2.2.1 st.1.2.2.2.2.2.2.2 st.2.1 st.2.2.1 st.2.2.2.1 st.2.2.2.2.1 (rotn st.2.2.2.2.2.1 a.2.2.2.2.2.2.2.2.1) st.2.2.2.2.2.2.1 st.2.2.2.2.2.2.2 x1 _ _ _ _ h
  exact t
theorem NS_append (l : Launch) (D : va_G) (cI cZ cS cJ : ClassId) (a : AD) (st : ST) (x1 : Int32) (r : Int32) (st' : ST) (hF : F_append st x1 = some (0, r, st')) : Met l yX5_append wsX5_append rmN5_append (uP D (gT cI cZ cS cJ) (WS cI cZ cS a st) [.ref a.1, .int x1]) (uQ D (some (.int r)) (uA (WS cI cZ cS a st)) (WS cI cZ cS a st')) 0 0 (uA (WS cI cZ cS a st)) := by
  obtain ⟨k0, r0, z_ol, z_oS, h, e⟩ := bd4_at hF
  cases e
  have t := N5_append l D cI cZ cS cJ a.1 a.2.1.1 a.2.1.2.1 a.2.1.2.2.1 a.2.1.2.2.2.1 a.2.1.2.2.2.2.1 a.2.1.2.2.2.2.2.1 a.2.1.2.2.2.2.2.2.1 a.2.1.2.2.2.2.2.2.2 a.2.2.1 a.2.2.2.1 a.2.2.2.2.1 a.2.2.2.2.2.1 a.2.2.2.2.2.2.1 a.2.2.2.2.2.2.2.1 a.2.2.2.2.2.2.2.2.2 st.1.1 st.1.2.1 st.1.2.2.1 st.1.2.2.2.1 st.1.2.2.2.2.1 st.1.2.2.2.2.2.1 st.1.2.2.2.2.2.2.1 st.1.2.2.2.2.2.2.2 st.2.1 st.2.2.1 st.2.2.2.1 st.2.2.2.2.1 (rotn st.2.2.2.2.2.1 a.2.2.2.2.2.2.2.2.1) st.2.2.2.2.2.2.1 st.2.2.2.2.2.2.2 x1 _ _ _ h
  exact t
def F_clearBuffer (st : ST) : Option (Int32 × ST) := bd2 (f5_clearBuffer st.2.1) (fun r z_ol => some (r, (st.1, z_ol, st.2.2.1, st.2.2.2.1, st.2.2.2.2.1, st.2.2.2.2.2.1, st.2.2.2.2.2.2.1, st.2.2.2.2.2.2.2)))
theorem NS_clearBuffer (l : Launch) (D : va_G) (cI cZ cS cJ : ClassId) (a : AD) (st : ST) (r : Int32) (st' : ST) (hF : F_clearBuffer st = some (r, st')) : Met l yX5_clearBuffer wsX5_clearBuffer rm5_clearBuffer (uP D (gT cI cZ cS cJ) (WS cI cZ cS a st) [.ref a.1]) (uQ D (some (.int r)) (uA (WS cI cZ cS a st)) (WS cI cZ cS a st')) 0 0 (uA (WS cI cZ cS a st)) := by
  obtain ⟨r0, z_ol, h, e⟩ := bd2_at hF
  cases e
  have t := K5_clearBuffer l D cI cZ cS cJ a.1 a.2.1.1 a.2.1.2.1 a.2.1.2.2.1 a.2.1.2.2.2.1 a.2.1.2.2.2.2.1 a.2.1.2.2.2.2.2.1 a.2.1.2.2.2.2.2.2.1 a.2.1.2.2.2.2.2.2.2 a.2.2.1 a.2.2.2.1 a.2.2.2.2.1 a.2.2.2.2.2.1 a.2.2.2.2.2.2.1 a.2.2.2.2.2.2.2.1 a.2.2.2.2.2.2.2.2.2 st.1.1 st.1.2.1 st.1.2.2.1 st.1.2.2.2.1 st.1.2.2.2.2.1 st.1.2.2.2.2.2.1 st.1.2.2.2.2.2.2.1 st.1.2.2.2.2.2.2.2 st.2.1 st.2.2.1 st.2.2.2.1 st.2.2.2.2.1 (rotn st.2.2.2.2.2.1 a.2.2.2.2.2.2.2.2.1) st.2.2.2.2.2.2.1 st.2.2.2.2.2.2.2 _ _ h
  exact t
def F_firstError (st : ST) : Option (Int32) := f5_firstError st.2.1 st.2.2.1
theorem NS_firstError (l : Launch) (D : va_G) (cI cZ cS cJ : ClassId) (a : AD) (st : ST) (r : Int32) (hF : F_firstError st = some (r)) : Met l yX5_firstError wsX5_firstError rm5_firstError (rP D (gT cI cZ cS cJ) (WS cI cZ cS a st) [.ref a.1]) (rQ (.int r)) 0 0 (fun _ => False) := by
  exact K5_firstError l D cI cZ cS cJ a.1 a.2.1.1 a.2.1.2.1 a.2.1.2.2.1 a.2.1.2.2.2.1 a.2.1.2.2.2.2.1 a.2.1.2.2.2.2.2.1 a.2.1.2.2.2.2.2.2.1 a.2.1.2.2.2.2.2.2.2 a.2.2.1 a.2.2.2.1 a.2.2.2.2.1 a.2.2.2.2.2.1 a.2.2.2.2.2.2.1 a.2.2.2.2.2.2.2.1 a.2.2.2.2.2.2.2.2.2 st.1.1 st.1.2.1 st.1.2.2.1 st.1.2.2.2.1 st.1.2.2.2.2.1 st.1.2.2.2.2.2.1 st.1.2.2.2.2.2.2.1 st.1.2.2.2.2.2.2.2 st.2.1 st.2.2.1 st.2.2.2.1 st.2.2.2.2.1 (rotn st.2.2.2.2.2.1 a.2.2.2.2.2.2.2.2.1) st.2.2.2.2.2.2.1 st.2.2.2.2.2.2.2 _ hF
def F_execute (st : ST) : Option (Nat × Int32 × ST) := bd12 (f5_execute st.1.1 st.1.2.1 st.1.2.2.1 st.1.2.2.2.1 st.1.2.2.2.2.1 st.1.2.2.2.2.2.1 st.1.2.2.2.2.2.2.1 st.1.2.2.2.2.2.2.2 st.2.1 st.2.2.1 st.2.2.2.1 dA st.2.2.2.2.2.2.1) (fun k r z_sr z_bh z_bF z_bZ z_bK z_bM z_ol z_kd _ z_kV => some (k, r, ((z_sr, st.1.2.1, st.1.2.2.1, z_bh, z_bF, z_bZ, z_bK, z_bM), z_ol, st.2.2.1, z_kd, st.2.2.2.2.1, (if k = 0 ∧ st.2.2.2.1 = 6 then st.2.2.2.2.2.1 + 1 else st.2.2.2.2.2.1), z_kV, st.2.2.2.2.2.2.2)))
theorem P_execute (sr : Int32) (wm : Int32) (wW : Nat → Int32) (bh : Int32) (bF : Nat → Int32) (bZ : Nat → Int32) (bK : Nat → Int32) (bM : Nat → Int32) (ol : Int32) (oS : Nat → Int32) (kd : Int32) (kA : Nat → SA) (kV : Nat → SV) : Rl (fun z => (z.1, z.2.1, z.2.2.1, z.2.2.2.1, z.2.2.2.2.1, z.2.2.2.2.2.1, z.2.2.2.2.2.2.1, z.2.2.2.2.2.2.2.1, z.2.2.2.2.2.2.2.2.1, z.2.2.2.2.2.2.2.2.2.1, (if z.1 = 0 ∧ kd = 6 then rotA kA else kA), z.2.2.2.2.2.2.2.2.2.2.2)) (f5_execute sr wm wW bh bF bZ bK bM ol oS kd dA kV) (f5_execute sr wm wW bh bF bZ bK bM ol oS kd kA kV) := by
  unfold f5_execute
  repeat (first | (refine rl_save (fun _ _ _ => ?_)) | (refine rl_bd1 (fun _ => ?_)) | (refine rl_bd2 (fun _ _ => ?_)) | (refine rl_bd3 (fun _ _ _ => ?_)) | (refine rl_bd4 (fun _ _ _ _ => ?_)) | (refine rl_bd6 (fun _ _ _ _ _ _ => ?_)) | (refine rl_bd7 (fun _ _ _ _ _ _ _ => ?_)) | (refine rl_bd8 (fun _ _ _ _ _ _ _ _ => ?_)) | (refine rl_ite (fun _ => ?_) (fun _ => ?_)) | exact rl_none | (focus (refine rl_some ?_; simp; done)) | (focus (refine rl_some ?_; simp [*]; done)))
theorem KS_execute (l : Launch) (hfl : l.stackTraces = false) (D : va_G) (cI cZ cS cJ : ClassId) (a : AD) (st : ST) (k : Nat) (r : Int32) (st' : ST) (hF : F_execute st = some (k, r, st')) : vx_Met l yX5_execute wsX5_execute rm5_execute (xP D (gT cI cZ cS cJ) (WS cI cZ cS a st) [.ref a.1]) (xQ D k (some (.int r)) (uA (WS cI cZ cS a st)) (WS cI cZ cS a st')) (xX D k (uA (WS cI cZ cS a st)) (WS cI cZ cS a st')) 1 6 (uA (WS cI cZ cS a st)) := by
  obtain ⟨k0, r0, z_sr, z_bh, z_bF, z_bZ, z_bK, z_bM, z_ol, z_kd, z_kA, z_kV, h, e⟩ := bd12_at hF
  cases e
  have h := P_execute st.1.1 st.1.2.1 st.1.2.2.1 st.1.2.2.2.1 st.1.2.2.2.2.1 st.1.2.2.2.2.2.1 st.1.2.2.2.2.2.2.1 st.1.2.2.2.2.2.2.2 st.2.1 st.2.2.1 st.2.2.2.1 (rotn st.2.2.2.2.2.1 a.2.2.2.2.2.2.2.2.1) st.2.2.2.2.2.2.1 _ h
  have t := K5_execute l hfl D cI cZ cS cJ a.1 a.2.1.1 a.2.1.2.1 a.2.1.2.2.1 a.2.1.2.2.2.1 a.2.1.2.2.2.2.1 a.2.1.2.2.2.2.2.1 a.2.1.2.2.2.2.2.2.1 a.2.1.2.2.2.2.2.2.2 a.2.2.1 a.2.2.2.1 a.2.2.2.2.1 a.2.2.2.2.2.1 a.2.2.2.2.2.2.1 a.2.2.2.2.2.2.2.1 a.2.2.2.2.2.2.2.2.2 st.1.1 st.1.2.1 st.1.2.2.1 st.1.2.2.2.1 st.1.2.2.2.2.1 st.1.2.2.2.2.2.1 st.1.2.2.2.2.2.2.1 st.1.2.2.2.2.2.2.2 st.2.1 st.2.2.1 st.2.2.2.1 st.2.2.2.2.1 (rotn st.2.2.2.2.2.1 a.2.2.2.2.2.2.2.2.1) st.2.2.2.2.2.2.1 st.2.2.2.2.2.2.2 _ _ _ _ _ _ _ _ _ _ _ _ h
  rw [← rotn_if] at t
  exact t
theorem NS_execute (l : Launch) (D : va_G) (cI cZ cS cJ : ClassId) (a : AD) (st : ST) (r : Int32) (st' : ST) (hF : F_execute st = some (0, r, st')) : Met l yX5_execute wsX5_execute rmN5_execute (uP D (gT cI cZ cS cJ) (WS cI cZ cS a st) [.ref a.1]) (uQ D (some (.int r)) (uA (WS cI cZ cS a st)) (WS cI cZ cS a st')) 0 0 (uA (WS cI cZ cS a st)) := by
  obtain ⟨k0, r0, z_sr, z_bh, z_bF, z_bZ, z_bK, z_bM, z_ol, z_kd, z_kA, z_kV, h, e⟩ := bd12_at hF
  cases e
  have h := P_execute st.1.1 st.1.2.1 st.1.2.2.1 st.1.2.2.2.1 st.1.2.2.2.2.1 st.1.2.2.2.2.2.1 st.1.2.2.2.2.2.2.1 st.1.2.2.2.2.2.2.2 st.2.1 st.2.2.1 st.2.2.2.1 (rotn st.2.2.2.2.2.1 a.2.2.2.2.2.2.2.2.1) st.2.2.2.2.2.2.1 _ h
  have t := N5_execute l D cI cZ cS cJ a.1 a.2.1.1 a.2.1.2.1 a.2.1.2.2.1 a.2.1.2.2.2.1 a.2.1.2.2.2.2.1 a.2.1.2.2.2.2.2.1 a.2.1.2.2.2.2.2.2.1 a.2.1.2.2.2.2.2.2.2 a.2.2.1 a.2.2.2.1 a.2.2.2.2.1 a.2.2.2.2.2.1 a.2.2.2.2.2.2.1 a.2.2.2.2.2.2.2.1 a.2.2.2.2.2.2.2.2.2 st.1.1 st.1.2.1 st.1.2.2.1 st.1.2.2.2.1 st.1.2.2.2.2.1 st.1.2.2.2.2.2.1 st.1.2.2.2.2.2.2.1 st.1.2.2.2.2.2.2.2 st.2.1 st.2.2.1 st.2.2.2.1 st.2.2.2.2.1 (rotn st.2.2.2.2.2.1 a.2.2.2.2.2.2.2.2.1) st.2.2.2.2.2.2.1 st.2.2.2.2.2.2.2 _ _ _ _ _ _ _ _ _ _ _ h
  rw [← rotn_if] at t
  exact t
def F_undo (st : ST) : Option (Nat × Int32 × ST) := bd11 (f5_undo st.1.1 st.1.2.1 st.1.2.2.1 st.1.2.2.2.1 st.1.2.2.2.2.1 st.1.2.2.2.2.2.1 st.1.2.2.2.2.2.2.1 st.1.2.2.2.2.2.2.2 st.2.2.2.1 st.2.2.2.2.2.2.1) (fun k r z_sr z_wm z_wW z_bh z_bF z_bZ z_bK z_bM z_kd => some (k, r, ((z_sr, z_wm, z_wW, z_bh, z_bF, z_bZ, z_bK, z_bM), st.2.1, st.2.2.1, z_kd, st.2.2.2.2.1, st.2.2.2.2.2.1, st.2.2.2.2.2.2.1, st.2.2.2.2.2.2.2)))
theorem KS_undo (l : Launch) (hfl : l.stackTraces = false) (D : va_G) (cI cZ cS cJ : ClassId) (a : AD) (st : ST) (k : Nat) (r : Int32) (st' : ST) (hF : F_undo st = some (k, r, st')) : vx_Met l yX5_undo wsX5_undo rm5_undo (xP D (gT cI cZ cS cJ) (WS cI cZ cS a st) [.ref a.1]) (xQ D k (some (.int r)) (uA (WS cI cZ cS a st)) (WS cI cZ cS a st')) (xX D k (uA (WS cI cZ cS a st)) (WS cI cZ cS a st')) 1 6 (uA (WS cI cZ cS a st)) := by
  obtain ⟨k0, r0, z_sr, z_wm, z_wW, z_bh, z_bF, z_bZ, z_bK, z_bM, z_kd, h, e⟩ := bd11_at hF
  cases e
  have t := K5_undo l hfl D cI cZ cS cJ a.1 a.2.1.1 a.2.1.2.1 a.2.1.2.2.1 a.2.1.2.2.2.1 a.2.1.2.2.2.2.1 a.2.1.2.2.2.2.2.1 a.2.1.2.2.2.2.2.2.1 a.2.1.2.2.2.2.2.2.2 a.2.2.1 a.2.2.2.1 a.2.2.2.2.1 a.2.2.2.2.2.1 a.2.2.2.2.2.2.1 a.2.2.2.2.2.2.2.1 a.2.2.2.2.2.2.2.2.2 st.1.1 st.1.2.1 st.1.2.2.1 st.1.2.2.2.1 st.1.2.2.2.2.1 st.1.2.2.2.2.2.1 st.1.2.2.2.2.2.2.1 st.1.2.2.2.2.2.2.2 st.2.1 st.2.2.1 st.2.2.2.1 st.2.2.2.2.1 (rotn st.2.2.2.2.2.1 a.2.2.2.2.2.2.2.2.1) st.2.2.2.2.2.2.1 st.2.2.2.2.2.2.2 _ _ _ _ _ _ _ _ _ _ _ h
  exact t
theorem NS_undo (l : Launch) (D : va_G) (cI cZ cS cJ : ClassId) (a : AD) (st : ST) (r : Int32) (st' : ST) (hF : F_undo st = some (0, r, st')) : Met l yX5_undo wsX5_undo rmN5_undo (uP D (gT cI cZ cS cJ) (WS cI cZ cS a st) [.ref a.1]) (uQ D (some (.int r)) (uA (WS cI cZ cS a st)) (WS cI cZ cS a st')) 0 0 (uA (WS cI cZ cS a st)) := by
  obtain ⟨k0, r0, z_sr, z_wm, z_wW, z_bh, z_bF, z_bZ, z_bK, z_bM, z_kd, h, e⟩ := bd11_at hF
  cases e
  have t := N5_undo l D cI cZ cS cJ a.1 a.2.1.1 a.2.1.2.1 a.2.1.2.2.1 a.2.1.2.2.2.1 a.2.1.2.2.2.2.1 a.2.1.2.2.2.2.2.1 a.2.1.2.2.2.2.2.2.1 a.2.1.2.2.2.2.2.2.2 a.2.2.1 a.2.2.2.1 a.2.2.2.2.1 a.2.2.2.2.2.1 a.2.2.2.2.2.2.1 a.2.2.2.2.2.2.2.1 a.2.2.2.2.2.2.2.2.2 st.1.1 st.1.2.1 st.1.2.2.1 st.1.2.2.2.1 st.1.2.2.2.2.1 st.1.2.2.2.2.2.1 st.1.2.2.2.2.2.2.1 st.1.2.2.2.2.2.2.2 st.2.1 st.2.2.1 st.2.2.2.1 st.2.2.2.2.1 (rotn st.2.2.2.2.2.1 a.2.2.2.2.2.2.2.2.1) st.2.2.2.2.2.2.1 st.2.2.2.2.2.2.2 _ _ _ _ _ _ _ _ _ _ h
  exact t
def F_keep (st : ST) (x1 : Int32) : Option (Nat × Int32 × ST) := bd4 (f5_keep st.1.1 st.1.2.1 st.1.2.2.1 st.1.2.2.2.1 st.1.2.2.2.2.1 st.1.2.2.2.2.2.1 st.1.2.2.2.2.2.2.1 st.1.2.2.2.2.2.2.2 st.2.2.2.2.1 st.2.2.2.2.2.2.2 x1) (fun k r z_kf z_kP => some (k, r, (st.1, st.2.1, st.2.2.1, st.2.2.2.1, z_kf, st.2.2.2.2.2.1, st.2.2.2.2.2.2.1, z_kP)))
theorem KS_keep (l : Launch) (hfl : l.stackTraces = false) (D : va_G) (cI cZ cS cJ : ClassId) (a : AD) (st : ST) (x1 : Int32) (k : Nat) (r : Int32) (st' : ST) (hF : F_keep st x1 = some (k, r, st')) : vx_Met l yX5_keep wsX5_keep rm5_keep (xP D (gT cI cZ cS cJ) (WS cI cZ cS a st) [.ref a.1, .int x1]) (xQ D k (some (.int r)) (uA (WS cI cZ cS a st)) (WS cI cZ cS a st')) (xX D k (uA (WS cI cZ cS a st)) (WS cI cZ cS a st')) 1 6 (uA (WS cI cZ cS a st)) := by
  obtain ⟨k0, r0, z_kf, z_kP, h, e⟩ := bd4_at hF
  cases e
  have t := K5_keep l hfl D cI cZ cS cJ a.1 a.2.1.1 a.2.1.2.1 a.2.1.2.2.1 a.2.1.2.2.2.1 a.2.1.2.2.2.2.1 a.2.1.2.2.2.2.2.1 a.2.1.2.2.2.2.2.2.1 a.2.1.2.2.2.2.2.2.2 a.2.2.1 a.2.2.2.1 a.2.2.2.2.1 a.2.2.2.2.2.1 a.2.2.2.2.2.2.1 a.2.2.2.2.2.2.2.1 a.2.2.2.2.2.2.2.2.2 st.1.1 st.1.2.1 st.1.2.2.1 st.1.2.2.2.1 st.1.2.2.2.2.1 st.1.2.2.2.2.2.1 st.1.2.2.2.2.2.2.1 st.1.2.2.2.2.2.2.2 st.2.1 st.2.2.1 st.2.2.2.1 st.2.2.2.2.1 (rotn st.2.2.2.2.2.1 a.2.2.2.2.2.2.2.2.1) st.2.2.2.2.2.2.1 st.2.2.2.2.2.2.2 x1 _ _ _ _ h
  exact t
theorem NS_keep (l : Launch) (D : va_G) (cI cZ cS cJ : ClassId) (a : AD) (st : ST) (x1 : Int32) (r : Int32) (st' : ST) (hF : F_keep st x1 = some (0, r, st')) : Met l yX5_keep wsX5_keep rmN5_keep (uP D (gT cI cZ cS cJ) (WS cI cZ cS a st) [.ref a.1, .int x1]) (uQ D (some (.int r)) (uA (WS cI cZ cS a st)) (WS cI cZ cS a st')) 0 0 (uA (WS cI cZ cS a st)) := by
  obtain ⟨k0, r0, z_kf, z_kP, h, e⟩ := bd4_at hF
  cases e
  have t := N5_keep l D cI cZ cS cJ a.1 a.2.1.1 a.2.1.2.1 a.2.1.2.2.1 a.2.1.2.2.2.1 a.2.1.2.2.2.2.1 a.2.1.2.2.2.2.2.1 a.2.1.2.2.2.2.2.2.1 a.2.1.2.2.2.2.2.2.2 a.2.2.1 a.2.2.2.1 a.2.2.2.2.1 a.2.2.2.2.2.1 a.2.2.2.2.2.2.1 a.2.2.2.2.2.2.2.1 a.2.2.2.2.2.2.2.2.2 st.1.1 st.1.2.1 st.1.2.2.1 st.1.2.2.2.1 st.1.2.2.2.2.1 st.1.2.2.2.2.2.1 st.1.2.2.2.2.2.2.1 st.1.2.2.2.2.2.2.2 st.2.1 st.2.2.1 st.2.2.2.1 st.2.2.2.2.1 (rotn st.2.2.2.2.2.1 a.2.2.2.2.2.2.2.2.1) st.2.2.2.2.2.2.1 st.2.2.2.2.2.2.2 x1 _ _ _ h
  exact t
def F_goBack (st : ST) (x1 : Int32) : Option (Nat × Int32 × ST) := bd13 (f5_goBack st.1.1 st.1.2.1 st.1.2.2.1 st.1.2.2.2.1 st.1.2.2.2.2.1 st.1.2.2.2.2.2.1 st.1.2.2.2.2.2.2.1 st.1.2.2.2.2.2.2.2 st.2.2.2.1 st.2.2.2.2.1 dA st.2.2.2.2.2.2.1 st.2.2.2.2.2.2.2 x1) (fun k r z_sr z_wm z_wW z_bh z_bF z_bZ z_bK z_bM z_kd _ z_kV => some (k, r, ((z_sr, z_wm, z_wW, z_bh, z_bF, z_bZ, z_bK, z_bM), st.2.1, st.2.2.1, z_kd, st.2.2.2.2.1, (if k = 0 ∧ st.2.2.2.1 = 6 then st.2.2.2.2.2.1 + 1 else st.2.2.2.2.2.1), z_kV, st.2.2.2.2.2.2.2)))
theorem P_goBack (sr : Int32) (wm : Int32) (wW : Nat → Int32) (bh : Int32) (bF : Nat → Int32) (bZ : Nat → Int32) (bK : Nat → Int32) (bM : Nat → Int32) (kd : Int32) (kf : Nat → Int32) (kA : Nat → SA) (kV : Nat → SV) (kP : Nat → SV) (x1 : Int32) : Rl (fun z => (z.1, z.2.1, z.2.2.1, z.2.2.2.1, z.2.2.2.2.1, z.2.2.2.2.2.1, z.2.2.2.2.2.2.1, z.2.2.2.2.2.2.2.1, z.2.2.2.2.2.2.2.2.1, z.2.2.2.2.2.2.2.2.2.1, z.2.2.2.2.2.2.2.2.2.2.1, (if z.1 = 0 ∧ kd = 6 then rotA kA else kA), z.2.2.2.2.2.2.2.2.2.2.2.2)) (f5_goBack sr wm wW bh bF bZ bK bM kd kf dA kV kP x1) (f5_goBack sr wm wW bh bF bZ bK bM kd kf kA kV kP x1) := by
  unfold f5_goBack
  repeat (first | (refine rl_save (fun _ _ _ => ?_)) | (refine rl_bd1 (fun _ => ?_)) | (refine rl_bd2 (fun _ _ => ?_)) | (refine rl_bd3 (fun _ _ _ => ?_)) | (refine rl_bd4 (fun _ _ _ _ => ?_)) | (refine rl_bd6 (fun _ _ _ _ _ _ => ?_)) | (refine rl_bd7 (fun _ _ _ _ _ _ _ => ?_)) | (refine rl_bd8 (fun _ _ _ _ _ _ _ _ => ?_)) | (refine rl_ite (fun _ => ?_) (fun _ => ?_)) | exact rl_none | (focus (refine rl_some ?_; simp; done)) | (focus (refine rl_some ?_; simp [*]; done)))
theorem KS_goBack (l : Launch) (hfl : l.stackTraces = false) (D : va_G) (cI cZ cS cJ : ClassId) (a : AD) (st : ST) (x1 : Int32) (k : Nat) (r : Int32) (st' : ST) (hF : F_goBack st x1 = some (k, r, st')) : vx_Met l yX5_goBack wsX5_goBack rm5_goBack (xP D (gT cI cZ cS cJ) (WS cI cZ cS a st) [.ref a.1, .int x1]) (xQ D k (some (.int r)) (uA (WS cI cZ cS a st)) (WS cI cZ cS a st')) (xX D k (uA (WS cI cZ cS a st)) (WS cI cZ cS a st')) 2 12 (uA (WS cI cZ cS a st)) := by
  obtain ⟨k0, r0, z_sr, z_wm, z_wW, z_bh, z_bF, z_bZ, z_bK, z_bM, z_kd, z_kA, z_kV, h, e⟩ := bd13_at hF
  cases e
  have h := P_goBack st.1.1 st.1.2.1 st.1.2.2.1 st.1.2.2.2.1 st.1.2.2.2.2.1 st.1.2.2.2.2.2.1 st.1.2.2.2.2.2.2.1 st.1.2.2.2.2.2.2.2 st.2.2.2.1 st.2.2.2.2.1 (rotn st.2.2.2.2.2.1 a.2.2.2.2.2.2.2.2.1) st.2.2.2.2.2.2.1 st.2.2.2.2.2.2.2 x1 _ h
  have t := K5_goBack l hfl D cI cZ cS cJ a.1 a.2.1.1 a.2.1.2.1 a.2.1.2.2.1 a.2.1.2.2.2.1 a.2.1.2.2.2.2.1 a.2.1.2.2.2.2.2.1 a.2.1.2.2.2.2.2.2.1 a.2.1.2.2.2.2.2.2.2 a.2.2.1 a.2.2.2.1 a.2.2.2.2.1 a.2.2.2.2.2.1 a.2.2.2.2.2.2.1 a.2.2.2.2.2.2.2.1 a.2.2.2.2.2.2.2.2.2 st.1.1 st.1.2.1 st.1.2.2.1 st.1.2.2.2.1 st.1.2.2.2.2.1 st.1.2.2.2.2.2.1 st.1.2.2.2.2.2.2.1 st.1.2.2.2.2.2.2.2 st.2.1 st.2.2.1 st.2.2.2.1 st.2.2.2.2.1 (rotn st.2.2.2.2.2.1 a.2.2.2.2.2.2.2.2.1) st.2.2.2.2.2.2.1 st.2.2.2.2.2.2.2 x1 _ _ _ _ _ _ _ _ _ _ _ _ _ h
  rw [← rotn_if] at t
  exact t
theorem NS_goBack (l : Launch) (D : va_G) (cI cZ cS cJ : ClassId) (a : AD) (st : ST) (x1 : Int32) (r : Int32) (st' : ST) (hF : F_goBack st x1 = some (0, r, st')) : Met l yX5_goBack wsX5_goBack rmN5_goBack (uP D (gT cI cZ cS cJ) (WS cI cZ cS a st) [.ref a.1, .int x1]) (uQ D (some (.int r)) (uA (WS cI cZ cS a st)) (WS cI cZ cS a st')) 0 0 (uA (WS cI cZ cS a st)) := by
  obtain ⟨k0, r0, z_sr, z_wm, z_wW, z_bh, z_bF, z_bZ, z_bK, z_bM, z_kd, z_kA, z_kV, h, e⟩ := bd13_at hF
  cases e
  have h := P_goBack st.1.1 st.1.2.1 st.1.2.2.1 st.1.2.2.2.1 st.1.2.2.2.2.1 st.1.2.2.2.2.2.1 st.1.2.2.2.2.2.2.1 st.1.2.2.2.2.2.2.2 st.2.2.2.1 st.2.2.2.2.1 (rotn st.2.2.2.2.2.1 a.2.2.2.2.2.2.2.2.1) st.2.2.2.2.2.2.1 st.2.2.2.2.2.2.2 x1 _ h
  have t := N5_goBack l D cI cZ cS cJ a.1 a.2.1.1 a.2.1.2.1 a.2.1.2.2.1 a.2.1.2.2.2.1 a.2.1.2.2.2.2.1 a.2.1.2.2.2.2.2.1 a.2.1.2.2.2.2.2.2.1 a.2.1.2.2.2.2.2.2.2 a.2.2.1 a.2.2.2.1 a.2.2.2.2.1 a.2.2.2.2.2.1 a.2.2.2.2.2.2.1 a.2.2.2.2.2.2.2.1 a.2.2.2.2.2.2.2.2.2 st.1.1 st.1.2.1 st.1.2.2.1 st.1.2.2.2.1 st.1.2.2.2.2.1 st.1.2.2.2.2.2.1 st.1.2.2.2.2.2.2.1 st.1.2.2.2.2.2.2.2 st.2.1 st.2.2.1 st.2.2.2.1 st.2.2.2.2.1 (rotn st.2.2.2.2.2.1 a.2.2.2.2.2.2.2.2.1) st.2.2.2.2.2.2.1 st.2.2.2.2.2.2.2 x1 _ _ _ _ _ _ _ _ _ _ _ _ h
  rw [← rotn_if] at t
  exact t
def F_letter (st : ST) (x1 : Int32) : Option (Nat × Int32) := f5_letter st.1.2.1 st.1.2.2.1 x1
theorem KS_letter (l : Launch) (hfl : l.stackTraces = false) (D : va_G) (cI cZ cS cJ : ClassId) (a : AD) (st : ST) (x1 : Int32) (k : Nat) (r : Int32) (hF : F_letter st x1 = some (k, r)) : vx_Met l yX5_letter wsX5_letter rm5_letter (xP D (gT cI cZ cS cJ) (WS cI cZ cS a st) [.ref a.1, .int x1]) (xQ D k (some (.int r)) (uA (WS cI cZ cS a st)) (WS cI cZ cS a st)) (xX D k (uA (WS cI cZ cS a st)) (WS cI cZ cS a st)) 1 6 (uA (WS cI cZ cS a st)) := by
  exact K5_letter l hfl D cI cZ cS cJ a.1 a.2.1.1 a.2.1.2.1 a.2.1.2.2.1 a.2.1.2.2.2.1 a.2.1.2.2.2.2.1 a.2.1.2.2.2.2.2.1 a.2.1.2.2.2.2.2.2.1 a.2.1.2.2.2.2.2.2.2 a.2.2.1 a.2.2.2.1 a.2.2.2.2.1 a.2.2.2.2.2.1 a.2.2.2.2.2.2.1 a.2.2.2.2.2.2.2.1 a.2.2.2.2.2.2.2.2.2 st.1.1 st.1.2.1 st.1.2.2.1 st.1.2.2.2.1 st.1.2.2.2.2.1 st.1.2.2.2.2.2.1 st.1.2.2.2.2.2.2.1 st.1.2.2.2.2.2.2.2 st.2.1 st.2.2.1 st.2.2.2.1 st.2.2.2.2.1 (rotn st.2.2.2.2.2.1 a.2.2.2.2.2.2.2.2.1) st.2.2.2.2.2.2.1 st.2.2.2.2.2.2.2 x1 _ _ hF
theorem NS_letter (l : Launch) (D : va_G) (cI cZ cS cJ : ClassId) (a : AD) (st : ST) (x1 : Int32) (r : Int32) (hF : F_letter st x1 = some (0, r)) : Met l yX5_letter wsX5_letter rmN5_letter (rP D (gT cI cZ cS cJ) (WS cI cZ cS a st) [.ref a.1, .int x1]) (rQ (.int r)) 0 0 (fun _ => False) := by
  exact N5_letter l D cI cZ cS cJ a.1 a.2.1.1 a.2.1.2.1 a.2.1.2.2.1 a.2.1.2.2.2.1 a.2.1.2.2.2.2.1 a.2.1.2.2.2.2.2.1 a.2.1.2.2.2.2.2.2.1 a.2.1.2.2.2.2.2.2.2 a.2.2.1 a.2.2.2.1 a.2.2.2.2.1 a.2.2.2.2.2.1 a.2.2.2.2.2.2.1 a.2.2.2.2.2.2.2.1 a.2.2.2.2.2.2.2.2.2 st.1.1 st.1.2.1 st.1.2.2.1 st.1.2.2.2.1 st.1.2.2.2.2.1 st.1.2.2.2.2.2.1 st.1.2.2.2.2.2.2.1 st.1.2.2.2.2.2.2.2 st.2.1 st.2.2.1 st.2.2.2.1 st.2.2.2.2.1 (rotn st.2.2.2.2.2.1 a.2.2.2.2.2.2.2.2.1) st.2.2.2.2.2.2.1 st.2.2.2.2.2.2.2 x1 _ hF
def F_cheque (st : ST) (x1 : Int32) (x2 : Int32) : Option (Nat × Int32) := f5_cheque st.1.2.2.2.1 st.1.2.2.2.2.1 st.1.2.2.2.2.2.1 st.1.2.2.2.2.2.2.1 st.1.2.2.2.2.2.2.2 x1 x2
theorem KS_cheque (l : Launch) (hfl : l.stackTraces = false) (D : va_G) (cI cZ cS cJ : ClassId) (a : AD) (st : ST) (x1 : Int32) (x2 : Int32) (k : Nat) (r : Int32) (hF : F_cheque st x1 x2 = some (k, r)) : vx_Met l yX5_cheque wsX5_cheque rm5_cheque (xP D (gT cI cZ cS cJ) (WS cI cZ cS a st) [.ref a.1, .int x1, .int x2]) (xQ D k (some (.int r)) (uA (WS cI cZ cS a st)) (WS cI cZ cS a st)) (xX D k (uA (WS cI cZ cS a st)) (WS cI cZ cS a st)) 1 6 (uA (WS cI cZ cS a st)) := by
  exact K5_cheque l hfl D cI cZ cS cJ a.1 a.2.1.1 a.2.1.2.1 a.2.1.2.2.1 a.2.1.2.2.2.1 a.2.1.2.2.2.2.1 a.2.1.2.2.2.2.2.1 a.2.1.2.2.2.2.2.2.1 a.2.1.2.2.2.2.2.2.2 a.2.2.1 a.2.2.2.1 a.2.2.2.2.1 a.2.2.2.2.2.1 a.2.2.2.2.2.2.1 a.2.2.2.2.2.2.2.1 a.2.2.2.2.2.2.2.2.2 st.1.1 st.1.2.1 st.1.2.2.1 st.1.2.2.2.1 st.1.2.2.2.2.1 st.1.2.2.2.2.2.1 st.1.2.2.2.2.2.2.1 st.1.2.2.2.2.2.2.2 st.2.1 st.2.2.1 st.2.2.2.1 st.2.2.2.2.1 (rotn st.2.2.2.2.2.1 a.2.2.2.2.2.2.2.2.1) st.2.2.2.2.2.2.1 st.2.2.2.2.2.2.2 x1 x2 _ _ hF
theorem NS_cheque (l : Launch) (D : va_G) (cI cZ cS cJ : ClassId) (a : AD) (st : ST) (x1 : Int32) (x2 : Int32) (r : Int32) (hF : F_cheque st x1 x2 = some (0, r)) : Met l yX5_cheque wsX5_cheque rmN5_cheque (rP D (gT cI cZ cS cJ) (WS cI cZ cS a st) [.ref a.1, .int x1, .int x2]) (rQ (.int r)) 0 0 (fun _ => False) := by
  exact N5_cheque l D cI cZ cS cJ a.1 a.2.1.1 a.2.1.2.1 a.2.1.2.2.1 a.2.1.2.2.2.1 a.2.1.2.2.2.2.1 a.2.1.2.2.2.2.2.1 a.2.1.2.2.2.2.2.2.1 a.2.1.2.2.2.2.2.2.2 a.2.2.1 a.2.2.2.1 a.2.2.2.2.1 a.2.2.2.2.2.1 a.2.2.2.2.2.2.1 a.2.2.2.2.2.2.2.1 a.2.2.2.2.2.2.2.2.2 st.1.1 st.1.2.1 st.1.2.2.1 st.1.2.2.2.1 st.1.2.2.2.2.1 st.1.2.2.2.2.2.1 st.1.2.2.2.2.2.2.1 st.1.2.2.2.2.2.2.2 st.2.1 st.2.2.1 st.2.2.2.1 st.2.2.2.2.1 (rotn st.2.2.2.2.2.1 a.2.2.2.2.2.2.2.2.1) st.2.2.2.2.2.2.1 st.2.2.2.2.2.2.2 x1 x2 _ hF
def F_bookOf (st : ST) (x1 : Int32) (x2 : Int32) : Option (Nat × Int32) := f5_bookOf st.1.2.2.2.1 st.1.2.2.2.2.1 st.1.2.2.2.2.2.1 st.1.2.2.2.2.2.2.1 st.1.2.2.2.2.2.2.2 x1 x2
theorem KS_bookOf (l : Launch) (hfl : l.stackTraces = false) (D : va_G) (cI cZ cS cJ : ClassId) (a : AD) (st : ST) (x1 : Int32) (x2 : Int32) (k : Nat) (r : Int32) (hF : F_bookOf st x1 x2 = some (k, r)) : vx_Met l yX5_bookOf wsX5_bookOf rm5_bookOf (xP D (gT cI cZ cS cJ) (WS cI cZ cS a st) [.ref a.1, .int x1, .int x2]) (xQ D k (some (.int r)) (uA (WS cI cZ cS a st)) (WS cI cZ cS a st)) (xX D k (uA (WS cI cZ cS a st)) (WS cI cZ cS a st)) 1 6 (uA (WS cI cZ cS a st)) := by
  exact K5_bookOf l hfl D cI cZ cS cJ a.1 a.2.1.1 a.2.1.2.1 a.2.1.2.2.1 a.2.1.2.2.2.1 a.2.1.2.2.2.2.1 a.2.1.2.2.2.2.2.1 a.2.1.2.2.2.2.2.2.1 a.2.1.2.2.2.2.2.2.2 a.2.2.1 a.2.2.2.1 a.2.2.2.2.1 a.2.2.2.2.2.1 a.2.2.2.2.2.2.1 a.2.2.2.2.2.2.2.1 a.2.2.2.2.2.2.2.2.2 st.1.1 st.1.2.1 st.1.2.2.1 st.1.2.2.2.1 st.1.2.2.2.2.1 st.1.2.2.2.2.2.1 st.1.2.2.2.2.2.2.1 st.1.2.2.2.2.2.2.2 st.2.1 st.2.2.1 st.2.2.2.1 st.2.2.2.2.1 (rotn st.2.2.2.2.2.1 a.2.2.2.2.2.2.2.2.1) st.2.2.2.2.2.2.1 st.2.2.2.2.2.2.2 x1 x2 _ _ hF
theorem NS_bookOf (l : Launch) (D : va_G) (cI cZ cS cJ : ClassId) (a : AD) (st : ST) (x1 : Int32) (x2 : Int32) (r : Int32) (hF : F_bookOf st x1 x2 = some (0, r)) : Met l yX5_bookOf wsX5_bookOf rmN5_bookOf (rP D (gT cI cZ cS cJ) (WS cI cZ cS a st) [.ref a.1, .int x1, .int x2]) (rQ (.int r)) 0 0 (fun _ => False) := by
  exact N5_bookOf l D cI cZ cS cJ a.1 a.2.1.1 a.2.1.2.1 a.2.1.2.2.1 a.2.1.2.2.2.1 a.2.1.2.2.2.2.1 a.2.1.2.2.2.2.2.1 a.2.1.2.2.2.2.2.2.1 a.2.1.2.2.2.2.2.2.2 a.2.2.1 a.2.2.2.1 a.2.2.2.2.1 a.2.2.2.2.2.1 a.2.2.2.2.2.2.1 a.2.2.2.2.2.2.2.1 a.2.2.2.2.2.2.2.2.2 st.1.1 st.1.2.1 st.1.2.2.1 st.1.2.2.2.1 st.1.2.2.2.2.1 st.1.2.2.2.2.2.1 st.1.2.2.2.2.2.2.1 st.1.2.2.2.2.2.2.2 st.2.1 st.2.2.1 st.2.2.2.1 st.2.2.2.2.1 (rotn st.2.2.2.2.2.1 a.2.2.2.2.2.2.2.2.1) st.2.2.2.2.2.2.1 st.2.2.2.2.2.2.2 x1 x2 _ hF
def F_count (st : ST) (x1 : Int32) : Option (Nat × Int32) := f5_count st.1.1 st.1.2.1 st.1.2.2.1 st.1.2.2.2.1 st.1.2.2.2.2.1 st.1.2.2.2.2.2.1 st.1.2.2.2.2.2.2.1 st.1.2.2.2.2.2.2.2 st.2.1 st.2.2.2.1 x1
theorem KS_count (l : Launch) (hfl : l.stackTraces = false) (D : va_G) (cI cZ cS cJ : ClassId) (a : AD) (st : ST) (x1 : Int32) (k : Nat) (r : Int32) (hF : F_count st x1 = some (k, r)) : vx_Met l yX5_count wsX5_count rm5_count (xP D (gT cI cZ cS cJ) (WS cI cZ cS a st) [.ref a.1, .int x1]) (xQ D k (some (.int r)) (uA (WS cI cZ cS a st)) (WS cI cZ cS a st)) (xX D k (uA (WS cI cZ cS a st)) (WS cI cZ cS a st)) 1 6 (uA (WS cI cZ cS a st)) := by
  exact K5_count l hfl D cI cZ cS cJ a.1 a.2.1.1 a.2.1.2.1 a.2.1.2.2.1 a.2.1.2.2.2.1 a.2.1.2.2.2.2.1 a.2.1.2.2.2.2.2.1 a.2.1.2.2.2.2.2.2.1 a.2.1.2.2.2.2.2.2.2 a.2.2.1 a.2.2.2.1 a.2.2.2.2.1 a.2.2.2.2.2.1 a.2.2.2.2.2.2.1 a.2.2.2.2.2.2.2.1 a.2.2.2.2.2.2.2.2.2 st.1.1 st.1.2.1 st.1.2.2.1 st.1.2.2.2.1 st.1.2.2.2.2.1 st.1.2.2.2.2.2.1 st.1.2.2.2.2.2.2.1 st.1.2.2.2.2.2.2.2 st.2.1 st.2.2.1 st.2.2.2.1 st.2.2.2.2.1 (rotn st.2.2.2.2.2.1 a.2.2.2.2.2.2.2.2.1) st.2.2.2.2.2.2.1 st.2.2.2.2.2.2.2 x1 _ _ hF
theorem NS_count (l : Launch) (D : va_G) (cI cZ cS cJ : ClassId) (a : AD) (st : ST) (x1 : Int32) (r : Int32) (hF : F_count st x1 = some (0, r)) : Met l yX5_count wsX5_count rmN5_count (rP D (gT cI cZ cS cJ) (WS cI cZ cS a st) [.ref a.1, .int x1]) (rQ (.int r)) 0 0 (fun _ => False) := by
  exact N5_count l D cI cZ cS cJ a.1 a.2.1.1 a.2.1.2.1 a.2.1.2.2.1 a.2.1.2.2.2.1 a.2.1.2.2.2.2.1 a.2.1.2.2.2.2.2.1 a.2.1.2.2.2.2.2.2.1 a.2.1.2.2.2.2.2.2.2 a.2.2.1 a.2.2.2.1 a.2.2.2.2.1 a.2.2.2.2.2.1 a.2.2.2.2.2.2.1 a.2.2.2.2.2.2.2.1 a.2.2.2.2.2.2.2.2.2 st.1.1 st.1.2.1 st.1.2.2.1 st.1.2.2.2.1 st.1.2.2.2.2.1 st.1.2.2.2.2.2.1 st.1.2.2.2.2.2.2.1 st.1.2.2.2.2.2.2.2 st.2.1 st.2.2.1 st.2.2.2.1 st.2.2.2.2.1 (rotn st.2.2.2.2.2.1 a.2.2.2.2.2.2.2.2.1) st.2.2.2.2.2.2.1 st.2.2.2.2.2.2.2 x1 _ hF
def F_ranked (st : ST) (x1 : Int32) : Option (Nat × Int32) := f5_ranked st.1.2.2.2.1 st.1.2.2.2.2.1 st.1.2.2.2.2.2.1 x1
theorem KS_ranked (l : Launch) (hfl : l.stackTraces = false) (D : va_G) (cI cZ cS cJ : ClassId) (a : AD) (st : ST) (x1 : Int32) (k : Nat) (r : Int32) (hF : F_ranked st x1 = some (k, r)) : vx_Met l yX5_ranked wsX5_ranked rm5_ranked (xP D (gT cI cZ cS cJ) (WS cI cZ cS a st) [.ref a.1, .int x1]) (xQ D k (some (.int r)) (uA (WS cI cZ cS a st)) (WS cI cZ cS a st)) (xX D k (uA (WS cI cZ cS a st)) (WS cI cZ cS a st)) 1 6 (uA (WS cI cZ cS a st)) := by
  exact K5_ranked l hfl D cI cZ cS cJ a.1 a.2.1.1 a.2.1.2.1 a.2.1.2.2.1 a.2.1.2.2.2.1 a.2.1.2.2.2.2.1 a.2.1.2.2.2.2.2.1 a.2.1.2.2.2.2.2.2.1 a.2.1.2.2.2.2.2.2.2 a.2.2.1 a.2.2.2.1 a.2.2.2.2.1 a.2.2.2.2.2.1 a.2.2.2.2.2.2.1 a.2.2.2.2.2.2.2.1 a.2.2.2.2.2.2.2.2.2 st.1.1 st.1.2.1 st.1.2.2.1 st.1.2.2.2.1 st.1.2.2.2.2.1 st.1.2.2.2.2.2.1 st.1.2.2.2.2.2.2.1 st.1.2.2.2.2.2.2.2 st.2.1 st.2.2.1 st.2.2.2.1 st.2.2.2.2.1 (rotn st.2.2.2.2.2.1 a.2.2.2.2.2.2.2.2.1) st.2.2.2.2.2.2.1 st.2.2.2.2.2.2.2 x1 _ _ hF
theorem NS_ranked (l : Launch) (D : va_G) (cI cZ cS cJ : ClassId) (a : AD) (st : ST) (x1 : Int32) (r : Int32) (hF : F_ranked st x1 = some (0, r)) : Met l yX5_ranked wsX5_ranked rmN5_ranked (rP D (gT cI cZ cS cJ) (WS cI cZ cS a st) [.ref a.1, .int x1]) (rQ (.int r)) 0 0 (fun _ => False) := by
  exact N5_ranked l D cI cZ cS cJ a.1 a.2.1.1 a.2.1.2.1 a.2.1.2.2.1 a.2.1.2.2.2.1 a.2.1.2.2.2.2.1 a.2.1.2.2.2.2.2.1 a.2.1.2.2.2.2.2.2.1 a.2.1.2.2.2.2.2.2.2 a.2.2.1 a.2.2.2.1 a.2.2.2.2.1 a.2.2.2.2.2.1 a.2.2.2.2.2.2.1 a.2.2.2.2.2.2.2.1 a.2.2.2.2.2.2.2.2.2 st.1.1 st.1.2.1 st.1.2.2.1 st.1.2.2.2.1 st.1.2.2.2.2.1 st.1.2.2.2.2.2.1 st.1.2.2.2.2.2.2.1 st.1.2.2.2.2.2.2.2 st.2.1 st.2.2.1 st.2.2.2.1 st.2.2.2.2.1 (rotn st.2.2.2.2.2.1 a.2.2.2.2.2.2.2.2.1) st.2.2.2.2.2.2.1 st.2.2.2.2.2.2.2 x1 _ hF
def F_missed (st : ST) (x1 : Int32) (x2 : Int32) : Option (Nat × Int32) := f5_missed st.1.2.1 st.1.2.2.1 x1 x2
theorem KS_missed (l : Launch) (hfl : l.stackTraces = false) (D : va_G) (cI cZ cS cJ : ClassId) (a : AD) (st : ST) (x1 : Int32) (x2 : Int32) (k : Nat) (r : Int32) (hF : F_missed st x1 x2 = some (k, r)) : vx_Met l yX5_missed wsX5_missed rm5_missed (xP D (gT cI cZ cS cJ) (WS cI cZ cS a st) [.ref a.1, .int x1, .int x2]) (xQ D k (some (.int r)) (uA (WS cI cZ cS a st)) (WS cI cZ cS a st)) (xX D k (uA (WS cI cZ cS a st)) (WS cI cZ cS a st)) 2 12 (uA (WS cI cZ cS a st)) := by
  exact K5_missed l hfl D cI cZ cS cJ a.1 a.2.1.1 a.2.1.2.1 a.2.1.2.2.1 a.2.1.2.2.2.1 a.2.1.2.2.2.2.1 a.2.1.2.2.2.2.2.1 a.2.1.2.2.2.2.2.2.1 a.2.1.2.2.2.2.2.2.2 a.2.2.1 a.2.2.2.1 a.2.2.2.2.1 a.2.2.2.2.2.1 a.2.2.2.2.2.2.1 a.2.2.2.2.2.2.2.1 a.2.2.2.2.2.2.2.2.2 st.1.1 st.1.2.1 st.1.2.2.1 st.1.2.2.2.1 st.1.2.2.2.2.1 st.1.2.2.2.2.2.1 st.1.2.2.2.2.2.2.1 st.1.2.2.2.2.2.2.2 st.2.1 st.2.2.1 st.2.2.2.1 st.2.2.2.2.1 (rotn st.2.2.2.2.2.1 a.2.2.2.2.2.2.2.2.1) st.2.2.2.2.2.2.1 st.2.2.2.2.2.2.2 x1 x2 _ _ hF
theorem NS_missed (l : Launch) (D : va_G) (cI cZ cS cJ : ClassId) (a : AD) (st : ST) (x1 : Int32) (x2 : Int32) (r : Int32) (hF : F_missed st x1 x2 = some (0, r)) : Met l yX5_missed wsX5_missed rmN5_missed (rP D (gT cI cZ cS cJ) (WS cI cZ cS a st) [.ref a.1, .int x1, .int x2]) (rQ (.int r)) 0 0 (fun _ => False) := by
  exact N5_missed l D cI cZ cS cJ a.1 a.2.1.1 a.2.1.2.1 a.2.1.2.2.1 a.2.1.2.2.2.1 a.2.1.2.2.2.2.1 a.2.1.2.2.2.2.2.1 a.2.1.2.2.2.2.2.2.1 a.2.1.2.2.2.2.2.2.2 a.2.2.1 a.2.2.2.1 a.2.2.2.2.1 a.2.2.2.2.2.1 a.2.2.2.2.2.2.1 a.2.2.2.2.2.2.2.1 a.2.2.2.2.2.2.2.2.2 st.1.1 st.1.2.1 st.1.2.2.1 st.1.2.2.2.1 st.1.2.2.2.2.1 st.1.2.2.2.2.2.1 st.1.2.2.2.2.2.2.1 st.1.2.2.2.2.2.2.2 st.2.1 st.2.2.1 st.2.2.2.1 st.2.2.2.2.1 (rotn st.2.2.2.2.2.1 a.2.2.2.2.2.2.2.2.1) st.2.2.2.2.2.2.1 st.2.2.2.2.2.2.2 x1 x2 _ hF
def F_weak (st : ST) (x1 : Int32) (x2 : Int32) (x3 : Int32) : Option (Nat × Int32) := f5_weak st.1.2.1 st.1.2.2.1 x1 x2 x3
theorem KS_weak (l : Launch) (hfl : l.stackTraces = false) (D : va_G) (cI cZ cS cJ : ClassId) (a : AD) (st : ST) (x1 : Int32) (x2 : Int32) (x3 : Int32) (k : Nat) (r : Int32) (hF : F_weak st x1 x2 x3 = some (k, r)) : vx_Met l yX5_weak wsX5_weak rm5_weak (xP D (gT cI cZ cS cJ) (WS cI cZ cS a st) [.ref a.1, .int x1, .int x2, .int x3]) (xQ D k (some (.int r)) (uA (WS cI cZ cS a st)) (WS cI cZ cS a st)) (xX D k (uA (WS cI cZ cS a st)) (WS cI cZ cS a st)) 1 6 (uA (WS cI cZ cS a st)) := by
  exact K5_weak l hfl D cI cZ cS cJ a.1 a.2.1.1 a.2.1.2.1 a.2.1.2.2.1 a.2.1.2.2.2.1 a.2.1.2.2.2.2.1 a.2.1.2.2.2.2.2.1 a.2.1.2.2.2.2.2.2.1 a.2.1.2.2.2.2.2.2.2 a.2.2.1 a.2.2.2.1 a.2.2.2.2.1 a.2.2.2.2.2.1 a.2.2.2.2.2.2.1 a.2.2.2.2.2.2.2.1 a.2.2.2.2.2.2.2.2.2 st.1.1 st.1.2.1 st.1.2.2.1 st.1.2.2.2.1 st.1.2.2.2.2.1 st.1.2.2.2.2.2.1 st.1.2.2.2.2.2.2.1 st.1.2.2.2.2.2.2.2 st.2.1 st.2.2.1 st.2.2.2.1 st.2.2.2.2.1 (rotn st.2.2.2.2.2.1 a.2.2.2.2.2.2.2.2.1) st.2.2.2.2.2.2.1 st.2.2.2.2.2.2.2 x1 x2 x3 _ _ hF
theorem NS_weak (l : Launch) (D : va_G) (cI cZ cS cJ : ClassId) (a : AD) (st : ST) (x1 : Int32) (x2 : Int32) (x3 : Int32) (r : Int32) (hF : F_weak st x1 x2 x3 = some (0, r)) : Met l yX5_weak wsX5_weak rmN5_weak (rP D (gT cI cZ cS cJ) (WS cI cZ cS a st) [.ref a.1, .int x1, .int x2, .int x3]) (rQ (.int r)) 0 0 (fun _ => False) := by
  exact N5_weak l D cI cZ cS cJ a.1 a.2.1.1 a.2.1.2.1 a.2.1.2.2.1 a.2.1.2.2.2.1 a.2.1.2.2.2.2.1 a.2.1.2.2.2.2.2.1 a.2.1.2.2.2.2.2.2.1 a.2.1.2.2.2.2.2.2.2 a.2.2.1 a.2.2.2.1 a.2.2.2.2.1 a.2.2.2.2.2.1 a.2.2.2.2.2.2.1 a.2.2.2.2.2.2.2.1 a.2.2.2.2.2.2.2.2.2 st.1.1 st.1.2.1 st.1.2.2.1 st.1.2.2.2.1 st.1.2.2.2.2.1 st.1.2.2.2.2.2.1 st.1.2.2.2.2.2.2.1 st.1.2.2.2.2.2.2.2 st.2.1 st.2.2.1 st.2.2.2.1 st.2.2.2.2.1 (rotn st.2.2.2.2.2.1 a.2.2.2.2.2.2.2.2.1) st.2.2.2.2.2.2.1 st.2.2.2.2.2.2.2 x1 x2 x3 _ hF
def F_finds (st : ST) (x1 : Int32) : Option (Nat × Int32) := f5_finds st.1.2.1 st.1.2.2.1 x1
theorem KS_finds (l : Launch) (hfl : l.stackTraces = false) (D : va_G) (cI cZ cS cJ : ClassId) (a : AD) (st : ST) (x1 : Int32) (k : Nat) (r : Int32) (hF : F_finds st x1 = some (k, r)) : vx_Met l yX5_finds wsX5_finds rm5_finds (xP D (gT cI cZ cS cJ) (WS cI cZ cS a st) [.ref a.1, .int x1]) (xQ D k (some (.int r)) (uA (WS cI cZ cS a st)) (WS cI cZ cS a st)) (xX D k (uA (WS cI cZ cS a st)) (WS cI cZ cS a st)) 1 6 (uA (WS cI cZ cS a st)) := by
  exact K5_finds l hfl D cI cZ cS cJ a.1 a.2.1.1 a.2.1.2.1 a.2.1.2.2.1 a.2.1.2.2.2.1 a.2.1.2.2.2.2.1 a.2.1.2.2.2.2.2.1 a.2.1.2.2.2.2.2.2.1 a.2.1.2.2.2.2.2.2.2 a.2.2.1 a.2.2.2.1 a.2.2.2.2.1 a.2.2.2.2.2.1 a.2.2.2.2.2.2.1 a.2.2.2.2.2.2.2.1 a.2.2.2.2.2.2.2.2.2 st.1.1 st.1.2.1 st.1.2.2.1 st.1.2.2.2.1 st.1.2.2.2.2.1 st.1.2.2.2.2.2.1 st.1.2.2.2.2.2.2.1 st.1.2.2.2.2.2.2.2 st.2.1 st.2.2.1 st.2.2.2.1 st.2.2.2.2.1 (rotn st.2.2.2.2.2.1 a.2.2.2.2.2.2.2.2.1) st.2.2.2.2.2.2.1 st.2.2.2.2.2.2.2 x1 _ _ hF
theorem NS_finds (l : Launch) (D : va_G) (cI cZ cS cJ : ClassId) (a : AD) (st : ST) (x1 : Int32) (r : Int32) (hF : F_finds st x1 = some (0, r)) : Met l yX5_finds wsX5_finds rmN5_finds (rP D (gT cI cZ cS cJ) (WS cI cZ cS a st) [.ref a.1, .int x1]) (rQ (.int r)) 0 0 (fun _ => False) := by
  exact N5_finds l D cI cZ cS cJ a.1 a.2.1.1 a.2.1.2.1 a.2.1.2.2.1 a.2.1.2.2.2.1 a.2.1.2.2.2.2.1 a.2.1.2.2.2.2.2.1 a.2.1.2.2.2.2.2.2.1 a.2.1.2.2.2.2.2.2.2 a.2.2.1 a.2.2.2.1 a.2.2.2.2.1 a.2.2.2.2.2.1 a.2.2.2.2.2.2.1 a.2.2.2.2.2.2.2.1 a.2.2.2.2.2.2.2.2.2 st.1.1 st.1.2.1 st.1.2.2.1 st.1.2.2.2.1 st.1.2.2.2.2.1 st.1.2.2.2.2.2.1 st.1.2.2.2.2.2.2.1 st.1.2.2.2.2.2.2.2 st.2.1 st.2.2.1 st.2.2.2.1 st.2.2.2.2.1 (rotn st.2.2.2.2.2.1 a.2.2.2.2.2.2.2.2.1) st.2.2.2.2.2.2.1 st.2.2.2.2.2.2.2 x1 _ hF
def F_bestWeight (st : ST) (x1 : Int32) : Option (Nat × Int32) := f5_bestWeight st.1.2.1 st.1.2.2.1 x1
theorem KS_bestWeight (l : Launch) (hfl : l.stackTraces = false) (D : va_G) (cI cZ cS cJ : ClassId) (a : AD) (st : ST) (x1 : Int32) (k : Nat) (r : Int32) (hF : F_bestWeight st x1 = some (k, r)) : vx_Met l yX5_bestWeight wsX5_bestWeight rm5_bestWeight (xP D (gT cI cZ cS cJ) (WS cI cZ cS a st) [.ref a.1, .int x1]) (xQ D k (some (.int r)) (uA (WS cI cZ cS a st)) (WS cI cZ cS a st)) (xX D k (uA (WS cI cZ cS a st)) (WS cI cZ cS a st)) 1 6 (uA (WS cI cZ cS a st)) := by
  exact K5_bestWeight l hfl D cI cZ cS cJ a.1 a.2.1.1 a.2.1.2.1 a.2.1.2.2.1 a.2.1.2.2.2.1 a.2.1.2.2.2.2.1 a.2.1.2.2.2.2.2.1 a.2.1.2.2.2.2.2.2.1 a.2.1.2.2.2.2.2.2.2 a.2.2.1 a.2.2.2.1 a.2.2.2.2.1 a.2.2.2.2.2.1 a.2.2.2.2.2.2.1 a.2.2.2.2.2.2.2.1 a.2.2.2.2.2.2.2.2.2 st.1.1 st.1.2.1 st.1.2.2.1 st.1.2.2.2.1 st.1.2.2.2.2.1 st.1.2.2.2.2.2.1 st.1.2.2.2.2.2.2.1 st.1.2.2.2.2.2.2.2 st.2.1 st.2.2.1 st.2.2.2.1 st.2.2.2.2.1 (rotn st.2.2.2.2.2.1 a.2.2.2.2.2.2.2.2.1) st.2.2.2.2.2.2.1 st.2.2.2.2.2.2.2 x1 _ _ hF
theorem NS_bestWeight (l : Launch) (D : va_G) (cI cZ cS cJ : ClassId) (a : AD) (st : ST) (x1 : Int32) (r : Int32) (hF : F_bestWeight st x1 = some (0, r)) : Met l yX5_bestWeight wsX5_bestWeight rmN5_bestWeight (rP D (gT cI cZ cS cJ) (WS cI cZ cS a st) [.ref a.1, .int x1]) (rQ (.int r)) 0 0 (fun _ => False) := by
  exact N5_bestWeight l D cI cZ cS cJ a.1 a.2.1.1 a.2.1.2.1 a.2.1.2.2.1 a.2.1.2.2.2.1 a.2.1.2.2.2.2.1 a.2.1.2.2.2.2.2.1 a.2.1.2.2.2.2.2.2.1 a.2.1.2.2.2.2.2.2.2 a.2.2.1 a.2.2.2.1 a.2.2.2.2.1 a.2.2.2.2.2.1 a.2.2.2.2.2.2.1 a.2.2.2.2.2.2.2.1 a.2.2.2.2.2.2.2.2.2 st.1.1 st.1.2.1 st.1.2.2.1 st.1.2.2.2.1 st.1.2.2.2.2.1 st.1.2.2.2.2.2.1 st.1.2.2.2.2.2.2.1 st.1.2.2.2.2.2.2.2 st.2.1 st.2.2.1 st.2.2.2.1 st.2.2.2.2.1 (rotn st.2.2.2.2.2.1 a.2.2.2.2.2.2.2.2.1) st.2.2.2.2.2.2.1 st.2.2.2.2.2.2.2 x1 _ hF
def F_meant (st : ST) (x1 : Int32) (x2 : Int32) (x3 : Int32) : Option (Nat × Int32) := f5_meant st.1.2.1 st.1.2.2.1 st.1.2.2.2.1 st.1.2.2.2.2.1 st.1.2.2.2.2.2.1 x1 x2 x3
theorem KS_meant (l : Launch) (hfl : l.stackTraces = false) (D : va_G) (cI cZ cS cJ : ClassId) (a : AD) (st : ST) (x1 : Int32) (x2 : Int32) (x3 : Int32) (k : Nat) (r : Int32) (hF : F_meant st x1 x2 x3 = some (k, r)) : vx_Met l yX5_meant wsX5_meant rm5_meant (xP D (gT cI cZ cS cJ) (WS cI cZ cS a st) [.ref a.1, .int x1, .int x2, .int x3]) (xQ D k (some (.int r)) (uA (WS cI cZ cS a st)) (WS cI cZ cS a st)) (xX D k (uA (WS cI cZ cS a st)) (WS cI cZ cS a st)) 3 18 (uA (WS cI cZ cS a st)) := by
  exact K5_meant l hfl D cI cZ cS cJ a.1 a.2.1.1 a.2.1.2.1 a.2.1.2.2.1 a.2.1.2.2.2.1 a.2.1.2.2.2.2.1 a.2.1.2.2.2.2.2.1 a.2.1.2.2.2.2.2.2.1 a.2.1.2.2.2.2.2.2.2 a.2.2.1 a.2.2.2.1 a.2.2.2.2.1 a.2.2.2.2.2.1 a.2.2.2.2.2.2.1 a.2.2.2.2.2.2.2.1 a.2.2.2.2.2.2.2.2.2 st.1.1 st.1.2.1 st.1.2.2.1 st.1.2.2.2.1 st.1.2.2.2.2.1 st.1.2.2.2.2.2.1 st.1.2.2.2.2.2.2.1 st.1.2.2.2.2.2.2.2 st.2.1 st.2.2.1 st.2.2.2.1 st.2.2.2.2.1 (rotn st.2.2.2.2.2.1 a.2.2.2.2.2.2.2.2.1) st.2.2.2.2.2.2.1 st.2.2.2.2.2.2.2 x1 x2 x3 _ _ hF
theorem NS_meant (l : Launch) (D : va_G) (cI cZ cS cJ : ClassId) (a : AD) (st : ST) (x1 : Int32) (x2 : Int32) (x3 : Int32) (r : Int32) (hF : F_meant st x1 x2 x3 = some (0, r)) : Met l yX5_meant wsX5_meant rmN5_meant (rP D (gT cI cZ cS cJ) (WS cI cZ cS a st) [.ref a.1, .int x1, .int x2, .int x3]) (rQ (.int r)) 0 0 (fun _ => False) := by
  exact N5_meant l D cI cZ cS cJ a.1 a.2.1.1 a.2.1.2.1 a.2.1.2.2.1 a.2.1.2.2.2.1 a.2.1.2.2.2.2.1 a.2.1.2.2.2.2.2.1 a.2.1.2.2.2.2.2.2.1 a.2.1.2.2.2.2.2.2.2 a.2.2.1 a.2.2.2.1 a.2.2.2.2.1 a.2.2.2.2.2.1 a.2.2.2.2.2.2.1 a.2.2.2.2.2.2.2.1 a.2.2.2.2.2.2.2.2.2 st.1.1 st.1.2.1 st.1.2.2.1 st.1.2.2.2.1 st.1.2.2.2.2.1 st.1.2.2.2.2.2.1 st.1.2.2.2.2.2.2.1 st.1.2.2.2.2.2.2.2 st.2.1 st.2.2.1 st.2.2.2.1 st.2.2.2.2.1 (rotn st.2.2.2.2.2.1 a.2.2.2.2.2.2.2.2.1) st.2.2.2.2.2.2.1 st.2.2.2.2.2.2.2 x1 x2 x3 _ hF
def F_slip (st : ST) (x1 : Int32) (x2 : Int32) (x3 : Int32) : Option (Nat × Int32) := f5_slip st.1.2.1 st.1.2.2.1 x1 x2 x3
theorem KS_slip (l : Launch) (hfl : l.stackTraces = false) (D : va_G) (cI cZ cS cJ : ClassId) (a : AD) (st : ST) (x1 : Int32) (x2 : Int32) (x3 : Int32) (k : Nat) (r : Int32) (hF : F_slip st x1 x2 x3 = some (k, r)) : vx_Met l yX5_slip wsX5_slip rm5_slip (xP D (gT cI cZ cS cJ) (WS cI cZ cS a st) [.ref a.1, .int x1, .int x2, .int x3]) (xQ D k (some (.int r)) (uA (WS cI cZ cS a st)) (WS cI cZ cS a st)) (xX D k (uA (WS cI cZ cS a st)) (WS cI cZ cS a st)) 3 18 (uA (WS cI cZ cS a st)) := by
  exact K5_slip l hfl D cI cZ cS cJ a.1 a.2.1.1 a.2.1.2.1 a.2.1.2.2.1 a.2.1.2.2.2.1 a.2.1.2.2.2.2.1 a.2.1.2.2.2.2.2.1 a.2.1.2.2.2.2.2.2.1 a.2.1.2.2.2.2.2.2.2 a.2.2.1 a.2.2.2.1 a.2.2.2.2.1 a.2.2.2.2.2.1 a.2.2.2.2.2.2.1 a.2.2.2.2.2.2.2.1 a.2.2.2.2.2.2.2.2.2 st.1.1 st.1.2.1 st.1.2.2.1 st.1.2.2.2.1 st.1.2.2.2.2.1 st.1.2.2.2.2.2.1 st.1.2.2.2.2.2.2.1 st.1.2.2.2.2.2.2.2 st.2.1 st.2.2.1 st.2.2.2.1 st.2.2.2.2.1 (rotn st.2.2.2.2.2.1 a.2.2.2.2.2.2.2.2.1) st.2.2.2.2.2.2.1 st.2.2.2.2.2.2.2 x1 x2 x3 _ _ hF
theorem NS_slip (l : Launch) (D : va_G) (cI cZ cS cJ : ClassId) (a : AD) (st : ST) (x1 : Int32) (x2 : Int32) (x3 : Int32) (r : Int32) (hF : F_slip st x1 x2 x3 = some (0, r)) : Met l yX5_slip wsX5_slip rmN5_slip (rP D (gT cI cZ cS cJ) (WS cI cZ cS a st) [.ref a.1, .int x1, .int x2, .int x3]) (rQ (.int r)) 0 0 (fun _ => False) := by
  exact N5_slip l D cI cZ cS cJ a.1 a.2.1.1 a.2.1.2.1 a.2.1.2.2.1 a.2.1.2.2.2.1 a.2.1.2.2.2.2.1 a.2.1.2.2.2.2.2.1 a.2.1.2.2.2.2.2.2.1 a.2.1.2.2.2.2.2.2.2 a.2.2.1 a.2.2.2.1 a.2.2.2.2.1 a.2.2.2.2.2.1 a.2.2.2.2.2.2.1 a.2.2.2.2.2.2.2.1 a.2.2.2.2.2.2.2.2.2 st.1.1 st.1.2.1 st.1.2.2.1 st.1.2.2.2.1 st.1.2.2.2.2.1 st.1.2.2.2.2.2.1 st.1.2.2.2.2.2.2.1 st.1.2.2.2.2.2.2.2 st.2.1 st.2.2.1 st.2.2.2.1 st.2.2.2.2.1 (rotn st.2.2.2.2.2.1 a.2.2.2.2.2.2.2.2.1) st.2.2.2.2.2.2.1 st.2.2.2.2.2.2.2 x1 x2 x3 _ hF
def F_cashed (st : ST) : Option (UInt64) := f5_cashed st.1.2.2.2.1 st.1.2.2.2.2.1 st.1.2.2.2.2.2.1 st.1.2.2.2.2.2.2.1 st.1.2.2.2.2.2.2.2
theorem NS_cashed (l : Launch) (D : va_G) (cI cZ cS cJ : ClassId) (a : AD) (st : ST) (r : UInt64) (hF : F_cashed st = some (r)) : Met l yX5_cashed wsX5_cashed rm5_cashed (rP D (gT cI cZ cS cJ) (WS cI cZ cS a st) [.ref a.1]) (rQ (.double r)) 0 0 (fun _ => False) := by
  exact K5_cashed l D cI cZ cS cJ a.1 a.2.1.1 a.2.1.2.1 a.2.1.2.2.1 a.2.1.2.2.2.1 a.2.1.2.2.2.2.1 a.2.1.2.2.2.2.2.1 a.2.1.2.2.2.2.2.2.1 a.2.1.2.2.2.2.2.2.2 a.2.2.1 a.2.2.2.1 a.2.2.2.2.1 a.2.2.2.2.2.1 a.2.2.2.2.2.2.1 a.2.2.2.2.2.2.2.1 a.2.2.2.2.2.2.2.2.2 st.1.1 st.1.2.1 st.1.2.2.1 st.1.2.2.2.1 st.1.2.2.2.2.1 st.1.2.2.2.2.2.1 st.1.2.2.2.2.2.2.1 st.1.2.2.2.2.2.2.2 st.2.1 st.2.2.1 st.2.2.2.1 st.2.2.2.2.1 (rotn st.2.2.2.2.2.1 a.2.2.2.2.2.2.2.2.1) st.2.2.2.2.2.2.1 st.2.2.2.2.2.2.2 _ hF
