
/-! ===== my kit: short judgements over the kit's (reads, updates), and the rows that walk by them ===== -/
/-- the nest links of the program, as words of the tables -/
def gN (U : State) : Prop := va_Nw (.methodLinkNest RX2 19 yX5_copyRow RX5) U ∧ va_Nw (.methodLinkNest RX0 24 yX5_copyRow RX5) U ∧ va_Nw (.methodLinkNest RX2 37 yX5_positionsOf RX5) U
abbrev gT (cI cZ cS cJ : ClassId) : List (ClassId × FieldType) := [(cI, .int), (cZ, .boolean), (cS, .object RX4), (cJ, .long)]
theorem i_X0 : ∀ w ∈ wsX00, w ∈ lw_all := fun w hw => List.mem_filter.mpr ⟨(by decide +kernel : ∀ w ∈ wsX00, w ∈ lw_tbl) w hw, (by decide +kernel : ∀ w ∈ wsX00, goodWord w = true) w hw⟩
theorem i_X1 : ∀ w ∈ wsX10, w ∈ lw_all := fun w hw => List.mem_filter.mpr ⟨(by decide +kernel : ∀ w ∈ wsX10, w ∈ lw_tbl) w hw, (by decide +kernel : ∀ w ∈ wsX10, goodWord w = true) w hw⟩
theorem i_X2 : ∀ w ∈ wsX20, w ∈ lw_all := fun w hw => List.mem_filter.mpr ⟨(by decide +kernel : ∀ w ∈ wsX20, w ∈ lw_tbl) w hw, (by decide +kernel : ∀ w ∈ wsX20, goodWord w = true) w hw⟩
theorem i_X3 : ∀ w ∈ wsX30, w ∈ lw_all := fun w hw => List.mem_filter.mpr ⟨(by decide +kernel : ∀ w ∈ wsX30, w ∈ lw_tbl) w hw, (by decide +kernel : ∀ w ∈ wsX30, goodWord w = true) w hw⟩
theorem i_X4 : ∀ w ∈ wsX40, w ∈ lw_all := fun w hw => List.mem_filter.mpr ⟨(by decide +kernel : ∀ w ∈ wsX40, w ∈ lw_tbl) w hw, (by decide +kernel : ∀ w ∈ wsX40, goodWord w = true) w hw⟩
theorem i_X5 : ∀ w ∈ wsX50, w ∈ lw_all := fun w hw => List.mem_filter.mpr ⟨(by decide +kernel : ∀ w ∈ wsX50, w ∈ lw_tbl) w hw, (by decide +kernel : ∀ w ∈ wsX50, goodWord w = true) w hw⟩
/-- what a world's tables are -/
def gK (D : va_G) (tys : List (ClassId × FieldType)) (U : State) : Prop := va_K D vwCl tys U ∧ gN U
theorem gN.warm {s U : State} (hW : s.WarmedH U.vm) (h : gN s) : gN U := ⟨va_Nw.warmM hW h.1, va_Nw.warmM hW h.2.1, va_Nw.warmM hW h.2.2⟩
theorem gN.same {s U : State} (hW : s.vm = U.vm) (h : gN s) : gN U := ⟨va_Nw.same rfl hW h.1, va_Nw.same rfl hW h.2.1, va_Nw.same rfl hW h.2.2⟩
theorem gK.warm {D : va_G} {tys : List (ClassId × FieldType)} {s U : State} (hW : s.WarmedH U.vm) (h : gK D tys s) : gK D tys U := ⟨va_K.moved hW.alike h.1, h.2.warm hW⟩
theorem gK.same {D : va_G} {tys : List (ClassId × FieldType)} {s U : State} (hW : s.vm = U.vm) (h : gK D tys s) : gK D tys U := ⟨va_K.moved (by rw [hW]; exact Vm.Alike.refl U.vm) h.1, h.2.same hW⟩
/-- a reading method's start: its arguments, the tables, its world -/
def rP (D : va_G) (tys : List (ClassId × FieldType)) (ws : va_W) (av : List Value) : Array Value → State → Prop := fun v U => v = av.toArray ∧ gK D tys U ∧ va_P D vwCl ws U.heap
/-- its end: the answer; nothing is written -/
def rQ (v : Value) : Array Value → State → Outcome → State → Prop := fun _ st o t => o = .returned (some v) ∧ t.heap = st.heap
theorem rP_blind (D : va_G) (tys : List (ClassId × FieldType)) (ws : va_W) (av : List Value) : FrameBlind (rP D tys ws av) := fun _ _ _ _ h => ⟨h.1, h.2.1.same rfl, h.2.2⟩
/-- an updating method's start -/
def uP (D : va_G) (tys : List (ClassId × FieldType)) (ws : va_W) (av : List Value) : Array Value → State → Prop := fun v U => v = av.toArray ∧ gK D tys U ∧ va_P D vwCl ws U.heap ∧ va_D (fun _ => True) ws
/-- the addresses of a world -/
def uA (ws : va_W) : Nat → Prop := fun q => q ∈ ws.map (fun x => x.1)
/-- its end: the answer; its own cells hold the new world, all others are as they were -/
def uQ (D : va_G) (v : Option Value) (A : Nat → Prop) (ws' : va_W) : Array Value → State → Outcome → State → Prop := fun _ st o t => o = .returned v ∧ va_P D vwCl ws' t.heap ∧ va_F A st t
theorem uP_blind (D : va_G) (tys : List (ClassId × FieldType)) (ws : va_W) (av : List Value) : FrameBlind (uP D tys ws av) := fun _ _ _ _ h => ⟨h.1, h.2.1.same rfl, h.2.2⟩
/-- some places of a world set anew -/
def va_puts : va_W → List Nat → va_W → va_W
  | ws, i :: is, q :: qs => va_puts (ws.set i q) is qs
  | ws, _, _ => ws
theorem va_puts_get (ws : va_W) (is : List Nat) (qs : va_W) (k : Nat) (q : Nat × va_E) (h : (va_puts ws is qs)[k]? = some q) : (k ∉ is ∧ ws[k]? = some q) ∨ (∃ j : Nat, is[j]? = some k ∧ qs[j]? = some q) ∨ (ws[k]? = some q ∧ ∃ j : Nat, is[j]? = some k ∧ qs.length ≤ j) := by
  induction is generalizing ws qs with
  | nil => cases qs <;> exact Or.inl ⟨List.not_mem_nil, h⟩
  | cons i is ih =>
    cases qs with
    | nil =>
      by_cases hk : k ∈ i :: is
      · obtain ⟨j, hj⟩ := List.getElem?_of_mem hk
        exact Or.inr (Or.inr ⟨h, j, hj, Nat.zero_le _⟩)
      · exact Or.inl ⟨hk, h⟩
    | cons q0 qs =>
      rcases ih (ws.set i q0) qs h with ⟨h1, h2⟩ | ⟨j, h1, h2⟩ | ⟨h1, j, h2, h3⟩
      · by_cases hik : i = k
        · subst hik
          rw [List.getElem?_set] at h2
          simp only [if_true] at h2
          split at h2
          · exact Or.inr (Or.inl ⟨0, rfl, h2⟩)
          · cases h2
        · rw [List.getElem?_set, if_neg hik] at h2
          exact Or.inl ⟨fun hm => (List.mem_cons.mp hm).elim (fun e => hik e.symm) h1, h2⟩
      · exact Or.inr (Or.inl ⟨j + 1, h1, h2⟩)
      · by_cases hik : i = k
        · subst hik
          rw [List.getElem?_set] at h1
          simp only [if_true] at h1
          split at h1
          · exact Or.inr (Or.inl ⟨0, rfl, h1⟩)
          · cases h1
        · rw [List.getElem?_set, if_neg hik] at h1
          exact Or.inr (Or.inr ⟨h1, j + 1, h2, Nat.succ_le_succ h3⟩)
theorem va_D.alike {A : Nat → Prop} {ws ws' : va_W} (h : va_D A ws) (e : ws'.map (fun x => x.1) = ws.map (fun x => x.1)) : va_D A ws' := by
  have key : ∀ (k : Nat) (q : Nat × va_E), ws'[k]? = some q → ∃ q', ws[k]? = some q' ∧ q'.1 = q.1 := by
    intro k q hk
    have h1 : (ws'.map (fun x => x.1))[k]? = some q.1 := by rw [List.getElem?_map, hk]; rfl
    rw [e, List.getElem?_map] at h1
    cases hq : ws[k]? with
    | none => rw [hq] at h1; cases h1
    | some q' => rw [hq] at h1; exact ⟨q', rfl, Option.some.inj h1⟩
  refine ⟨fun i j p q hi hj hpq => ?_, fun k q hk => ?_⟩
  · obtain ⟨p', h1, h2⟩ := key i p hi
    obtain ⟨q', h3, h4⟩ := key j q hj
    exact h.1 i j p' q' h1 h3 (by rw [h2, h4, hpq])
  · obtain ⟨q', h1, h2⟩ := key k q hk
    rw [← h2]
    exact h.2 k q' h1
/-- behind an update of some cells: the whole world -/
theorem va_P.puts {A : Nat → Prop} {D : va_G} {cl : List vw_C} {ws wc wc' : va_W} {H H1 : Heap} (hP : va_P D cl ws H) (hD : va_D A ws) (is : List Nat) (hwc : is.map (fun i => ws[i]?) = wc.map some) (hl : wc'.length = is.length)
    (hk : ∀ q : Nat, q < H.size → ¬ uA wc q → H1[q]? = H[q]?) (hP1 : va_P D cl wc' H1) : va_P D cl (va_puts ws is wc') H1 := by
  intro k q hq
  rcases va_puts_get ws is wc' k q hq with ⟨h1, h2⟩ | ⟨j, h1, h2⟩ | ⟨-, j, h2, h3⟩
  · have hlt := (hP k q h2).lt
    refine (hP k q h2).kept (hk q.1 hlt fun hm => ?_)
    obtain ⟨x, hx, hxq⟩ := List.mem_map.mp hm
    obtain ⟨i, hi⟩ := List.getElem?_of_mem hx
    have h3 : (is.map (fun i => ws[i]?))[i]? = some (some x) := by rw [hwc, List.getElem?_map, hi]; rfl
    rw [List.getElem?_map] at h3
    cases hii : is[i]? with
    | none => rw [hii] at h3; cases h3
    | some i' =>
      rw [hii] at h3
      have h4 : ws[i']? = some x := Option.some.inj h3
      have := hD.1 i' k x q h4 h2 hxq
      subst this
      exact h1 (List.mem_of_getElem? hii)
  · exact hP1 j q h2
  · rw [hl] at h3
    have := (List.getElem?_eq_some_iff.mp h2).1
    omega
theorem uA.of {A : Nat → Prop} {ws wc : va_W} (hD : va_D A ws) (is : List Nat) (hwc : is.map (fun i => ws[i]?) = wc.map some) : ∀ q, uA wc q → A q := by
  intro q hm
  obtain ⟨x, hx, hxq⟩ := List.mem_map.mp hm
  obtain ⟨i, hi⟩ := List.getElem?_of_mem hx
  have h3 : (is.map (fun i => ws[i]?))[i]? = some (some x) := by rw [hwc, List.getElem?_map, hi]; rfl
  rw [List.getElem?_map] at h3
  cases hii : is[i]? with
  | none => rw [hii] at h3; cases h3
  | some i' =>
    rw [hii] at h3
    rw [← hxq]
    exact hD.2 i' x (Option.some.inj h3)
theorem va_D.own {A : Nat → Prop} {ws : va_W} (h : va_D A ws) : va_D (uA ws) ws := ⟨h.1, fun k q hk => List.mem_map.mpr ⟨q, List.mem_of_getElem? hk, rfl⟩⟩
theorem pick_map {ws wc : va_W} {is : List Nat} (h : is.map (fun i => ws[i]?) = wc.map some) : is.filterMap (fun i => ws[i]?) = wc := by
  induction is generalizing wc with
  | nil =>
    cases wc with
    | nil => rfl
    | cons a b => cases h
  | cons i is ih =>
    cases wc with
    | nil => cases h
    | cons a b =>
      simp only [List.map_cons, List.cons.injEq] at h
      rw [List.filterMap_cons, h.1]
      exact congrArg (List.cons a) (ih h.2)
/-- pure programs that may have no answer -/
theorem gd_at {α : Type} {c : Prop} {d : Decidable c} {x : Option α} {y : α} (h : @ite _ c d x none = some y) : c ∧ x = some y := by
  by_cases hc : c
  · rw [if_pos hc] at h
    exact ⟨hc, h⟩
  · rw [if_neg hc] at h
    cases h
theorem ite_t {α : Type} {c : Prop} {d : Decidable c} {x z y : α} (hc : c) (h : @ite _ c d x z = y) : x = y := by
  rw [if_pos hc] at h
  exact h
theorem ite_f {α : Type} {c : Prop} {d : Decidable c} {x z y : α} (hc : ¬ c) (h : @ite _ c d x z = y) : z = y := by
  rw [if_neg hc] at h
  exact h
def bd0 {γ : Type} (x : Option Unit) (f : Unit → Option γ) : Option γ := match x with | some _ => f () | none => none
def bd1 {α γ : Type} (x : Option α) (f : α → Option γ) : Option γ := match x with | some a => f a | none => none
def bd2 {α β γ : Type} (x : Option (α × β)) (f : α → β → Option γ) : Option γ := match x with | some (a, b) => f a b | none => none
def bd3 {α β δ γ : Type} (x : Option (α × β × δ)) (f : α → β → δ → Option γ) : Option γ := match x with | some (a, b, d) => f a b d | none => none
def bd4 {α β δ ε γ : Type} (x : Option (α × β × δ × ε)) (f : α → β → δ → ε → Option γ) : Option γ := match x with | some (a, b, d, e) => f a b d e | none => none
def bd5 {α β δ ε ζ γ : Type} (x : Option (α × β × δ × ε × ζ)) (f : α → β → δ → ε → ζ → Option γ) : Option γ := match x with | some (a, b, d, e, z) => f a b d e z | none => none
def bd6 {α β δ ε ζ η γ : Type} (x : Option (α × β × δ × ε × ζ × η)) (f : α → β → δ → ε → ζ → η → Option γ) : Option γ := match x with | some (a, b, d, e, z, i) => f a b d e z i | none => none
def bd7 {α β δ ε ζ η θ γ : Type} (x : Option (α × β × δ × ε × ζ × η × θ)) (f : α → β → δ → ε → ζ → η → θ → Option γ) : Option γ := match x with | some (a, b, d, e, z, i, j) => f a b d e z i j | none => none
def bd8 {α β δ ε ζ η θ κ γ : Type} (x : Option (α × β × δ × ε × ζ × η × θ × κ)) (f : α → β → δ → ε → ζ → η → θ → κ → Option γ) : Option γ := match x with | some (a, b, d, e, z, i, j, k) => f a b d e z i j k | none => none
theorem bd1_at {α γ : Type} {x : Option α} {f : α → Option γ} {y : γ} (h : bd1 x f = some y) : ∃ a, x = some a ∧ f a = some y := by
  cases x with
  | none => cases h
  | some a => exact ⟨a, rfl, h⟩
theorem bd2_at {α β γ : Type} {x : Option (α × β)} {f : α → β → Option γ} {y : γ} (h : bd2 x f = some y) : ∃ a b, x = some (a, b) ∧ f a b = some y := by
  cases x with
  | none => cases h
  | some a => exact ⟨a.1, a.2, rfl, h⟩
theorem bd3_at {α β δ γ : Type} {x : Option (α × β × δ)} {f : α → β → δ → Option γ} {y : γ} (h : bd3 x f = some y) : ∃ a b d, x = some (a, b, d) ∧ f a b d = some y := by
  cases x with
  | none => cases h
  | some a => exact ⟨a.1, a.2.1, a.2.2, rfl, h⟩
theorem bd4_at {α β δ ε γ : Type} {x : Option (α × β × δ × ε)} {f : α → β → δ → ε → Option γ} {y : γ} (h : bd4 x f = some y) : ∃ a b d e, x = some (a, b, d, e) ∧ f a b d e = some y := by
  cases x with
  | none => cases h
  | some a => exact ⟨a.1, a.2.1, a.2.2.1, a.2.2.2, rfl, h⟩
theorem bd5_at {α β δ ε ζ γ : Type} {x : Option (α × β × δ × ε × ζ)} {f : α → β → δ → ε → ζ → Option γ} {y : γ} (h : bd5 x f = some y) : ∃ a b d e z, x = some (a, b, d, e, z) ∧ f a b d e z = some y := by
  cases x with
  | none => cases h
  | some a => exact ⟨a.1, a.2.1, a.2.2.1, a.2.2.2.1, a.2.2.2.2, rfl, h⟩
theorem bd6_at {α β δ ε ζ η γ : Type} {x : Option (α × β × δ × ε × ζ × η)} {f : α → β → δ → ε → ζ → η → Option γ} {y : γ} (h : bd6 x f = some y) : ∃ a b d e z i, x = some (a, b, d, e, z, i) ∧ f a b d e z i = some y := by
  cases x with
  | none => cases h
  | some a => exact ⟨a.1, a.2.1, a.2.2.1, a.2.2.2.1, a.2.2.2.2.1, a.2.2.2.2.2, rfl, h⟩
theorem bd7_at {α β δ ε ζ η θ γ : Type} {x : Option (α × β × δ × ε × ζ × η × θ)} {f : α → β → δ → ε → ζ → η → θ → Option γ} {y : γ} (h : bd7 x f = some y) : ∃ a b d e z i j, x = some (a, b, d, e, z, i, j) ∧ f a b d e z i j = some y := by
  cases x with
  | none => cases h
  | some a => exact ⟨a.1, a.2.1, a.2.2.1, a.2.2.2.1, a.2.2.2.2.1, a.2.2.2.2.2.1, a.2.2.2.2.2.2, rfl, h⟩
theorem bd8_at {α β δ ε ζ η θ κ γ : Type} {x : Option (α × β × δ × ε × ζ × η × θ × κ)} {f : α → β → δ → ε → ζ → η → θ → κ → Option γ} {y : γ} (h : bd8 x f = some y) : ∃ a b d e z i j k, x = some (a, b, d, e, z, i, j, k) ∧ f a b d e z i j k = some y := by
  cases x with
  | none => cases h
  | some a => exact ⟨a.1, a.2.1, a.2.2.1, a.2.2.2.1, a.2.2.2.2.1, a.2.2.2.2.2.1, a.2.2.2.2.2.2.1, a.2.2.2.2.2.2.2, rfl, h⟩
def lt_ {α β : Type} (a : α) (f : α → β) : β := f a
theorem lt_at {α β : Type} {a b : α} {f : α → β} {y : β} (e : b = a) (h : lt_ a f = y) : f b = y := by
  subst e
  exact h
/-- how often a loop may turn: far above what any needs -/
abbrev fu : Nat := 4000
theorem ne_ti {x k : Int32} {n : Int} (h : ¬ x = k) (hk : k.toInt = n) : x.toInt ≠ n := fun q => h (Int32.toInt_inj.mp (by rw [hk]; exact q))
/-- a row's place, decidably -/
abbrev inb (i : Int32) (n : Nat) : Prop := ¬ (i < 0 ∨ n ≤ i.toNatClampNeg)
theorem inb_lit {i : Int32} {n : Nat} (h : inb i n) : vp_in i n := h
theorem inb_path {i N : Int32} {n : Nat} (hN : N.toInt = (n : Int)) (h0 : ¬ i < 0) (h1 : ¬ N ≤ i) : vp_in i n := by
  rw [vp_in_iff]
  simp only [Int32.lt_iff_toInt_lt, Int32.le_iff_toInt_le] at h0 h1
  have h2 : (0 : Int32).toInt = 0 := rfl
  omega
/-- 0 or 1: what a boolean is -/
abbrev isZ (v : Int32) : Prop := v = 0 ∨ v = 1
theorem isZ_nar {v : Int32} (h : isZ v) : narrow .boolean (.int v) = .int v := by
  rcases h with rfl | rfl <;> rfl
section MyRows
variable {p : Program} {l : Launch} {e : Env} {R : Room} {s : State} {m : MethodId} {args : Array Value} {below : List Frame} {meth : Method} {c : Code} {H : Heap} {locs : List Loc} {cells slots : Nat} {Q : State → Prop}
variable {cc : ByteArray} {pc : Nat} {ls : Array Slot} {rest st : List Value} {D : va_G} {A : Nat → Prop} {tys : List (ClassId × FieldType)} {ws wc wc' : va_W}
variable {y : MethodName} {bytes : ByteArray} {maxL nL n index : Nat} {ret : Option FieldType} {wy : List Cond} {rm : Room} {Ts : List Cond} {own C : String} {b : Addr} {As : List Value} {v : Value}
/-- a reading call, by what its run says -/
theorem rcall {a : Array Value} {st0 : List Value} (hr : va_Run p l e R s m args below meth c H locs cells slots 0 0 (F0 m pc ls st0) rest (rQ v a) (fun _ => False))
    (kk : W p l e R s m args below meth c H locs cells slots Q (F0 m (pc + 3) ls (v :: rest))) : W p l e R s m args below meth c H locs cells slots Q (F0 m pc ls st0) := by
  intro T hT X
  obtain ⟨v', st₀, t, T', L, h0, X', hL, e1, e2, ⟨hv, hh⟩, st⟩ := hr T hT X
  cases hv
  obtain ⟨t2, a1, b1⟩ := kk T' (by rw [e1, hh, h0]) (Stand.forget X' (fun q h => (hL q h).elim))
  exact ⟨t2, st t2 a1, b1⟩
/-- an updating call, by what its run says -/
theorem ucall {a : Array Value} {st0 : List Value} {v : Option Value} {H0 : Heap} (hr : va_Run p l e R s m args below meth c H locs cells slots 0 0 (F0 m pc ls st0) rest (uQ D v (uA wc) wc' a) (uA wc)) (hS : va_S A H0 H locs) (hP : va_P D vwCl ws H) (hD : va_D A ws) (is : List Nat) (hwc : is.map (fun i => ws[i]?) = wc.map some) (hl : wc'.length = is.length) {ws' : va_W} (hws : va_puts ws is wc' = ws') (hwd : ws'.map (fun x => x.1) = ws.map (fun x => x.1))
    (kk : ∀ (H1 : Heap) (locs1 : List Loc), va_P D vwCl ws' H1 → va_D A ws' → va_S A H0 H1 locs1 → W p l e R s m args below meth c H1 locs1 cells slots Q (F0 m (pc + 3) ls (v.toList ++ rest))) : W p l e R s m args below meth c H locs cells slots Q (F0 m pc ls st0) := by
  intro T hT X
  obtain ⟨v', st₀, t, T', L, h0, X', hL, e1, e2, ⟨hv, hP1, hz, hk⟩, st⟩ := hr T hT X
  cases hv
  rw [h0] at hz hk
  have hA := uA.of hD is hwc
  subst hws
  obtain ⟨t2, a1, b1⟩ := kk t.heap (locs ++ L) (hP.puts hD is hwc hl hk hP1) (hD.alike hwd)
    ⟨Nat.le_trans hS.1 hz, fun q h1 h2 => by rw [hk q (Nat.lt_of_lt_of_le h1 hS.1) (fun z => h2 (hA q z))]; exact hS.2.1 q h1 h2, fun q hq => by
      rcases List.mem_append.mp hq with h | h
      · exact hS.2.2 q h
      · exact hA _ (hL q h)⟩ T' e1 X'
  exact ⟨t2, st t2 a1, b1⟩
theorem rPreV (hK : gK D tys s) (hP : va_P D vwCl wc H) {ci : Nat} {fs : List Value} {q : vw_C} (h0 : wc[0]? = some (b, .inr (ci, fs))) (hc : vwCl[ci]? = some q) : PreV s H q.1 b (rP D tys wc (.ref b :: As)) As :=
  ⟨rP_blind D tys wc _, va_recv hK.1 hP hc h0, fun U hU hW => ⟨rfl, hK.warm hW, by rw [hU]; exact hP⟩⟩
theorem rPreS (hK : gK D tys s) (hP : va_P D vwCl wc H) : PreS s H (rP D tys wc As) As :=
  ⟨rP_blind D tys wc _, fun U hU hW => ⟨rfl, hK.warm hW, by rw [hU]; exact hP⟩⟩
theorem uPreV (hK : gK D tys s) (hP : va_P D vwCl wc H) (hD : va_D A wc) {ci : Nat} {fs : List Value} {q : vw_C} (h0 : wc[0]? = some (b, .inr (ci, fs))) (hc : vwCl[ci]? = some q) : PreV s H q.1 b (uP D tys wc (.ref b :: As)) As :=
  ⟨uP_blind D tys wc _, va_recv hK.1 hP hc h0, fun U hU hW => ⟨rfl, hK.warm hW, by rw [hU]; exact hP, hD.weaken (fun _ _ _ _ => trivial)⟩⟩
theorem uPreS (hK : gK D tys s) (hP : va_P D vwCl wc H) (hD : va_D A wc) : PreS s H (uP D tys wc As) As :=
  ⟨uP_blind D tys wc _, fun U hU hW => ⟨rfl, hK.warm hW, by rw [hU]; exact hP, hD.weaken (fun _ _ _ _ => trivial)⟩⟩
/-- the same, by what is left on the stack -/
theorem ucalli {a : Array Value} {st0 : List Value} {x : Int32} {H0 : Heap} {ws' : va_W} (hr : va_Run p l e R s m args below meth c H locs cells slots 0 0 (F0 m pc ls st0) rest (uQ D (some (.int x)) (uA wc) wc' a) (uA wc)) (hS : va_S A H0 H locs) (hP : va_P D vwCl ws H) (hD : va_D A ws) (is : List Nat) (hwc : is.map (fun i => ws[i]?) = wc.map some) (hl : wc'.length = is.length) (hws : va_puts ws is wc' = ws') (hwd : ws'.map (fun x => x.1) = ws.map (fun x => x.1))
    (kk : ∀ (H1 : Heap) (locs1 : List Loc), va_P D vwCl ws' H1 → va_D A ws' → va_S A H0 H1 locs1 → W p l e R s m args below meth c H1 locs1 cells slots Q (F0 m (pc + 3) ls (.int x :: rest))) : W p l e R s m args below meth c H locs cells slots Q (F0 m pc ls st0) := ucall hr hS hP hD is hwc hl hws hwd kk
theorem ucallv {a : Array Value} {st0 : List Value} {H0 : Heap} {ws' : va_W} (hr : va_Run p l e R s m args below meth c H locs cells slots 0 0 (F0 m pc ls st0) rest (uQ D none (uA wc) wc' a) (uA wc)) (hS : va_S A H0 H locs) (hP : va_P D vwCl ws H) (hD : va_D A ws) (is : List Nat) (hwc : is.map (fun i => ws[i]?) = wc.map some) (hl : wc'.length = is.length) (hws : va_puts ws is wc' = ws') (hwd : ws'.map (fun x => x.1) = ws.map (fun x => x.1))
    (kk : ∀ (H1 : Heap) (locs1 : List Loc), va_P D vwCl ws' H1 → va_D A ws' → va_S A H0 H1 locs1 → W p l e R s m args below meth c H1 locs1 cells slots Q (F0 m (pc + 3) ls rest)) : W p l e R s m args below meth c H locs cells slots Q (F0 m pc ls st0) := ucall hr hS hP hD is hwc hl hws hwd kk
/-- the ends of a reading method -/
theorem rret {x r : Int32} (hF : some x = some r) (hx : p.tables.exec = Jvm.exec) (hb : c.code = cc) (hr : meth.sig.returnType = some .int) (hlocks : meth.locks = false) (hdg : decode cc pc = .ok (.ireturn, 1)) :
    W p l e R s m args below meth c s.heap [] cells slots (MQ below (rQ (.int r)) args s cells slots (fun _ => False)) (F0 m pc ls [.int x]) := by
  obtain rfl := Option.some.inj hF
  exact W.iret hx hb hr (fun t ht hW => ⟨rfl, ht⟩) (fun q hq => absurd hq List.not_mem_nil) hdg hlocks
theorem rretz {x r : Int32} (hz : isZ x) (hF : some x = some r) (hx : p.tables.exec = Jvm.exec) (hb : c.code = cc) (hr : meth.sig.returnType = some .boolean) (hlocks : meth.locks = false) (hdg : decode cc pc = .ok (.ireturn, 1)) :
    W p l e R s m args below meth c s.heap [] cells slots (MQ below (rQ (.int r)) args s cells slots (fun _ => False)) (F0 m pc ls [.int x]) := by
  obtain rfl := Option.some.inj hF
  exact W.zret hx hb hr (isZ_nar hz) (fun t ht hW => ⟨rfl, ht⟩) (fun q hq => absurd hq List.not_mem_nil) hdg hlocks
theorem rretd {x r : UInt64} (hF : some x = some r) (hx : p.tables.exec = Jvm.exec) (hb : c.code = cc) (hr : meth.sig.returnType = some .double) (hlocks : meth.locks = false) (hdg : decode cc pc = .ok (.dreturn, 1)) :
    W p l e R s m args below meth c s.heap [] cells slots (MQ below (rQ (.double r)) args s cells slots (fun _ => False)) (F0 m pc ls [.double x]) := by
  obtain rfl := Option.some.inj hF
  exact W.dret hx hb hr (fun t ht hW => ⟨rfl, ht⟩) (fun q hq => absurd hq List.not_mem_nil) hdg hlocks
/-- the ends of an updating method: its world at the end is the one that its program answers -/
theorem ureti {x : Int32} {A0 : Nat → Prop} {ws' : va_W} (hx : p.tables.exec = Jvm.exec) (hb : c.code = cc) (hr : meth.sig.returnType = some .int) (hlocks : meth.locks = false) (hP : va_P D vwCl ws' H) (hS : va_S A0 s.heap H locs) (hdg : decode cc pc = .ok (.ireturn, 1)) :
    W p l e R s m args below meth c H locs cells slots (MQ below (uQ D (some (.int x)) A0 ws') args s cells slots A0) (F0 m pc ls [.int x]) :=
  W.iret hx hb hr (fun t ht hW => ⟨rfl, by rw [ht]; exact hP, hS.F ht⟩) hS.2.2 hdg hlocks
theorem uretz {x : Int32} {A0 : Nat → Prop} {ws' : va_W} (hz : isZ x) (hx : p.tables.exec = Jvm.exec) (hb : c.code = cc) (hr : meth.sig.returnType = some .boolean) (hlocks : meth.locks = false) (hP : va_P D vwCl ws' H) (hS : va_S A0 s.heap H locs) (hdg : decode cc pc = .ok (.ireturn, 1)) :
    W p l e R s m args below meth c H locs cells slots (MQ below (uQ D (some (.int x)) A0 ws') args s cells slots A0) (F0 m pc ls [.int x]) :=
  W.zret hx hb hr (isZ_nar hz) (fun t ht hW => ⟨rfl, by rw [ht]; exact hP, hS.F ht⟩) hS.2.2 hdg hlocks
theorem uretd {x : UInt64} {A0 : Nat → Prop} {ws' : va_W} (hx : p.tables.exec = Jvm.exec) (hb : c.code = cc) (hr : meth.sig.returnType = some .double) (hlocks : meth.locks = false) (hP : va_P D vwCl ws' H) (hS : va_S A0 s.heap H locs) (hdg : decode cc pc = .ok (.dreturn, 1)) :
    W p l e R s m args below meth c H locs cells slots (MQ below (uQ D (some (.double x)) A0 ws') args s cells slots A0) (F0 m pc ls [.double x]) :=
  W.dret hx hb hr (fun t ht hW => ⟨rfl, by rw [ht]; exact hP, hS.F ht⟩) hS.2.2 hdg hlocks
theorem uretv {A0 : Nat → Prop} {ws' : va_W} (hx : p.tables.exec = Jvm.exec) (hb : c.code = cc) (hr : meth.sig.returnType = none) (hlocks : meth.locks = false) (hP : va_P D vwCl ws' H) (hS : va_S A0 s.heap H locs) (hdg : decode cc pc = .ok (.return_, 1)) :
    W p l e R s m args below meth c H locs cells slots (MQ below (uQ D none A0 ws') args s cells slots A0) (F0 m pc ls []) :=
  W.vret hx hb hr (fun t ht hW => ⟨rfl, by rw [ht]; exact hP, hS.F ht⟩) hS.2.2 hdg hlocks
end MyRows
/-- a place in the walk of a reading, of an updating method -/
abbrev rW (p : Program) (l : Launch) (e : Env) (ws : List Cond) (rm : Room) (s : State) (m : MethodId) (args : Array Value) (below : List Frame) (meth : Method) (c : Code) (v : Value) (g : JFrame) : Prop :=
  W p l e (headSpec ws rm).room s m args below meth c s.heap [] 0 0 (MQ below (rQ v) args s 0 0 (fun _ => False)) g
abbrev uW (p : Program) (l : Launch) (e : Env) (ws : List Cond) (rm : Room) (s : State) (m : MethodId) (args : Array Value) (below : List Frame) (meth : Method) (c : Code) (D : va_G) (v : Option Value) (A0 : Nat → Prop) (ws' : va_W) (H : Heap) (locs : List Loc) (g : JFrame) : Prop :=
  W p l e (headSpec ws rm).room s m args below meth c H locs 0 0 (MQ below (uQ D v A0 ws') args s 0 0 A0) g
theorem ofFn_same {α : Type} {n : Nat} {f g : Nat → α} (h : ∀ j, j < n → f j = g j) : (Array.ofFn (n := n) fun j => f j.val) = Array.ofFn (n := n) fun j => g j.val :=
  congrArg Array.ofFn (funext fun j => h j.val j.isLt)
theorem cell_same {cA : ClassId} {n : Nat} {f g : Nat → Int32} (h : ∀ j, j < n → f j = g j) : vp_cell cA (n, .inl f) = vp_cell cA (n, .inl g) := by
  show arrV cA n (fun j => .int (f j)) = arrV cA n (fun j => .int (g j))
  unfold arrV
  rw [ofFn_same (n := n) (f := fun j => Value.int (f j)) (g := fun j => Value.int (g j)) (fun j hj => by rw [h j hj])]
theorem cell_sameq {cA : ClassId} {n : Nat} {f g : Nat → Option Nat} (h : ∀ j, j < n → f j = g j) : vp_cell cA (n, .inr (.inr (.inr (.inr f)))) = vp_cell cA (n, .inr (.inr (.inr (.inr g)))) := by
  show arrV cA n (fun j => va_rf (f j)) = arrV cA n (fun j => va_rf (g j))
  unfold arrV
  rw [ofFn_same (n := n) (f := fun j => va_rf (f j)) (g := fun j => va_rf (g j)) (fun j hj => by rw [h j hj])]
/-- a row of ints told anew: what stands below its length is the same -/
theorem va_P.re {D : va_G} {cl : List vw_C} {ws : va_W} {H : Heap} (hP : va_P D cl ws H) (q0 : Nat) {a n : Nat} {cA : ClassId} {f g : Nat → Int32} (he : ws[q0]? = some (a, .inl (cA, n, .inl f))) (h : ∀ j, j < n → f j = g j) {ws' : va_W} (hw : ws.set q0 (a, .inl (cA, n, .inl g)) = ws') : va_P D cl ws' H := by
  subst hw
  intro k q hk
  by_cases hkq : q0 = k
  · subst hkq
    have h1 := hP q0 _ he
    have hlt : q0 < ws.length := (List.getElem?_eq_some_iff.mp he).1
    rw [List.getElem?_set_self hlt] at hk
    obtain rfl := Option.some.inj hk
    show H[a]? = some (vp_cell cA (n, .inl g))
    rw [← cell_same h]
    exact h1
  · rw [List.getElem?_set_ne hkq] at hk
    exact hP k q hk
theorem va_P.req {D : va_G} {cl : List vw_C} {ws : va_W} {H : Heap} (hP : va_P D cl ws H) (q0 : Nat) {a n : Nat} {cA : ClassId} {f g : Nat → Option Nat} (he : ws[q0]? = some (a, .inl (cA, n, .inr (.inr (.inr (.inr f)))))) (h : ∀ j, j < n → f j = g j) {ws' : va_W} (hw : ws.set q0 (a, .inl (cA, n, .inr (.inr (.inr (.inr g))))) = ws') : va_P D cl ws' H := by
  subst hw
  intro k q hk
  by_cases hkq : q0 = k
  · subst hkq
    have h1 := hP q0 _ he
    have hlt : q0 < ws.length := (List.getElem?_eq_some_iff.mp he).1
    rw [List.getElem?_set_self hlt] at hk
    obtain rfl := Option.some.inj hk
    show H[a]? = some (vp_cell cA (n, .inr (.inr (.inr (.inr g)))))
    rw [← cell_sameq h]
    exact h1
  · rw [List.getElem?_set_ne hkq] at hk
    exact hP k q hk
theorem Met.weaken {l : Launch} {y : MethodName} {ws : List Cond} {rm : Room} {Pc Pc' : Array Value → State → Prop} {Qc Qc' : Array Value → State → Outcome → State → Prop} {mc ms : Nat} {free : Addr → Prop} (h : Met l y ws rm Pc Qc mc ms free) (hP : ∀ a s, Pc' a s → Pc a s) (hQ : ∀ a s o t, Qc a s o t → Qc' a s o t) : Met l y ws rm Pc' Qc' mc ms free := by
  intro p e ha hc hk s m args below hf happ hpre hfit
  obtain ⟨n, o, h1, h2, h3, h4, h5⟩ := h p e ha hc hk s m args below hf happ (hP _ _ hpre) hfit
  exact ⟨n, o, h1, h2, h3, hQ _ _ _ _ h4, h5⟩
abbrev W0 (cI : ClassId) (aB aF aZ aK aM : Nat) (bh : Int32) (bF : Nat → Int32) (bZ : Nat → Int32) (bK : Nat → Int32) (bM : Nat → Int32) : va_W := [(aB, .inr (0, [.ref aF, .ref aZ, .ref aK, .ref aM, .int bh])), (aF, .inl (cI, 6, .inl bF)), (aZ, .inl (cI, 6, .inl bZ)), (aK, .inl (cI, 240, .inl bK)), (aM, .inl (cI, 240, .inl bM))]
abbrev W2 (cI : ClassId) (aL aW : Nat) (wm : Int32) (wW : Nat → Int32) : va_W := [(aL, .inr (2, [.ref aW, .int wm])), (aW, .inl (cI, 6, .inl wW))]
abbrev W3 (cI : ClassId) (aO aT : Nat) (ol : Int32) (oS : Nat → Int32) : va_W := [(aO, .inr (3, [.ref aT, .int ol])), (aT, .inl (cI, 60, .inl oS))]
abbrev W4 (cI : ClassId) (aS aL aW aB aF aZ aK aM : Nat) (sr : Int32) (wm : Int32) (wW : Nat → Int32) (bh : Int32) (bF : Nat → Int32) (bZ : Nat → Int32) (bK : Nat → Int32) (bM : Nat → Int32) : va_W := [(aS, .inr (4, [.ref aL, .ref aB, .int sr])), (aL, .inr (2, [.ref aW, .int wm])), (aW, .inl (cI, 6, .inl wW)), (aB, .inr (0, [.ref aF, .ref aZ, .ref aK, .ref aM, .int bh])), (aF, .inl (cI, 6, .inl bF)), (aZ, .inl (cI, 6, .inl bZ)), (aK, .inl (cI, 240, .inl bK)), (aM, .inl (cI, 240, .inl bM))]
abbrev W6 (cI : ClassId) (aX aN aP aJ aI aT aD : Nat) (ms : Int32) (ml : Int32) (mt : Int32) (mq : Int32) (mu : Int32) (mN : Nat → Int32) (mP : Nat → Int32) (mK : Nat → Int32) (mI : Nat → Int32) (mT : Nat → Int32) (mD : Nat → Int32) : va_W := [(aX, .inr (6, [.ref aN, .ref aP, .int ms, .ref aJ, .ref aI, .ref aT, .int ml, .int mt, .int mq, .ref aD, .int mu])), (aN, .inl (cI, 501, .inl mN)), (aP, .inl (cI, 3006, .inl mP)), (aJ, .inl (cI, 1002, .inl mK)), (aI, .inl (cI, 2, .inl mI)), (aT, .inl (cI, 60, .inl mT)), (aD, .inl (cI, 24, .inl mD))]
abbrev W22 (cI : ClassId) (aL aW aLo aWo : Nat) (wm : Int32) (wW : Nat → Int32) (wmo : Int32) (wWo : Nat → Int32) : va_W := [(aL, .inr (2, [.ref aW, .int wm])), (aW, .inl (cI, 6, .inl wW)), (aLo, .inr (2, [.ref aWo, .int wmo])), (aWo, .inl (cI, 6, .inl wWo))]
abbrev W00 (cI : ClassId) (aB aF aZ aK aM aBo aFo aZo aKo aMo : Nat) (bh : Int32) (bF : Nat → Int32) (bZ : Nat → Int32) (bK : Nat → Int32) (bM : Nat → Int32) (bho : Int32) (bFo : Nat → Int32) (bZo : Nat → Int32) (bKo : Nat → Int32) (bMo : Nat → Int32) : va_W := [(aB, .inr (0, [.ref aF, .ref aZ, .ref aK, .ref aM, .int bh])), (aF, .inl (cI, 6, .inl bF)), (aZ, .inl (cI, 6, .inl bZ)), (aK, .inl (cI, 240, .inl bK)), (aM, .inl (cI, 240, .inl bM)), (aBo, .inr (0, [.ref aFo, .ref aZo, .ref aKo, .ref aMo, .int bho])), (aFo, .inl (cI, 6, .inl bFo)), (aZo, .inl (cI, 6, .inl bZo)), (aKo, .inl (cI, 240, .inl bKo)), (aMo, .inl (cI, 240, .inl bMo))]
abbrev W44 (cI : ClassId) (aS aL aW aB aF aZ aK aM aSo aLo aWo aBo aFo aZo aKo aMo : Nat) (sr : Int32) (wm : Int32) (wW : Nat → Int32) (bh : Int32) (bF : Nat → Int32) (bZ : Nat → Int32) (bK : Nat → Int32) (bM : Nat → Int32) (sro : Int32) (wmo : Int32) (wWo : Nat → Int32) (bho : Int32) (bFo : Nat → Int32) (bZo : Nat → Int32) (bKo : Nat → Int32) (bMo : Nat → Int32) : va_W := [(aS, .inr (4, [.ref aL, .ref aB, .int sr])), (aL, .inr (2, [.ref aW, .int wm])), (aW, .inl (cI, 6, .inl wW)), (aB, .inr (0, [.ref aF, .ref aZ, .ref aK, .ref aM, .int bh])), (aF, .inl (cI, 6, .inl bF)), (aZ, .inl (cI, 6, .inl bZ)), (aK, .inl (cI, 240, .inl bK)), (aM, .inl (cI, 240, .inl bM)), (aSo, .inr (4, [.ref aLo, .ref aBo, .int sro])), (aLo, .inr (2, [.ref aWo, .int wmo])), (aWo, .inl (cI, 6, .inl wWo)), (aBo, .inr (0, [.ref aFo, .ref aZo, .ref aKo, .ref aMo, .int bho])), (aFo, .inl (cI, 6, .inl bFo)), (aZo, .inl (cI, 6, .inl bZo)), (aKo, .inl (cI, 240, .inl bKo)), (aMo, .inl (cI, 240, .inl bMo))]
abbrev WC (cI : ClassId) (aG aH nG nH : Nat) (gA : Nat → Int32) (gB : Nat → Int32) : va_W := [(aG, .inl (cI, nG, .inl gA)), (aH, .inl (cI, nH, .inl gB))]
abbrev WY (cI : ClassId) (cZ : ClassId) (aY aR aV aU : Nat) (kd : Int32) (kf : Nat → Int32) : va_W := [(aY, .inr (1, [.ref aV, .ref aU, .ref aR, .int kd])), (aR, .inl (cZ, 2, .inl kf))]
theorem kc_bipush_6 : (Int8.ofInt (6)).toInt32 = (6 : Int32) := by decide
theorem kc_bipush_7 : (Int8.ofInt (7)).toInt32 = (7 : Int32) := by decide
theorem kc_bipush_8 : (Int8.ofInt (8)).toInt32 = (8 : Int32) := by decide
theorem kc_bipush_9 : (Int8.ofInt (9)).toInt32 = (9 : Int32) := by decide
theorem kc_bipush_10 : (Int8.ofInt (10)).toInt32 = (10 : Int32) := by decide
theorem kc_bipush_12 : (Int8.ofInt (12)).toInt32 = (12 : Int32) := by decide
theorem kc_bipush_14 : (Int8.ofInt (14)).toInt32 = (14 : Int32) := by decide
theorem kc_bipush_17 : (Int8.ofInt (17)).toInt32 = (17 : Int32) := by decide
theorem kc_bipush_26 : (Int8.ofInt (26)).toInt32 = (26 : Int32) := by decide
theorem kc_bipush_33 : (Int8.ofInt (33)).toInt32 = (33 : Int32) := by decide
theorem kc_bipush_40 : (Int8.ofInt (40)).toInt32 = (40 : Int32) := by decide
theorem kc_bipush_43 : (Int8.ofInt (43)).toInt32 = (43 : Int32) := by decide
theorem kc_bipush_45 : (Int8.ofInt (45)).toInt32 = (45 : Int32) := by decide
theorem kc_bipush_48 : (Int8.ofInt (48)).toInt32 = (48 : Int32) := by decide
theorem kc_bipush_57 : (Int8.ofInt (57)).toInt32 = (57 : Int32) := by decide
theorem kc_bipush_59 : (Int8.ofInt (59)).toInt32 = (59 : Int32) := by decide
theorem kc_bipush_61 : (Int8.ofInt (61)).toInt32 = (61 : Int32) := by decide
theorem kc_bipush_65 : (Int8.ofInt (65)).toInt32 = (65 : Int32) := by decide
theorem kc_bipush_90 : (Int8.ofInt (90)).toInt32 = (90 : Int32) := by decide
theorem kc_bipush_98 : (Int8.ofInt (98)).toInt32 = (98 : Int32) := by decide
theorem kc_bipush_99 : (Int8.ofInt (99)).toInt32 = (99 : Int32) := by decide
theorem kc_bipush_118 : (Int8.ofInt (118)).toInt32 = (118 : Int32) := by decide
theorem kc_bipush_119 : (Int8.ofInt (119)).toInt32 = (119 : Int32) := by decide
theorem kc_bipush_126 : (Int8.ofInt (126)).toInt32 = (126 : Int32) := by decide
theorem kc_iconst_m1 : Int32.ofInt (-1) = (-1 : Int32) := by decide
theorem kc_iconst_0 : Int32.ofInt (0) = (0 : Int32) := by decide
theorem kc_iconst_1 : Int32.ofInt (1) = (1 : Int32) := by decide
theorem kc_iconst_2 : Int32.ofInt (2) = (2 : Int32) := by decide
theorem kc_iconst_3 : Int32.ofInt (3) = (3 : Int32) := by decide
theorem kc_iconst_4 : Int32.ofInt (4) = (4 : Int32) := by decide
theorem kc_iconst_5 : Int32.ofInt (5) = (5 : Int32) := by decide
theorem kc_sipush_999 : (Int16.ofInt (999)).toInt32 = (999 : Int32) := by decide
