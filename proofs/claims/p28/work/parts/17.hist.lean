/-! ===== my third kit: states as values, the history's cells ===== -/
abbrev SA : Type := Nat × Nat × Nat × Nat × Nat × Nat × Nat × Nat
abbrev SV : Type := Int32 × Int32 × (Nat → Int32) × Int32 × (Nat → Int32) × (Nat → Int32) × (Nat → Int32) × (Nat → Int32)
abbrev B4 (cI : ClassId) (a : SA) (v : SV) : va_W := W4 cI a.1 a.2.1 a.2.2.1 a.2.2.2.1 a.2.2.2.2.1 a.2.2.2.2.2.1 a.2.2.2.2.2.2.1 a.2.2.2.2.2.2.2 v.1 v.2.1 v.2.2.1 v.2.2.2.1 v.2.2.2.2.1 v.2.2.2.2.2.1 v.2.2.2.2.2.2.1 v.2.2.2.2.2.2.2
def hR (A : Nat → SA) : Nat → Option Nat := fun i => some (A i).1
def HBg (cI cZ cS : ClassId) (aY aV aU aR : Nat) (g : Nat → Option Nat) (kd : Int32) (kf : Nat → Int32) (kA : Nat → SA) (kV : Nat → SV) (kQ : Nat → SA) (kP : Nat → SV) : va_W :=
  (aY, .inr (1, [.ref aV, .ref aU, .ref aR, .int kd])) :: (aV, .inl (cS, 6, .inr (.inr (.inr (.inr g))))) :: (aU, .inl (cS, 2, .inr (.inr (.inr (.inr (hR kQ)))))) :: (aR, .inl (cZ, 2, .inl kf)) ::
  (B4 cI (kA 0) (kV 0) ++ (B4 cI (kA 1) (kV 1) ++ (B4 cI (kA 2) (kV 2) ++ (B4 cI (kA 3) (kV 3) ++ (B4 cI (kA 4) (kV 4) ++ (B4 cI (kA 5) (kV 5) ++ (B4 cI (kQ 0) (kP 0) ++ B4 cI (kQ 1) (kP 1))))))))
abbrev HB (cI cZ cS : ClassId) (aY aV aU aR : Nat) (kd : Int32) (kf : Nat → Int32) (kA : Nat → SA) (kV : Nat → SV) (kQ : Nat → SA) (kP : Nat → SV) : va_W := HBg cI cZ cS aY aV aU aR (hR kA) kd kf kA kV kQ kP
def rotA (kA : Nat → SA) : Nat → SA := fun i => match i with | 5 => kA 0 | j => kA (j + 1)
def rotV (kV : Nat → SV) : Nat → SV := fun i => match i with | 5 => kV 0 | j => kV (j + 1)
def svK (k : Nat) : Nat := if k < 6 then k + 1 else 6
def svA (k : Nat) (kA : Nat → SA) : Nat → SA := if k < 6 then kA else rotA kA
def svV (k : Nat) (kV : Nat → SV) (n : SV) : Nat → SV := if k < 6 then va_up kV k n else va_up (rotV kV) 5 n
def uQ2 (D : va_G) (v : Option Value) (A : Nat → Prop) (ws' : va_W) : Array Value → State → Outcome → State → Prop := fun _ st o t => o = .returned v ∧ va_P D vwCl ws' t.heap ∧ va_D A ws' ∧ va_F A st t
theorem app_l {α : Type} {X Y : List α} {k : Nat} {q : α} (h : X[k]? = some q) : (X ++ Y)[k]? = some q := by
  rw [List.getElem?_append_left (List.getElem?_eq_some_iff.mp h).1]
  exact h
theorem app_r {α : Type} {X Y : List α} {k : Nat} {q : α} (h : Y[k]? = some q) : (X ++ Y)[X.length + k]? = some q := by
  rw [List.getElem?_append_right (Nat.le_add_right _ _), Nat.add_sub_cancel_left]
  exact h
theorem app_e {α : Type} {X Y : List α} {k : Nat} {q : α} (h : (X ++ Y)[k]? = some q) : X[k]? = some q ∨ ∃ j, k = X.length + j ∧ Y[j]? = some q := by
  by_cases hk : k < X.length
  · rw [List.getElem?_append_left hk] at h
    exact Or.inl h
  · rw [List.getElem?_append_right (Nat.le_of_not_lt hk)] at h
    exact Or.inr ⟨k - X.length, by omega, h⟩
theorem uA_get {ws : va_W} {q : Nat} (h : uA ws q) : ∃ (k : Nat) (x : Nat × va_E), ws[k]? = some x ∧ x.1 = q := by
  obtain ⟨x, hx, hq⟩ := List.mem_map.mp h
  obtain ⟨k, hk⟩ := List.getElem?_of_mem hx
  exact ⟨k, x, hk, hq⟩
theorem uA_of {ws : va_W} {k : Nat} {x : Nat × va_E} (h : ws[k]? = some x) : uA ws x.1 := List.mem_map.mpr ⟨x, List.mem_of_getElem? h, rfl⟩
theorem pick_get {ws wc : va_W} {is : List Nat} (hwc : is.map (fun i => ws[i]?) = wc.map some) {j : Nat} {x : Nat × va_E} (h : wc[j]? = some x) : ∃ i, is[j]? = some i ∧ ws[i]? = some x := by
  have h3 : (is.map (fun i => ws[i]?))[j]? = some (some x) := by rw [hwc, List.getElem?_map, h]; rfl
  rw [List.getElem?_map] at h3
  cases hii : is[j]? with
  | none => rw [hii] at h3; cases h3
  | some i => rw [hii] at h3; exact ⟨i, rfl, Option.some.inj h3⟩
theorem fst_get {w w' : va_W} (e : w'.map (fun x => x.1) = w.map (fun x => x.1)) {j : Nat} {x : Nat × va_E} (h : w'[j]? = some x) : ∃ y, w[j]? = some y ∧ y.1 = x.1 := by
  have h1 : (w'.map (fun x => x.1))[j]? = some x.1 := by rw [List.getElem?_map, h]; rfl
  rw [e, List.getElem?_map] at h1
  cases hq : w[j]? with
  | none => rw [hq] at h1; cases h1
  | some y => rw [hq] at h1; exact ⟨y, rfl, Option.some.inj h1⟩
/-- behind an update of the history and of some cells beside it -/
theorem hjoin {A : Nat → Prop} {D : va_G} {cl : List vw_C} {X Hb Hb' wc wc' : va_W} {H H1 : Heap} (hP : va_P D cl (X ++ Hb) H) (hD : va_D A (X ++ Hb)) (is : List Nat) (hwc : is.map (fun i => X[i]?) = wc.map some) (hl : wc'.length = is.length) (hwd : wc'.map (fun x => x.1) = wc.map (fun x => x.1))
    (hk : ∀ q : Nat, q < H.size → ¬ uA (wc ++ Hb) q → H1[q]? = H[q]?) (hP1 : va_P D cl (wc' ++ Hb') H1) (hD1 : va_D (uA (wc ++ Hb)) (wc' ++ Hb')) : va_P D cl (va_puts X is wc' ++ Hb') H1 ∧ va_D A (va_puts X is wc' ++ Hb') := by
  have hsub : ∀ q, uA (wc ++ Hb) q → A q := by
    intro q h
    obtain ⟨k, x, h1, h2⟩ := uA_get h
    rw [← h2]
    rcases app_e h1 with h3 | ⟨j, -, h3⟩
    · obtain ⟨i, -, h4⟩ := pick_get hwc h3
      exact hD.2 i x (app_l h4)
    · exact hD.2 _ x (app_r h3)
  -- a cell of X that isn't handed on has an address of its own
  have hown : ∀ (k : Nat) (q : Nat × va_E), k ∉ is → X[k]? = some q → ¬ uA (wc ++ Hb) q.1 := by
    intro k q h1 h2 h
    obtain ⟨k2, x, h3, h4⟩ := uA_get h
    rcases app_e h3 with h5 | ⟨j, -, h5⟩
    · obtain ⟨i, h6, h7⟩ := pick_get hwc h5
      have := hD.1 i k x q (app_l h7) (app_l h2) h4
      subst this
      exact h1 (List.mem_of_getElem? h6)
    · have h6 := hD.1 _ k x q (app_r h5) (app_l h2) h4
      have h7 := (List.getElem?_eq_some_iff.mp h2).1
      omega
  -- what stands in the new X
  have hnew : ∀ (k : Nat) (q : Nat × va_E), (va_puts X is wc')[k]? = some q → (k ∉ is ∧ X[k]? = some q) ∨ ∃ j : Nat, is[j]? = some k ∧ wc'[j]? = some q := by
    intro k q h
    rcases va_puts_get X is wc' k q h with h1 | h1 | ⟨-, j, h2, h3⟩
    · exact Or.inl h1
    · exact Or.inr h1
    · rw [hl] at h3
      have := (List.getElem?_eq_some_iff.mp h2).1
      omega
  refine ⟨va_P.app (fun k q h => ?_) (fun k q h => hP1 _ q (app_r h)), ?_⟩
  · rcases hnew k q h with ⟨h1, h2⟩ | ⟨j, h1, h2⟩
    · exact (hP k q (app_l h2)).kept (hk q.1 (hP k q (app_l h2)).lt (hown k q h1 h2))
    · exact hP1 j q (app_l h2)
  · refine va_D.app ⟨fun i j p q h1 h2 h3 => ?_, fun k q h => ?_⟩ ⟨fun i j p q h1 h2 h3 => ?_, fun k q h => hsub _ (hD1.2 _ q (app_r h))⟩ (fun i j p q h1 h2 h3 => ?_)
    · rcases hnew i p h1 with ⟨a1, a2⟩ | ⟨a, a1, a2⟩ <;> rcases hnew j q h2 with ⟨b1, b2⟩ | ⟨b, b1, b2⟩
      · exact hD.1 i j p q (app_l a2) (app_l b2) h3
      · exact absurd (by rw [h3]; exact hD1.2 b q (app_l b2)) (hown i p a1 a2)
      · exact absurd (by rw [← h3]; exact hD1.2 a p (app_l a2)) (hown j q b1 b2)
      · have := hD1.1 a b p q (app_l a2) (app_l b2) h3
        subst this
        exact Option.some.inj (a1.symm.trans b1)
    · rcases hnew k q h with ⟨a1, a2⟩ | ⟨a, a1, a2⟩
      · exact hD.2 k q (app_l a2)
      · exact hsub _ (hD1.2 a q (app_l a2))
    · have := hD1.1 _ _ p q (app_r h1) (app_r h2) h3
      omega
    · rcases hnew i p h1 with ⟨a1, a2⟩ | ⟨a, a1, a2⟩
      · exact hown i p a1 a2 (by rw [h3]; exact hD1.2 _ q (app_r h2))
      · have h4 := hD1.1 a _ p q (app_l a2) (app_r h2) h3
        have h5 := (List.getElem?_eq_some_iff.mp a2).1
        omega
section HRows
variable {p : Program} {l : Launch} {e : Env} {R : Room} {s : State} {m : MethodId} {args : Array Value} {below : List Frame} {meth : Method} {c : Code} {H : Heap} {locs : List Loc} {cells slots : Nat} {Q : State → Prop}
variable {cc : ByteArray} {pc : Nat} {ls : Array Slot} {rest st : List Value} {D : va_G} {A : Nat → Prop} {tys : List (ClassId × FieldType)} {wc wc' X X' Hb Hb' : va_W}
theorem lv_same {v v' : Value} (h : v = v') (k : W p l e R s m args below meth c H locs cells slots Q (F0 m pc ls (v' :: rest))) : W p l e R s m args below meth c H locs cells slots Q (F0 m pc ls (v :: rest)) := by
  rw [h]
  exact k
theorem uPreVq {b : Addr} {As : List Value} (hK : gK D tys s) (hP : va_P D vwCl wc H) (hD : va_D A wc) (q0 : Nat) {ci : Nat} {fs : List Value} {q : vw_C} (h0 : wc[q0]? = some (b, .inr (ci, fs))) (hc : vwCl[ci]? = some q) : PreV s H q.1 b (uP D tys wc (.ref b :: As)) As :=
  ⟨uP_blind D tys wc _, va_recv hK.1 hP hc h0, fun U hU hW => ⟨rfl, hK.warm hW, by rw [hU]; exact hP, hD.weaken (fun _ _ _ _ => trivial)⟩⟩
theorem hcallv {a : Array Value} {st0 : List Value} {H0 : Heap} (hr : va_Run p l e R s m args below meth c H locs cells slots 0 0 (F0 m pc ls st0) rest (uQ2 D none (uA (wc ++ Hb)) (wc' ++ Hb') a) (uA (wc ++ Hb))) (hS : va_S A H0 H locs) (hP : va_P D vwCl (X ++ Hb) H) (hD : va_D A (X ++ Hb)) (is : List Nat) (hwc : is.map (fun i => X[i]?) = wc.map some) (hl : wc'.length = is.length) (hwd : wc'.map (fun x => x.1) = wc.map (fun x => x.1)) (hX : va_puts X is wc' = X')
    (kk : ∀ (H1 : Heap) (locs1 : List Loc), va_P D vwCl (X' ++ Hb') H1 → va_D A (X' ++ Hb') → va_S A H0 H1 locs1 → W p l e R s m args below meth c H1 locs1 cells slots Q (F0 m (pc + 3) ls rest)) : W p l e R s m args below meth c H locs cells slots Q (F0 m pc ls st0) := by
  intro T hT X0
  obtain ⟨v', st₀, t, T', L, h0, XX, hL, e1, e2, ⟨hv, hP1, hD1, hz, hk⟩, st⟩ := hr T hT X0
  cases hv
  rw [h0] at hz hk
  have hA : ∀ q, uA (wc ++ Hb) q → A q := by
    intro q h
    obtain ⟨k, x, h1, h2⟩ := uA_get h
    rw [← h2]
    rcases app_e h1 with h3 | ⟨j, -, h3⟩
    · obtain ⟨i, -, h4⟩ := pick_get hwc h3
      exact hD.2 i x (app_l h4)
    · exact hD.2 _ x (app_r h3)
  subst hX
  obtain ⟨g1, g2⟩ := hjoin hP hD is hwc hl hwd hk hP1 hD1
  obtain ⟨t2, a1, b1⟩ := kk t.heap (locs ++ L) g1 g2
    ⟨Nat.le_trans hS.1 hz, fun q h1 h2 => by rw [hk q (Nat.lt_of_lt_of_le h1 hS.1) (fun z => h2 (hA q z))]; exact hS.2.1 q h1 h2, fun q hq => by
      rcases List.mem_append.mp hq with h | h
      · exact hS.2.2 q h
      · exact hA _ (hL q h)⟩ T' e1 XX
  exact ⟨t2, st t2 a1, b1⟩
theorem uretv2 {A0 : Nat → Prop} {ws' : va_W} (hx : p.tables.exec = Jvm.exec) (hb : c.code = cc) (hr : meth.sig.returnType = none) (hlocks : meth.locks = false) (hP : va_P D vwCl ws' H) (hD : va_D A0 ws') (hS : va_S A0 s.heap H locs) (hdg : decode cc pc = .ok (.return_, 1)) :
    W p l e R s m args below meth c H locs cells slots (MQ below (uQ2 D none A0 ws') args s cells slots A0) (F0 m pc ls []) :=
  W.vret hx hb hr (fun t ht hW => ⟨rfl, by rw [ht]; exact hP, hD, hS.F ht⟩) hS.2.2 hdg hlocks
end HRows
abbrev cW (p : Program) (l : Launch) (e : Env) (ws : List Cond) (rm : Room) (s : State) (m : MethodId) (args : Array Value) (below : List Frame) (meth : Method) (c : Code) (D : va_G) (v : Option Value) (A0 : Nat → Prop) (ws' : va_W) (H : Heap) (locs : List Loc) (g : JFrame) : Prop :=
  W p l e (headSpec ws rm).room s m args below meth c H locs 0 0 (MQ below (uQ2 D v A0 ws') args s 0 0 A0) g
def f1_copyState (sr : Int32) (wm : Int32) (wW : Nat → Int32) (bh : Int32) (bF : Nat → Int32) (bZ : Nat → Int32) (bK : Nat → Int32) (bM : Nat → Int32) (sro : Int32) (wmo : Int32) (wWo : Nat → Int32) (bho : Int32) (bFo : Nat → Int32) (bZo : Nat → Int32) (bKo : Nat → Int32) (bMo : Nat → Int32) : Option (Int32 × Int32 × (Nat → Int32) × Int32 × (Nat → Int32) × (Nat → Int32) × (Nat → Int32) × (Nat → Int32)) :=
  bd8 (f4_copyFrom sr wm wW bh bF bZ bK bM sro wmo wWo bho bFo bZo bKo bMo) (fun u2 u3 u4 u5 u6 u7 u8 u9 =>
    some (u2, u3, u4, u5, u6, u7, u8, u9))
def f1_isSlotFilled (kf : Nat → Int32) (x1 : Int32) : Option (Int32) :=
  some ((if x1 < 0 then (0 : Int32) else (if (2 : Int32) ≤ x1 then (0 : Int32) else (if (kf x1.toNatClampNeg) = 0 then (0 : Int32) else (1 : Int32)))))
abbrev rm1_copyState : Room := { frames := 3, cells := 0, slots := 0, locals := 64 }
theorem hdn1_copyState : yX1_copyState.cls ≠ "java/lang/invoke/MethodHandle" ∧ yX1_copyState.cls ≠ "java/lang/invoke/VarHandle" ∧ (parseMethodDescriptor yX1_copyState.desc).map (fun d => d.parameters.length) = some 2 := by decide +kernel
set_option maxHeartbeats 4000000 in
set_option maxRecDepth 100000 in
theorem K1_copyState (l : Launch) (D : va_G) (cI cZ cS cJ : ClassId) (aS aL aW aB aF aZ aK aM aSo aLo aWo aBo aFo aZo aKo aMo : Nat) (sr : Int32) (wm : Int32) (wW : Nat → Int32) (bh : Int32) (bF : Nat → Int32) (bZ : Nat → Int32) (bK : Nat → Int32) (bM : Nat → Int32) (sro : Int32) (wmo : Int32) (wWo : Nat → Int32) (bho : Int32) (bFo : Nat → Int32) (bZo : Nat → Int32) (bKo : Nat → Int32) (bMo : Nat → Int32) (z_sr : Int32) (z_wm : Int32) (z_wW : Nat → Int32) (z_bh : Int32) (z_bF : Nat → Int32) (z_bZ : Nat → Int32) (z_bK : Nat → Int32) (z_bM : Nat → Int32) (hF : f1_copyState sr wm wW bh bF bZ bK bM sro wmo wWo bho bFo bZo bKo bMo = some (z_sr, z_wm, z_wW, z_bh, z_bF, z_bZ, z_bK, z_bM)) : Met l yX1_copyState wsX1_copyState rm1_copyState (uP D (gT cI cZ cS cJ) (W44 cI aS aL aW aB aF aZ aK aM aSo aLo aWo aBo aFo aZo aKo aMo sr wm wW bh bF bZ bK bM sro wmo wWo bho bFo bZo bKo bMo) [.ref aSo, .ref aS]) (uQ D none (uA (W44 cI aS aL aW aB aF aZ aK aM aSo aLo aWo aBo aFo aZo aKo aMo sr wm wW bh bF bZ bK bM sro wmo wWo bho bFo bZo bKo bMo)) (W44 cI aS aL aW aB aF aZ aK aM aSo aLo aWo aBo aFo aZo aKo aMo z_sr z_wm z_wW z_bh z_bF z_bZ z_bK z_bM sro wmo wWo bho bFo bZo bKo bMo)) 0 0 (uA (W44 cI aS aL aW aB aF aZ aK aM aSo aLo aWo aBo aFo aZo aKo aMo sr wm wW bh bF bZ bK bM sro wmo wWo bho bFo bZo bKo bMo)) := by
  refine Met.ofW (cc := cX1_copyState) (maxL := 2) (ret := none) (by decide) rfl ?_
  intro p e s m args below meth c s₁ B hml hv
  obtain ⟨ha, hK, hP, hD0⟩ := hv
  have hx := B.exec
  have hb := B.bytes
  have hr := B.returns
  have hlocks := B.notSynchronized
  have hts : ∀ w ∈ lw_all, w.before args s = true := fun w h => atoms_spec (ws := wsX1_copyState) B.pre w (List.mem_cons_of_mem _ h)
  have hown : s.vm.findClass RX1 = some m.cls := findClass_of_methodNamed B.named
  have S : CallFix p m c cX1_copyState 2 s args lw_all RX1 := ⟨hx, hb, hml, hown, hts⟩
  have hD := hD0.own
  generalize uA (W44 cI aS aL aW aB aF aZ aK aM aSo aLo aWo aBo aFo aZo aKo aMo sr wm wW bh bF bZ bK bM sro wmo wWo bho bFo bZo bKo bMo) = A0 at hD ⊢
  have hS : va_S A0 s.heap s.heap [] := va_S.rf
  have hl := lv_entry ([.ref aSo, .ref aS] : List Value) (n := 2) (Nat.le_of_ble_eq_true rfl)
  refine W.eq (g2 := F0 m 0 ((lg_sl ([.ref aSo, .ref aS] : List Value) ++ List.replicate (2 - (lg_sl ([.ref aSo, .ref aS] : List Value)).length) Slot.unset).toArray) []) (by rw [ha]; exact lg_entry_eq _ _ _) ?_
  generalize (lg_sl ([.ref aSo, .ref aS] : List Value) ++ List.replicate (2 - (lg_sl ([.ref aSo, .ref aS] : List Value)).length) Slot.unset).toArray = ls at hl ⊢
  have hl : lv_has ls 2 [(0, .ref aSo), (1, .ref aS)] := hl
  rw [f1_copyState] at hF
  show uW p l e wsX1_copyState rm1_copyState s m args below meth c D none A0 (W44 cI aS aL aW aB aF aZ aK aM aSo aLo aWo aBo aFo aZo aKo aMo z_sr z_wm z_wW z_bh z_bF z_bZ z_bK z_bM sro wmo wWo bho bFo bZo bKo bMo) s.heap [] (F0 m 0 ls [])
  refine lv_aload_n hx hb dX1_copyState_0 rfl (lv_at hl 0 rfl) ?_
  refine lv_ifnull hx hb dX1_copyState_1 ?_
  refine lv_aload_n hx hb dX1_copyState_4 rfl (lv_at hl 1 rfl) ?_
  refine lv_ifnull hx hb dX1_copyState_5 ?_
  refine lv_aload_n hx hb dX1_copyState_8 rfl (lv_at hl 1 rfl) ?_
  refine lv_aload_n hx hb dX1_copyState_9 rfl (lv_at hl 0 rfl) ?_
  obtain ⟨u2, u3, u4, u5, u6, u7, u8, u9, h1, hF⟩ := bd8_at hF
  refine ucallv (ws' := (W44 cI aS aL aW aB aF aZ aK aM aSo aLo aWo aBo aFo aZo aKo aMo u2 u3 u4 u5 u6 u7 u8 u9 sro wmo wWo bho bFo bZo bKo bMo)) (va_runV (As := [.ref aSo]) (rest := []) S (K4_copyFrom l D cI cZ cS cJ aS aL aW aB aF aZ aK aM aSo aLo aWo aBo aFo aZo aKo aMo sr wm wW bh bF bZ bK bM sro wmo wWo bho bFo bZo bKo bMo u2 u3 u4 u5 u6 u7 u8 u9 h1) (cwV 1 hts (gd_V wd_287 wd_288 wd_289 wd_23 wd_290) rfl rfl rfl hd4_copyFrom ⟨Nat.le_of_ble_eq_true rfl, Nat.le_of_ble_eq_true rfl⟩) (uPreV hK hP hD (ci := 4) (q := (RX4, TX4, 3)) rfl rfl) rfl rfl hl.1 rfl (lv_room (Nat.le_of_ble_eq_true rfl)) dX1_copyState_10 ⟨(Nat.zero_le _), (Nat.zero_le _)⟩) hS hP hD [0, 1, 2, 3, 4, 5, 6, 7, 8, 9, 10, 11, 12, 13, 14, 15] rfl rfl rfl rfl (fun H locs hP hD hS => ?_)
  cases hF
  exact uretv hx hb hr hlocks hP hS dX1_copyState_13
abbrev rm1_isSlotFilled : Room := { frames := 0, cells := 0, slots := 0, locals := 0 }
theorem hd1_isSlotFilled : yX1_isSlotFilled.cls = RX1 ∧ yX1_isSlotFilled.cls ≠ "java/lang/invoke/MethodHandle" ∧ yX1_isSlotFilled.cls ≠ "java/lang/invoke/VarHandle" ∧ (parseMethodDescriptor yX1_isSlotFilled.desc).map (fun d => d.parameters.length) = some 1 := by decide +kernel
set_option maxHeartbeats 4000000 in
set_option maxRecDepth 100000 in
theorem K1_isSlotFilled (l : Launch) (D : va_G) (cI cZ cS cJ : ClassId) (aY aR aV aU : Nat) (kd : Int32) (kf : Nat → Int32) (x1 : Int32) (r : Int32) (hF : f1_isSlotFilled kf x1 = some (r)) : Met l yX1_isSlotFilled wsX1_isSlotFilled rm1_isSlotFilled (rP D (gT cI cZ cS cJ) (WY cI cZ aY aR aV aU kd kf) [.ref aY, .int x1]) (rQ (.int r)) 0 0 (fun _ => False) := by
  refine Met.ofW (cc := cX1_isSlotFilled) (maxL := 2) (ret := (some .boolean)) (by decide) rfl ?_
  intro p e s m args below meth c s₁ B hml hv
  obtain ⟨ha, hK, hP⟩ := hv
  have hx := B.exec
  have hb := B.bytes
  have hr := B.returns
  have hlocks := B.notSynchronized
  have hts : ∀ w ∈ lw_all, w.before args s = true := fun w h => atoms_spec (ws := wsX1_isSlotFilled) B.pre w (List.mem_cons_of_mem _ h)
  have hown : s.vm.findClass RX1 = some m.cls := findClass_of_methodNamed B.named
  have S : CallFix p m c cX1_isSlotFilled 2 s args lw_all RX1 := ⟨hx, hb, hml, hown, hts⟩
  have hl := lv_entry ([.ref aY, .int x1] : List Value) (n := 2) (Nat.le_of_ble_eq_true rfl)
  refine W.eq (g2 := F0 m 0 ((lg_sl ([.ref aY, .int x1] : List Value) ++ List.replicate (2 - (lg_sl ([.ref aY, .int x1] : List Value)).length) Slot.unset).toArray) []) (by rw [ha]; exact lg_entry_eq _ _ _) ?_
  generalize (lg_sl ([.ref aY, .int x1] : List Value) ++ List.replicate (2 - (lg_sl ([.ref aY, .int x1] : List Value)).length) Slot.unset).toArray = ls at hl ⊢
  have hl : lv_has ls 2 [(0, .ref aY), (1, .int x1)] := hl
  rw [f1_isSlotFilled] at hF
  show rW p l e wsX1_isSlotFilled rm1_isSlotFilled s m args below meth c (.int r) (F0 m 0 ls [])
  refine lv_iload_n hx hb dX1_isSlotFilled_0 rfl (lv_at hl 1 rfl) ?_
  refine lv_if_lt (tgt := 26) hx hb dX1_isSlotFilled_1 (by decide) (fun c1 => ?_) (fun c1 => ?_)
  · rw [if_pos c1] at hF
    refine lv_iconst hx hb dX1_isSlotFilled_26 kc_iconst_0 ?_
    exact rretz (by decide) hF hx hb hr hlocks dX1_isSlotFilled_27
  · rw [if_neg c1] at hF
    refine lv_iload_n hx hb dX1_isSlotFilled_4 rfl (lv_at hl 1 rfl) ?_
    refine lv_aload_n hx hb dX1_isSlotFilled_5 rfl (lv_at hl 0 rfl) ?_
    refine va_get (D := D) (ci := 1) (v := .ref aR) (C := RX1) (T := TX1) (N := 4) hx hb hts i_X1 hown hK.1 hP 0 rfl rfl 2 (by decide) (hts _ wd_112) (fun _ h9 => h9) rfl dX1_isSlotFilled_6 ?_
    refine va_alen (v := (2 : Int32)) hx hb hK.1 hP 1 1 rfl rfl rfl dX1_isSlotFilled_9 ?_
    refine lv_icmp_ge (tgt := 26) hx hb dX1_isSlotFilled_10 (by decide) (fun c2 => ?_) (fun c2 => ?_)
    · rw [if_pos c2] at hF
      refine lv_iconst hx hb dX1_isSlotFilled_26 kc_iconst_0 ?_
      exact rretz (by decide) hF hx hb hr hlocks dX1_isSlotFilled_27
    · rw [if_neg c2] at hF
      refine lv_aload_n hx hb dX1_isSlotFilled_13 rfl (lv_at hl 0 rfl) ?_
      refine va_get (D := D) (ci := 1) (v := .ref aR) (C := RX1) (T := TX1) (N := 4) hx hb hts i_X1 hown hK.1 hP 0 rfl rfl 2 (by decide) (hts _ wd_112) (fun _ h9 => h9) rfl dX1_isSlotFilled_14 ?_
      refine lv_iload_n hx hb dX1_isSlotFilled_17 rfl (lv_at hl 1 rfl) ?_
      refine va_zald hx hb hK.1 hP 1 1 rfl rfl (inb_path (N := 2) (n := 2) (by decide) c1 c2) dX1_isSlotFilled_18 ?_
      refine lv_if_eq (tgt := 26) hx hb dX1_isSlotFilled_19 (by decide) (fun c3 => ?_) (fun c3 => ?_)
      · rw [if_pos c3] at hF
        refine lv_iconst hx hb dX1_isSlotFilled_26 kc_iconst_0 ?_
        exact rretz (by decide) hF hx hb hr hlocks dX1_isSlotFilled_27
      · rw [if_neg c3] at hF
        refine lv_iconst hx hb dX1_isSlotFilled_22 kc_iconst_1 ?_
        refine lv_goto (tgt := 27) hx hb dX1_isSlotFilled_23 (by decide) ?_
        exact rretz (by decide) hF hx hb hr hlocks dX1_isSlotFilled_27
theorem cp_eq (sr wm : Int32) (wW : Nat → Int32) (bh : Int32) (bF bZ bK bM : Nat → Int32) (sro wmo : Int32) (wWo : Nat → Int32) (bho : Int32) (bFo bZo bKo bMo : Nat → Int32) : f1_copyState sr wm wW bh bF bZ bK bM sro wmo wWo bho bFo bZo bKo bMo = some (sro, wmo, wWo, bho, bFo, bZo, bKo, bMo) := by
  simp [f1_copyState, f4_copyFrom, f2_copyFrom, f0_copyFrom, f5_copyRowE, bd1, bd2, bd5, bd8]
abbrev rm1_dropOldest : Room := { frames := 0, cells := 0, slots := 0, locals := 0 }
theorem hd1_dropOldest : yX1_dropOldest.cls = RX1 ∧ yX1_dropOldest.cls ≠ "java/lang/invoke/MethodHandle" ∧ yX1_dropOldest.cls ≠ "java/lang/invoke/VarHandle" ∧ (parseMethodDescriptor yX1_dropOldest.desc).map (fun d => d.parameters.length) = some 0 := by decide +kernel
abbrev rm1_save : Room := { frames := 4, cells := 0, slots := 0, locals := 85 }
theorem hd1_save : yX1_save.cls = RX1 ∧ yX1_save.cls ≠ "java/lang/invoke/MethodHandle" ∧ yX1_save.cls ≠ "java/lang/invoke/VarHandle" ∧ (parseMethodDescriptor yX1_save.desc).map (fun d => d.parameters.length) = some 1 := by decide +kernel
abbrev rm1_restoreLast : Room := { frames := 4, cells := 0, slots := 0, locals := 85 }
theorem hd1_restoreLast : yX1_restoreLast.cls = RX1 ∧ yX1_restoreLast.cls ≠ "java/lang/invoke/MethodHandle" ∧ yX1_restoreLast.cls ≠ "java/lang/invoke/VarHandle" ∧ (parseMethodDescriptor yX1_restoreLast.desc).map (fun d => d.parameters.length) = some 1 := by decide +kernel
abbrev rm1_putIntoSlot : Room := { frames := 4, cells := 0, slots := 0, locals := 85 }
theorem hd1_putIntoSlot : yX1_putIntoSlot.cls = RX1 ∧ yX1_putIntoSlot.cls ≠ "java/lang/invoke/MethodHandle" ∧ yX1_putIntoSlot.cls ≠ "java/lang/invoke/VarHandle" ∧ (parseMethodDescriptor yX1_putIntoSlot.desc).map (fun d => d.parameters.length) = some 2 := by decide +kernel
abbrev rm1_restoreSlot : Room := { frames := 4, cells := 0, slots := 0, locals := 85 }
theorem hd1_restoreSlot : yX1_restoreSlot.cls = RX1 ∧ yX1_restoreSlot.cls ≠ "java/lang/invoke/MethodHandle" ∧ yX1_restoreSlot.cls ≠ "java/lang/invoke/VarHandle" ∧ (parseMethodDescriptor yX1_restoreSlot.desc).map (fun d => d.parameters.length) = some 2 := by decide +kernel
set_option maxHeartbeats 4000000 in
set_option maxRecDepth 100000 in
theorem K1_dropOldest (l : Launch) (D : va_G) (cI cZ cS cJ : ClassId) (aY aV aU aR : Nat) (kf : Nat → Int32) (kA kQ : Nat → SA) (kV kP : Nat → SV) : Met l yX1_dropOldest wsX1_dropOldest rm1_dropOldest (uP D (gT cI cZ cS cJ) (HBg cI cZ cS aY aV aU aR (hR kA) (6 : Int32) kf kA kV kQ kP) [.ref aY]) (uQ2 D none (uA (HBg cI cZ cS aY aV aU aR (hR kA) (6 : Int32) kf kA kV kQ kP)) (HBg cI cZ cS aY aV aU aR (hR (rotA kA)) (5 : Int32) kf (rotA kA) (rotV kV) kQ kP)) 0 0 (uA (HBg cI cZ cS aY aV aU aR (hR kA) (6 : Int32) kf kA kV kQ kP)) := by
  refine Met.ofW (cc := cX1_dropOldest) (maxL := 3) (ret := none) (by decide) rfl ?_
  intro p e s m args below meth c s₁ B hml hv
  obtain ⟨ha, hK, hP, hD0⟩ := hv
  have hx := B.exec
  have hb := B.bytes
  have hr := B.returns
  have hlocks := B.notSynchronized
  have hts : ∀ w ∈ lw_all, w.before args s = true := fun w h => atoms_spec (ws := wsX1_dropOldest) B.pre w (List.mem_cons_of_mem _ h)
  have hown : s.vm.findClass RX1 = some m.cls := findClass_of_methodNamed B.named
  have S : CallFix p m c cX1_dropOldest 3 s args lw_all RX1 := ⟨hx, hb, hml, hown, hts⟩
  have hD := hD0.own
  generalize uA (HBg cI cZ cS aY aV aU aR (hR kA) (6 : Int32) kf kA kV kQ kP) = A0 at hD ⊢
  have hS : va_S A0 s.heap s.heap [] := va_S.rf
  have hl := lv_entry ([.ref aY] : List Value) (n := 3) (Nat.le_of_ble_eq_true rfl)
  refine W.eq (g2 := F0 m 0 ((lg_sl ([.ref aY] : List Value) ++ List.replicate (3 - (lg_sl ([.ref aY] : List Value)).length) Slot.unset).toArray) []) (by rw [ha]; exact lg_entry_eq _ _ _) ?_
  generalize (lg_sl ([.ref aY] : List Value) ++ List.replicate (3 - (lg_sl ([.ref aY] : List Value)).length) Slot.unset).toArray = ls at hl ⊢
  have hl : lv_has ls 3 [(0, .ref aY)] := hl
  show cW p l e wsX1_dropOldest rm1_dropOldest s m args below meth c D none A0 (HBg cI cZ cS aY aV aU aR (hR (rotA kA)) (5 : Int32) kf (rotA kA) (rotV kV) kQ kP) s.heap [] (F0 m 0 ls [])
  refine lv_aload_n hx hb dX1_dropOldest_0 rfl (lv_at hl 0 rfl) ?_
  refine va_get (D := D) (ci := 1) (v := .ref aV) (C := RX1) (T := TX1) (N := 4) hx hb hts i_X1 hown hK.1 hP 0 rfl rfl 0 (by decide) (hts _ wd_110) (fun _ h9 => h9) rfl dX1_dropOldest_1 ?_
  refine va_alen (v := (6 : Int32)) hx hb hK.1 hP 1 2 rfl rfl rfl dX1_dropOldest_4 ?_
  refine lv_iconst hx hb dX1_dropOldest_5 kc_iconst_1 ?_
  refine lv_icmp_ge (tgt := 10) hx hb dX1_dropOldest_6 (by decide) (fun c1 => ?_) (fun c1 => ?_)
  · skip
    refine lv_aload_n hx hb dX1_dropOldest_10 rfl (lv_at hl 0 rfl) ?_
    refine va_get (D := D) (ci := 1) (v := .ref aV) (C := RX1) (T := TX1) (N := 4) hx hb hts i_X1 hown hK.1 hP 0 rfl rfl 0 (by decide) (hts _ wd_110) (fun _ h9 => h9) rfl dX1_dropOldest_11 ?_
    refine lv_iconst hx hb dX1_dropOldest_14 kc_iconst_0 ?_
    refine va_aldq hx hb hK.1 hP 1 2 rfl rfl (inb_lit (by decide)) dX1_dropOldest_15 ?_
    refine lv_same (v' := .ref (kA 0).1) rfl ?_
    refine lv_astore_n (lv' := [(1, .ref ((kA 0).1)), (0, .ref aY)]) hx hb dX1_dropOldest_16 rfl hl (by decide) rfl (fun ls hl => ?_)
    refine lv_iconst hx hb dX1_dropOldest_17 kc_iconst_1 ?_
    refine lv_istore_n (lv' := [(2, .int (1 : Int32)), (1, .ref ((kA 0).1)), (0, .ref aY)]) hx hb dX1_dropOldest_18 rfl hl (by decide) rfl (fun ls hl => ?_)
    refine lv_iload_n hx hb dX1_dropOldest_19 rfl (lv_at hl 0 rfl) ?_
    refine lv_aload_n hx hb dX1_dropOldest_20 rfl (lv_at hl 2 rfl) ?_
    refine va_get (D := D) (ci := 1) (v := .ref aV) (C := RX1) (T := TX1) (N := 4) hx hb hts i_X1 hown hK.1 hP 0 rfl rfl 0 (by decide) (hts _ wd_110) (fun _ h9 => h9) rfl dX1_dropOldest_21 ?_
    refine va_alen (v := (6 : Int32)) hx hb hK.1 hP 1 2 rfl rfl rfl dX1_dropOldest_24 ?_
    refine lv_icmp_ge (tgt := 48) hx hb dX1_dropOldest_25 (by decide) (fun c2 => ?_) (fun c2 => ?_)
    · exact absurd c2 (by decide)
    · skip
      refine lv_aload_n hx hb dX1_dropOldest_28 rfl (lv_at hl 2 rfl) ?_
      refine va_get (D := D) (ci := 1) (v := .ref aV) (C := RX1) (T := TX1) (N := 4) hx hb hts i_X1 hown hK.1 hP 0 rfl rfl 0 (by decide) (hts _ wd_110) (fun _ h9 => h9) rfl dX1_dropOldest_29 ?_
      refine lv_iload_n hx hb dX1_dropOldest_32 rfl (lv_at hl 0 rfl) ?_
      refine lv_iconst hx hb dX1_dropOldest_33 kc_iconst_1 ?_
      refine lv_isub hx hb dX1_dropOldest_34 ?_
      refine lv_topi (fun t3 e4 => ?_)
      obtain rfl : t3 = (0 : Int32) := e4.trans (by decide)
      refine lv_aload_n hx hb dX1_dropOldest_35 rfl (lv_at hl 2 rfl) ?_
      refine va_get (D := D) (ci := 1) (v := .ref aV) (C := RX1) (T := TX1) (N := 4) hx hb hts i_X1 hown hK.1 hP 0 rfl rfl 0 (by decide) (hts _ wd_110) (fun _ h9 => h9) rfl dX1_dropOldest_36 ?_
      refine lv_iload_n hx hb dX1_dropOldest_39 rfl (lv_at hl 0 rfl) ?_
      refine va_aldq hx hb hK.1 hP 1 2 rfl rfl (inb_lit (by decide)) dX1_dropOldest_40 ?_
      refine lv_same (v' := .ref (kA 1).1) rfl ?_
      refine va_astq (r := (RX4, TX4, 3)) hx hb hK.1 hP hD hS 1 2 12 4 rfl rfl rfl rfl (inb_lit (by decide)) dX1_dropOldest_41 (fun H locs hP hD hS => ?_)
      have hP : va_P D vwCl (HBg cI cZ cS aY aV aU aR (va_up (hR kA) (0 : Int32).toNatClampNeg (some (kA 1).1)) (6 : Int32) kf kA kV kQ kP) H := hP
      have hD : va_D A0 (HBg cI cZ cS aY aV aU aR (va_up (hR kA) (0 : Int32).toNatClampNeg (some (kA 1).1)) (6 : Int32) kf kA kV kQ kP) := hD
      refine lv_iinc (v := (2 : Int32)) (lv' := [(2, .int (2 : Int32)), (1, .ref ((kA 0).1)), (0, .ref aY)]) hx hb dX1_dropOldest_42 hl (k := 0) rfl (by decide) (by decide) rfl (fun ls hl => ?_)
      refine lv_goto (tgt := 19) hx hb dX1_dropOldest_45 (by decide) ?_
      refine lv_iload_n hx hb dX1_dropOldest_19 rfl (lv_at hl 0 rfl) ?_
      refine lv_aload_n hx hb dX1_dropOldest_20 rfl (lv_at hl 2 rfl) ?_
      refine va_get (D := D) (ci := 1) (v := .ref aV) (C := RX1) (T := TX1) (N := 4) hx hb hts i_X1 hown hK.1 hP 0 rfl rfl 0 (by decide) (hts _ wd_110) (fun _ h9 => h9) rfl dX1_dropOldest_21 ?_
      refine va_alen (v := (6 : Int32)) hx hb hK.1 hP 1 2 rfl rfl rfl dX1_dropOldest_24 ?_
      refine lv_icmp_ge (tgt := 48) hx hb dX1_dropOldest_25 (by decide) (fun c5 => ?_) (fun c5 => ?_)
      · exact absurd c5 (by decide)
      · skip
        refine lv_aload_n hx hb dX1_dropOldest_28 rfl (lv_at hl 2 rfl) ?_
        refine va_get (D := D) (ci := 1) (v := .ref aV) (C := RX1) (T := TX1) (N := 4) hx hb hts i_X1 hown hK.1 hP 0 rfl rfl 0 (by decide) (hts _ wd_110) (fun _ h9 => h9) rfl dX1_dropOldest_29 ?_
        refine lv_iload_n hx hb dX1_dropOldest_32 rfl (lv_at hl 0 rfl) ?_
        refine lv_iconst hx hb dX1_dropOldest_33 kc_iconst_1 ?_
        refine lv_isub hx hb dX1_dropOldest_34 ?_
        refine lv_topi (fun t6 e7 => ?_)
        obtain rfl : t6 = (1 : Int32) := e7.trans (by decide)
        refine lv_aload_n hx hb dX1_dropOldest_35 rfl (lv_at hl 2 rfl) ?_
        refine va_get (D := D) (ci := 1) (v := .ref aV) (C := RX1) (T := TX1) (N := 4) hx hb hts i_X1 hown hK.1 hP 0 rfl rfl 0 (by decide) (hts _ wd_110) (fun _ h9 => h9) rfl dX1_dropOldest_36 ?_
        refine lv_iload_n hx hb dX1_dropOldest_39 rfl (lv_at hl 0 rfl) ?_
        refine va_aldq hx hb hK.1 hP 1 2 rfl rfl (inb_lit (by decide)) dX1_dropOldest_40 ?_
        refine lv_same (v' := .ref (kA 2).1) rfl ?_
        refine va_astq (r := (RX4, TX4, 3)) hx hb hK.1 hP hD hS 1 2 20 4 rfl rfl rfl rfl (inb_lit (by decide)) dX1_dropOldest_41 (fun H locs hP hD hS => ?_)
        have hP : va_P D vwCl (HBg cI cZ cS aY aV aU aR (va_up (va_up (hR kA) (0 : Int32).toNatClampNeg (some (kA 1).1)) (1 : Int32).toNatClampNeg (some (kA 2).1)) (6 : Int32) kf kA kV kQ kP) H := hP
        have hD : va_D A0 (HBg cI cZ cS aY aV aU aR (va_up (va_up (hR kA) (0 : Int32).toNatClampNeg (some (kA 1).1)) (1 : Int32).toNatClampNeg (some (kA 2).1)) (6 : Int32) kf kA kV kQ kP) := hD
        refine lv_iinc (v := (3 : Int32)) (lv' := [(2, .int (3 : Int32)), (1, .ref ((kA 0).1)), (0, .ref aY)]) hx hb dX1_dropOldest_42 hl (k := 0) rfl (by decide) (by decide) rfl (fun ls hl => ?_)
        refine lv_goto (tgt := 19) hx hb dX1_dropOldest_45 (by decide) ?_
        refine lv_iload_n hx hb dX1_dropOldest_19 rfl (lv_at hl 0 rfl) ?_
        refine lv_aload_n hx hb dX1_dropOldest_20 rfl (lv_at hl 2 rfl) ?_
        refine va_get (D := D) (ci := 1) (v := .ref aV) (C := RX1) (T := TX1) (N := 4) hx hb hts i_X1 hown hK.1 hP 0 rfl rfl 0 (by decide) (hts _ wd_110) (fun _ h9 => h9) rfl dX1_dropOldest_21 ?_
        refine va_alen (v := (6 : Int32)) hx hb hK.1 hP 1 2 rfl rfl rfl dX1_dropOldest_24 ?_
        refine lv_icmp_ge (tgt := 48) hx hb dX1_dropOldest_25 (by decide) (fun c8 => ?_) (fun c8 => ?_)
        · exact absurd c8 (by decide)
        · skip
          refine lv_aload_n hx hb dX1_dropOldest_28 rfl (lv_at hl 2 rfl) ?_
          refine va_get (D := D) (ci := 1) (v := .ref aV) (C := RX1) (T := TX1) (N := 4) hx hb hts i_X1 hown hK.1 hP 0 rfl rfl 0 (by decide) (hts _ wd_110) (fun _ h9 => h9) rfl dX1_dropOldest_29 ?_
          refine lv_iload_n hx hb dX1_dropOldest_32 rfl (lv_at hl 0 rfl) ?_
          refine lv_iconst hx hb dX1_dropOldest_33 kc_iconst_1 ?_
          refine lv_isub hx hb dX1_dropOldest_34 ?_
          refine lv_topi (fun t9 e10 => ?_)
          obtain rfl : t9 = (2 : Int32) := e10.trans (by decide)
          refine lv_aload_n hx hb dX1_dropOldest_35 rfl (lv_at hl 2 rfl) ?_
          refine va_get (D := D) (ci := 1) (v := .ref aV) (C := RX1) (T := TX1) (N := 4) hx hb hts i_X1 hown hK.1 hP 0 rfl rfl 0 (by decide) (hts _ wd_110) (fun _ h9 => h9) rfl dX1_dropOldest_36 ?_
          refine lv_iload_n hx hb dX1_dropOldest_39 rfl (lv_at hl 0 rfl) ?_
          refine va_aldq hx hb hK.1 hP 1 2 rfl rfl (inb_lit (by decide)) dX1_dropOldest_40 ?_
          refine lv_same (v' := .ref (kA 3).1) rfl ?_
          refine va_astq (r := (RX4, TX4, 3)) hx hb hK.1 hP hD hS 1 2 28 4 rfl rfl rfl rfl (inb_lit (by decide)) dX1_dropOldest_41 (fun H locs hP hD hS => ?_)
          have hP : va_P D vwCl (HBg cI cZ cS aY aV aU aR (va_up (va_up (va_up (hR kA) (0 : Int32).toNatClampNeg (some (kA 1).1)) (1 : Int32).toNatClampNeg (some (kA 2).1)) (2 : Int32).toNatClampNeg (some (kA 3).1)) (6 : Int32) kf kA kV kQ kP) H := hP
          have hD : va_D A0 (HBg cI cZ cS aY aV aU aR (va_up (va_up (va_up (hR kA) (0 : Int32).toNatClampNeg (some (kA 1).1)) (1 : Int32).toNatClampNeg (some (kA 2).1)) (2 : Int32).toNatClampNeg (some (kA 3).1)) (6 : Int32) kf kA kV kQ kP) := hD
          refine lv_iinc (v := (4 : Int32)) (lv' := [(2, .int (4 : Int32)), (1, .ref ((kA 0).1)), (0, .ref aY)]) hx hb dX1_dropOldest_42 hl (k := 0) rfl (by decide) (by decide) rfl (fun ls hl => ?_)
          refine lv_goto (tgt := 19) hx hb dX1_dropOldest_45 (by decide) ?_
          refine lv_iload_n hx hb dX1_dropOldest_19 rfl (lv_at hl 0 rfl) ?_
          refine lv_aload_n hx hb dX1_dropOldest_20 rfl (lv_at hl 2 rfl) ?_
          refine va_get (D := D) (ci := 1) (v := .ref aV) (C := RX1) (T := TX1) (N := 4) hx hb hts i_X1 hown hK.1 hP 0 rfl rfl 0 (by decide) (hts _ wd_110) (fun _ h9 => h9) rfl dX1_dropOldest_21 ?_
          refine va_alen (v := (6 : Int32)) hx hb hK.1 hP 1 2 rfl rfl rfl dX1_dropOldest_24 ?_
          refine lv_icmp_ge (tgt := 48) hx hb dX1_dropOldest_25 (by decide) (fun c11 => ?_) (fun c11 => ?_)
          · exact absurd c11 (by decide)
          · skip
            refine lv_aload_n hx hb dX1_dropOldest_28 rfl (lv_at hl 2 rfl) ?_
            refine va_get (D := D) (ci := 1) (v := .ref aV) (C := RX1) (T := TX1) (N := 4) hx hb hts i_X1 hown hK.1 hP 0 rfl rfl 0 (by decide) (hts _ wd_110) (fun _ h9 => h9) rfl dX1_dropOldest_29 ?_
            refine lv_iload_n hx hb dX1_dropOldest_32 rfl (lv_at hl 0 rfl) ?_
            refine lv_iconst hx hb dX1_dropOldest_33 kc_iconst_1 ?_
            refine lv_isub hx hb dX1_dropOldest_34 ?_
            refine lv_topi (fun t12 e13 => ?_)
            obtain rfl : t12 = (3 : Int32) := e13.trans (by decide)
            refine lv_aload_n hx hb dX1_dropOldest_35 rfl (lv_at hl 2 rfl) ?_
            refine va_get (D := D) (ci := 1) (v := .ref aV) (C := RX1) (T := TX1) (N := 4) hx hb hts i_X1 hown hK.1 hP 0 rfl rfl 0 (by decide) (hts _ wd_110) (fun _ h9 => h9) rfl dX1_dropOldest_36 ?_
            refine lv_iload_n hx hb dX1_dropOldest_39 rfl (lv_at hl 0 rfl) ?_
            refine va_aldq hx hb hK.1 hP 1 2 rfl rfl (inb_lit (by decide)) dX1_dropOldest_40 ?_
            refine lv_same (v' := .ref (kA 4).1) rfl ?_
            refine va_astq (r := (RX4, TX4, 3)) hx hb hK.1 hP hD hS 1 2 36 4 rfl rfl rfl rfl (inb_lit (by decide)) dX1_dropOldest_41 (fun H locs hP hD hS => ?_)
            have hP : va_P D vwCl (HBg cI cZ cS aY aV aU aR (va_up (va_up (va_up (va_up (hR kA) (0 : Int32).toNatClampNeg (some (kA 1).1)) (1 : Int32).toNatClampNeg (some (kA 2).1)) (2 : Int32).toNatClampNeg (some (kA 3).1)) (3 : Int32).toNatClampNeg (some (kA 4).1)) (6 : Int32) kf kA kV kQ kP) H := hP
            have hD : va_D A0 (HBg cI cZ cS aY aV aU aR (va_up (va_up (va_up (va_up (hR kA) (0 : Int32).toNatClampNeg (some (kA 1).1)) (1 : Int32).toNatClampNeg (some (kA 2).1)) (2 : Int32).toNatClampNeg (some (kA 3).1)) (3 : Int32).toNatClampNeg (some (kA 4).1)) (6 : Int32) kf kA kV kQ kP) := hD
            refine lv_iinc (v := (5 : Int32)) (lv' := [(2, .int (5 : Int32)), (1, .ref ((kA 0).1)), (0, .ref aY)]) hx hb dX1_dropOldest_42 hl (k := 0) rfl (by decide) (by decide) rfl (fun ls hl => ?_)
            refine lv_goto (tgt := 19) hx hb dX1_dropOldest_45 (by decide) ?_
            refine lv_iload_n hx hb dX1_dropOldest_19 rfl (lv_at hl 0 rfl) ?_
            refine lv_aload_n hx hb dX1_dropOldest_20 rfl (lv_at hl 2 rfl) ?_
            refine va_get (D := D) (ci := 1) (v := .ref aV) (C := RX1) (T := TX1) (N := 4) hx hb hts i_X1 hown hK.1 hP 0 rfl rfl 0 (by decide) (hts _ wd_110) (fun _ h9 => h9) rfl dX1_dropOldest_21 ?_
            refine va_alen (v := (6 : Int32)) hx hb hK.1 hP 1 2 rfl rfl rfl dX1_dropOldest_24 ?_
            refine lv_icmp_ge (tgt := 48) hx hb dX1_dropOldest_25 (by decide) (fun c14 => ?_) (fun c14 => ?_)
            · exact absurd c14 (by decide)
            · skip
              refine lv_aload_n hx hb dX1_dropOldest_28 rfl (lv_at hl 2 rfl) ?_
              refine va_get (D := D) (ci := 1) (v := .ref aV) (C := RX1) (T := TX1) (N := 4) hx hb hts i_X1 hown hK.1 hP 0 rfl rfl 0 (by decide) (hts _ wd_110) (fun _ h9 => h9) rfl dX1_dropOldest_29 ?_
              refine lv_iload_n hx hb dX1_dropOldest_32 rfl (lv_at hl 0 rfl) ?_
              refine lv_iconst hx hb dX1_dropOldest_33 kc_iconst_1 ?_
              refine lv_isub hx hb dX1_dropOldest_34 ?_
              refine lv_topi (fun t15 e16 => ?_)
              obtain rfl : t15 = (4 : Int32) := e16.trans (by decide)
              refine lv_aload_n hx hb dX1_dropOldest_35 rfl (lv_at hl 2 rfl) ?_
              refine va_get (D := D) (ci := 1) (v := .ref aV) (C := RX1) (T := TX1) (N := 4) hx hb hts i_X1 hown hK.1 hP 0 rfl rfl 0 (by decide) (hts _ wd_110) (fun _ h9 => h9) rfl dX1_dropOldest_36 ?_
              refine lv_iload_n hx hb dX1_dropOldest_39 rfl (lv_at hl 0 rfl) ?_
              refine va_aldq hx hb hK.1 hP 1 2 rfl rfl (inb_lit (by decide)) dX1_dropOldest_40 ?_
              refine lv_same (v' := .ref (kA 5).1) rfl ?_
              refine va_astq (r := (RX4, TX4, 3)) hx hb hK.1 hP hD hS 1 2 44 4 rfl rfl rfl rfl (inb_lit (by decide)) dX1_dropOldest_41 (fun H locs hP hD hS => ?_)
              have hP : va_P D vwCl (HBg cI cZ cS aY aV aU aR (va_up (va_up (va_up (va_up (va_up (hR kA) (0 : Int32).toNatClampNeg (some (kA 1).1)) (1 : Int32).toNatClampNeg (some (kA 2).1)) (2 : Int32).toNatClampNeg (some (kA 3).1)) (3 : Int32).toNatClampNeg (some (kA 4).1)) (4 : Int32).toNatClampNeg (some (kA 5).1)) (6 : Int32) kf kA kV kQ kP) H := hP
              have hD : va_D A0 (HBg cI cZ cS aY aV aU aR (va_up (va_up (va_up (va_up (va_up (hR kA) (0 : Int32).toNatClampNeg (some (kA 1).1)) (1 : Int32).toNatClampNeg (some (kA 2).1)) (2 : Int32).toNatClampNeg (some (kA 3).1)) (3 : Int32).toNatClampNeg (some (kA 4).1)) (4 : Int32).toNatClampNeg (some (kA 5).1)) (6 : Int32) kf kA kV kQ kP) := hD
              refine lv_iinc (v := (6 : Int32)) (lv' := [(2, .int (6 : Int32)), (1, .ref ((kA 0).1)), (0, .ref aY)]) hx hb dX1_dropOldest_42 hl (k := 0) rfl (by decide) (by decide) rfl (fun ls hl => ?_)
              refine lv_goto (tgt := 19) hx hb dX1_dropOldest_45 (by decide) ?_
              refine lv_iload_n hx hb dX1_dropOldest_19 rfl (lv_at hl 0 rfl) ?_
              refine lv_aload_n hx hb dX1_dropOldest_20 rfl (lv_at hl 2 rfl) ?_
              refine va_get (D := D) (ci := 1) (v := .ref aV) (C := RX1) (T := TX1) (N := 4) hx hb hts i_X1 hown hK.1 hP 0 rfl rfl 0 (by decide) (hts _ wd_110) (fun _ h9 => h9) rfl dX1_dropOldest_21 ?_
              refine va_alen (v := (6 : Int32)) hx hb hK.1 hP 1 2 rfl rfl rfl dX1_dropOldest_24 ?_
              refine lv_icmp_ge (tgt := 48) hx hb dX1_dropOldest_25 (by decide) (fun c17 => ?_) (fun c17 => ?_)
              · skip
                refine lv_aload_n hx hb dX1_dropOldest_48 rfl (lv_at hl 2 rfl) ?_
                refine va_get (D := D) (ci := 1) (v := .ref aV) (C := RX1) (T := TX1) (N := 4) hx hb hts i_X1 hown hK.1 hP 0 rfl rfl 0 (by decide) (hts _ wd_110) (fun _ h9 => h9) rfl dX1_dropOldest_49 ?_
                refine lv_aload_n hx hb dX1_dropOldest_52 rfl (lv_at hl 2 rfl) ?_
                refine va_get (D := D) (ci := 1) (v := .ref aV) (C := RX1) (T := TX1) (N := 4) hx hb hts i_X1 hown hK.1 hP 0 rfl rfl 0 (by decide) (hts _ wd_110) (fun _ h9 => h9) rfl dX1_dropOldest_53 ?_
                refine va_alen (v := (6 : Int32)) hx hb hK.1 hP 1 2 rfl rfl rfl dX1_dropOldest_56 ?_
                refine lv_iconst hx hb dX1_dropOldest_57 kc_iconst_1 ?_
                refine lv_isub hx hb dX1_dropOldest_58 ?_
                refine lv_topi (fun t18 e19 => ?_)
                obtain rfl : t18 = (5 : Int32) := e19.trans (by decide)
                refine lv_aload_n hx hb dX1_dropOldest_59 rfl (lv_at hl 1 rfl) ?_
                refine va_astq (r := (RX4, TX4, 3)) hx hb hK.1 hP hD hS 1 2 4 4 rfl rfl rfl rfl (inb_lit (by decide)) dX1_dropOldest_60 (fun H locs hP hD hS => ?_)
                have hP : va_P D vwCl (HBg cI cZ cS aY aV aU aR (va_up (va_up (va_up (va_up (va_up (va_up (hR kA) (0 : Int32).toNatClampNeg (some (kA 1).1)) (1 : Int32).toNatClampNeg (some (kA 2).1)) (2 : Int32).toNatClampNeg (some (kA 3).1)) (3 : Int32).toNatClampNeg (some (kA 4).1)) (4 : Int32).toNatClampNeg (some (kA 5).1)) (5 : Int32).toNatClampNeg (some (kA 0).1)) (6 : Int32) kf kA kV kQ kP) H := hP
                have hD : va_D A0 (HBg cI cZ cS aY aV aU aR (va_up (va_up (va_up (va_up (va_up (va_up (hR kA) (0 : Int32).toNatClampNeg (some (kA 1).1)) (1 : Int32).toNatClampNeg (some (kA 2).1)) (2 : Int32).toNatClampNeg (some (kA 3).1)) (3 : Int32).toNatClampNeg (some (kA 4).1)) (4 : Int32).toNatClampNeg (some (kA 5).1)) (5 : Int32).toNatClampNeg (some (kA 0).1)) (6 : Int32) kf kA kV kQ kP) := hD
                refine lv_aload_n hx hb dX1_dropOldest_61 rfl (lv_at hl 2 rfl) ?_
                refine lv_aload_n hx hb dX1_dropOldest_62 rfl (lv_at hl 2 rfl) ?_
                refine va_get (D := D) (ci := 1) (v := .ref aV) (C := RX1) (T := TX1) (N := 4) hx hb hts i_X1 hown hK.1 hP 0 rfl rfl 0 (by decide) (hts _ wd_110) (fun _ h9 => h9) rfl dX1_dropOldest_63 ?_
                refine va_alen (v := (6 : Int32)) hx hb hK.1 hP 1 2 rfl rfl rfl dX1_dropOldest_66 ?_
                refine lv_iconst hx hb dX1_dropOldest_67 kc_iconst_1 ?_
                refine lv_isub hx hb dX1_dropOldest_68 ?_
                refine lv_topi (fun t20 e21 => ?_)
                obtain rfl : t20 = (5 : Int32) := e21.trans (by decide)
                refine va_put (D := D) (ci := 1) (v := .int (5 : Int32)) (ty := .int) (C := RX1) (T := TX1) (N := 4) hx hb hts i_X1 tyX1 tyX1_ok nmX1 hown hK.1 hP hD hS 0 rfl rfl 3 (by decide) (hts _ wd_113) (fun _ h9 => h9) rfl (by decide +kernel) rfl rfl (Nat.le_of_ble_eq_true rfl) dX1_dropOldest_69 (fun H locs hP hD hS => ?_)
                have hP : va_P D vwCl (HBg cI cZ cS aY aV aU aR (va_up (va_up (va_up (va_up (va_up (va_up (hR kA) (0 : Int32).toNatClampNeg (some (kA 1).1)) (1 : Int32).toNatClampNeg (some (kA 2).1)) (2 : Int32).toNatClampNeg (some (kA 3).1)) (3 : Int32).toNatClampNeg (some (kA 4).1)) (4 : Int32).toNatClampNeg (some (kA 5).1)) (5 : Int32).toNatClampNeg (some (kA 0).1)) (5 : Int32) kf kA kV kQ kP) H := hP
                have hD : va_D A0 (HBg cI cZ cS aY aV aU aR (va_up (va_up (va_up (va_up (va_up (va_up (hR kA) (0 : Int32).toNatClampNeg (some (kA 1).1)) (1 : Int32).toNatClampNeg (some (kA 2).1)) (2 : Int32).toNatClampNeg (some (kA 3).1)) (3 : Int32).toNatClampNeg (some (kA 4).1)) (4 : Int32).toNatClampNeg (some (kA 5).1)) (5 : Int32).toNatClampNeg (some (kA 0).1)) (5 : Int32) kf kA kV kQ kP) := hD
                have hP := hP.req (g := hR (rotA kA)) 1 rfl (fun j hj => by rcases (show j = 0 ∨ j = 1 ∨ j = 2 ∨ j = 3 ∨ j = 4 ∨ j = 5 by omega) with rfl | rfl | rfl | rfl | rfl | rfl <;> rfl) (ws' := (HBg cI cZ cS aY aV aU aR (hR (rotA kA)) (5 : Int32) kf kA kV kQ kP)) rfl
                have hD := hD.alike (ws' := (HBg cI cZ cS aY aV aU aR (hR (rotA kA)) (5 : Int32) kf kA kV kQ kP)) rfl
                exact uretv2 hx hb hr hlocks (hP.sub (ws' := (HBg cI cZ cS aY aV aU aR (hR (rotA kA)) (5 : Int32) kf (rotA kA) (rotV kV) kQ kP)) [0, 1, 2, 3, 12, 13, 14, 15, 16, 17, 18, 19, 20, 21, 22, 23, 24, 25, 26, 27, 28, 29, 30, 31, 32, 33, 34, 35, 36, 37, 38, 39, 40, 41, 42, 43, 44, 45, 46, 47, 48, 49, 50, 51, 4, 5, 6, 7, 8, 9, 10, 11, 52, 53, 54, 55, 56, 57, 58, 59, 60, 61, 62, 63, 64, 65, 66, 67] rfl) (hD.sub (ws' := (HBg cI cZ cS aY aV aU aR (hR (rotA kA)) (5 : Int32) kf (rotA kA) (rotV kV) kQ kP)) [0, 1, 2, 3, 12, 13, 14, 15, 16, 17, 18, 19, 20, 21, 22, 23, 24, 25, 26, 27, 28, 29, 30, 31, 32, 33, 34, 35, 36, 37, 38, 39, 40, 41, 42, 43, 44, 45, 46, 47, 48, 49, 50, 51, 4, 5, 6, 7, 8, 9, 10, 11, 52, 53, 54, 55, 56, 57, 58, 59, 60, 61, 62, 63, 64, 65, 66, 67] (by decide +kernel) rfl) hS dX1_dropOldest_72
              · exact absurd c17 (by decide)
  · exact absurd c1 (by decide)
set_option maxHeartbeats 4000000 in
set_option maxRecDepth 100000 in
theorem K1_save_0 (l : Launch) (D : va_G) (cI cZ cS cJ : ClassId) (aS aL aW aB aF aZ aK aM : Nat) (sr : Int32) (wm : Int32) (wW : Nat → Int32) (bh : Int32) (bF : Nat → Int32) (bZ : Nat → Int32) (bK : Nat → Int32) (bM : Nat → Int32) (aY aV aU aR : Nat) (kf : Nat → Int32) (kA kQ : Nat → SA) (kV kP : Nat → SV) : Met l yX1_save wsX1_save rm1_save (uP D (gT cI cZ cS cJ) ((W4 cI aS aL aW aB aF aZ aK aM sr wm wW bh bF bZ bK bM) ++ (HBg cI cZ cS aY aV aU aR (hR kA) (0 : Int32) kf kA kV kQ kP)) [.ref aY, .ref aS]) (uQ2 D none (uA ((W4 cI aS aL aW aB aF aZ aK aM sr wm wW bh bF bZ bK bM) ++ (HBg cI cZ cS aY aV aU aR (hR kA) (0 : Int32) kf kA kV kQ kP))) ((W4 cI aS aL aW aB aF aZ aK aM sr wm wW bh bF bZ bK bM) ++ HBg cI cZ cS aY aV aU aR (hR kA) (1 : Int32) kf kA (va_up kV 0 (sr, wm, wW, bh, bF, bZ, bK, bM)) kQ kP)) 0 0 (uA ((W4 cI aS aL aW aB aF aZ aK aM sr wm wW bh bF bZ bK bM) ++ (HBg cI cZ cS aY aV aU aR (hR kA) (0 : Int32) kf kA kV kQ kP))) := by
  refine Met.ofW (cc := cX1_save) (maxL := 2) (ret := none) (by decide) rfl ?_
  intro p e s m args below meth c s₁ B hml hv
  obtain ⟨ha, hK, hP, hD0⟩ := hv
  have hx := B.exec
  have hb := B.bytes
  have hr := B.returns
  have hlocks := B.notSynchronized
  have hts : ∀ w ∈ lw_all, w.before args s = true := fun w h => atoms_spec (ws := wsX1_save) B.pre w (List.mem_cons_of_mem _ h)
  have hown : s.vm.findClass RX1 = some m.cls := findClass_of_methodNamed B.named
  have S : CallFix p m c cX1_save 2 s args lw_all RX1 := ⟨hx, hb, hml, hown, hts⟩
  have hD := hD0.own
  generalize uA ((W4 cI aS aL aW aB aF aZ aK aM sr wm wW bh bF bZ bK bM) ++ (HBg cI cZ cS aY aV aU aR (hR kA) (0 : Int32) kf kA kV kQ kP)) = A0 at hD ⊢
  have hS : va_S A0 s.heap s.heap [] := va_S.rf
  have hl := lv_entry ([.ref aY, .ref aS] : List Value) (n := 2) (Nat.le_of_ble_eq_true rfl)
  refine W.eq (g2 := F0 m 0 ((lg_sl ([.ref aY, .ref aS] : List Value) ++ List.replicate (2 - (lg_sl ([.ref aY, .ref aS] : List Value)).length) Slot.unset).toArray) []) (by rw [ha]; exact lg_entry_eq _ _ _) ?_
  generalize (lg_sl ([.ref aY, .ref aS] : List Value) ++ List.replicate (2 - (lg_sl ([.ref aY, .ref aS] : List Value)).length) Slot.unset).toArray = ls at hl ⊢
  have hl : lv_has ls 2 [(0, .ref aY), (1, .ref aS)] := hl
  show cW p l e wsX1_save rm1_save s m args below meth c D none A0 ((W4 cI aS aL aW aB aF aZ aK aM sr wm wW bh bF bZ bK bM) ++ HBg cI cZ cS aY aV aU aR (hR kA) (1 : Int32) kf kA (va_up kV 0 (sr, wm, wW, bh, bF, bZ, bK, bM)) kQ kP) s.heap [] (F0 m 0 ls [])
  refine lv_aload_n hx hb dX1_save_0 rfl (lv_at hl 0 rfl) ?_
  refine va_get (D := D) (ci := 1) (v := .int (0 : Int32)) (C := RX1) (T := TX1) (N := 4) hx hb hts i_X1 hown hK.1 hP 8 rfl rfl 3 (by decide) (hts _ wd_113) (fun _ h9 => h9) rfl dX1_save_1 ?_
  refine lv_aload_n hx hb dX1_save_4 rfl (lv_at hl 0 rfl) ?_
  refine va_get (D := D) (ci := 1) (v := .ref aV) (C := RX1) (T := TX1) (N := 4) hx hb hts i_X1 hown hK.1 hP 8 rfl rfl 0 (by decide) (hts _ wd_110) (fun _ h9 => h9) rfl dX1_save_5 ?_
  refine va_alen (v := (6 : Int32)) hx hb hK.1 hP 9 2 rfl rfl rfl dX1_save_8 ?_
  refine lv_icmp_lt (tgt := 16) hx hb dX1_save_9 (by decide) (fun c1 => ?_) (fun c1 => ?_)
  · skip
    refine lv_aload_n hx hb dX1_save_16 rfl (lv_at hl 0 rfl) ?_
    refine va_get (D := D) (ci := 1) (v := .int (0 : Int32)) (C := RX1) (T := TX1) (N := 4) hx hb hts i_X1 hown hK.1 hP 8 rfl rfl 3 (by decide) (hts _ wd_113) (fun _ h9 => h9) rfl dX1_save_17 ?_
    refine lv_if_lt (tgt := 58) hx hb dX1_save_20 (by decide) (fun c2 => ?_) (fun c2 => ?_)
    · exact absurd c2 (by decide)
    · skip
      refine lv_aload_n hx hb dX1_save_23 rfl (lv_at hl 0 rfl) ?_
      refine va_get (D := D) (ci := 1) (v := .int (0 : Int32)) (C := RX1) (T := TX1) (N := 4) hx hb hts i_X1 hown hK.1 hP 8 rfl rfl 3 (by decide) (hts _ wd_113) (fun _ h9 => h9) rfl dX1_save_24 ?_
      refine lv_aload_n hx hb dX1_save_27 rfl (lv_at hl 0 rfl) ?_
      refine va_get (D := D) (ci := 1) (v := .ref aV) (C := RX1) (T := TX1) (N := 4) hx hb hts i_X1 hown hK.1 hP 8 rfl rfl 0 (by decide) (hts _ wd_110) (fun _ h9 => h9) rfl dX1_save_28 ?_
      refine va_alen (v := (6 : Int32)) hx hb hK.1 hP 9 2 rfl rfl rfl dX1_save_31 ?_
      refine lv_icmp_ge (tgt := 58) hx hb dX1_save_32 (by decide) (fun c3 => ?_) (fun c3 => ?_)
      · exact absurd c3 (by decide)
      · skip
        refine lv_aload_n hx hb dX1_save_35 rfl (lv_at hl 1 rfl) ?_
        refine lv_aload_n hx hb dX1_save_36 rfl (lv_at hl 0 rfl) ?_
        refine va_get (D := D) (ci := 1) (v := .ref aV) (C := RX1) (T := TX1) (N := 4) hx hb hts i_X1 hown hK.1 hP 8 rfl rfl 0 (by decide) (hts _ wd_110) (fun _ h9 => h9) rfl dX1_save_37 ?_
        refine lv_aload_n hx hb dX1_save_40 rfl (lv_at hl 0 rfl) ?_
        refine va_get (D := D) (ci := 1) (v := .int (0 : Int32)) (C := RX1) (T := TX1) (N := 4) hx hb hts i_X1 hown hK.1 hP 8 rfl rfl 3 (by decide) (hts _ wd_113) (fun _ h9 => h9) rfl dX1_save_41 ?_
        refine va_aldq hx hb hK.1 hP 9 2 rfl rfl (inb_lit (by decide)) dX1_save_44 ?_
        refine lv_same (v' := .ref (kA 0).1) rfl ?_
        refine ucallv (ws' := ((W4 cI aS aL aW aB aF aZ aK aM sr wm wW bh bF bZ bK bM) ++ (HBg cI cZ cS aY aV aU aR (hR kA) (0 : Int32) kf kA (va_up kV 0 (sr, wm, wW, bh, bF, bZ, bK, bM)) kQ kP))) (va_runS (As := [.ref aS, .ref ((kA 0).1)]) (rest := []) S (K1_copyState l D cI cZ cS cJ ((kA 0).1) ((kA 0).2.1) ((kA 0).2.2.1) ((kA 0).2.2.2.1) ((kA 0).2.2.2.2.1) ((kA 0).2.2.2.2.2.1) ((kA 0).2.2.2.2.2.2.1) ((kA 0).2.2.2.2.2.2.2) aS aL aW aB aF aZ aK aM ((kV 0).1) ((kV 0).2.1) ((kV 0).2.2.1) ((kV 0).2.2.2.1) ((kV 0).2.2.2.2.1) ((kV 0).2.2.2.2.2.1) ((kV 0).2.2.2.2.2.2.1) ((kV 0).2.2.2.2.2.2.2) sr wm wW bh bF bZ bK bM sr wm wW bh bF bZ bK bM (cp_eq _ _ _ _ _ _ _ _ _ _ _ _ _ _ _ _)) (va_cwS 2 hts (gd_S wd_284 wd_285 wd_26 wd_286) rfl rfl rfl hdn1_copyState ⟨Nat.le_of_ble_eq_true rfl, Nat.le_of_ble_eq_true rfl⟩) (uPreS hK (hP.sub (ws' := (W44 cI ((kA 0).1) ((kA 0).2.1) ((kA 0).2.2.1) ((kA 0).2.2.2.1) ((kA 0).2.2.2.2.1) ((kA 0).2.2.2.2.2.1) ((kA 0).2.2.2.2.2.2.1) ((kA 0).2.2.2.2.2.2.2) aS aL aW aB aF aZ aK aM ((kV 0).1) ((kV 0).2.1) ((kV 0).2.2.1) ((kV 0).2.2.2.1) ((kV 0).2.2.2.2.1) ((kV 0).2.2.2.2.2.1) ((kV 0).2.2.2.2.2.2.1) ((kV 0).2.2.2.2.2.2.2) sr wm wW bh bF bZ bK bM)) [12, 13, 14, 15, 16, 17, 18, 19, 0, 1, 2, 3, 4, 5, 6, 7] rfl) (hD.sub (ws' := (W44 cI ((kA 0).1) ((kA 0).2.1) ((kA 0).2.2.1) ((kA 0).2.2.2.1) ((kA 0).2.2.2.2.1) ((kA 0).2.2.2.2.2.1) ((kA 0).2.2.2.2.2.2.1) ((kA 0).2.2.2.2.2.2.2) aS aL aW aB aF aZ aK aM ((kV 0).1) ((kV 0).2.1) ((kV 0).2.2.1) ((kV 0).2.2.2.1) ((kV 0).2.2.2.2.1) ((kV 0).2.2.2.2.2.1) ((kV 0).2.2.2.2.2.2.1) ((kV 0).2.2.2.2.2.2.2) sr wm wW bh bF bZ bK bM)) [12, 13, 14, 15, 16, 17, 18, 19, 0, 1, 2, 3, 4, 5, 6, 7] (by decide) rfl)) rfl rfl hl.1 rfl (lv_room (Nat.le_of_ble_eq_true rfl)) dX1_save_45 ⟨Nat.zero_le _, Nat.zero_le _⟩) hS hP hD [12, 13, 14, 15, 16, 17, 18, 19, 0, 1, 2, 3, 4, 5, 6, 7] rfl rfl rfl rfl (fun H locs hP hD hS => ?_)
        refine lv_aload_n hx hb dX1_save_48 rfl (lv_at hl 0 rfl) ?_
        refine lv_dup hx hb dX1_save_49 rfl ?_
        refine va_get (D := D) (ci := 1) (v := .int (0 : Int32)) (C := RX1) (T := TX1) (N := 4) hx hb hts i_X1 hown hK.1 hP 8 rfl rfl 3 (by decide) (hts _ wd_113) (fun _ h9 => h9) rfl dX1_save_50 ?_
        refine lv_iconst hx hb dX1_save_53 kc_iconst_1 ?_
        refine lv_iadd hx hb dX1_save_54 ?_
        refine lv_topi (fun t4 e5 => ?_)
        obtain rfl : t4 = (1 : Int32) := e5.trans (by decide)
        refine va_put (D := D) (ci := 1) (v := .int (1 : Int32)) (ty := .int) (C := RX1) (T := TX1) (N := 4) hx hb hts i_X1 tyX1 tyX1_ok nmX1 hown hK.1 hP hD hS 8 rfl rfl 3 (by decide) (hts _ wd_113) (fun _ h9 => h9) rfl (by decide +kernel) rfl rfl (Nat.le_of_ble_eq_true rfl) dX1_save_55 (fun H locs hP hD hS => ?_)
        have hP : va_P D vwCl ((W4 cI aS aL aW aB aF aZ aK aM sr wm wW bh bF bZ bK bM) ++ (HBg cI cZ cS aY aV aU aR (hR kA) (1 : Int32) kf kA (va_up kV 0 (sr, wm, wW, bh, bF, bZ, bK, bM)) kQ kP)) H := hP
        have hD : va_D A0 ((W4 cI aS aL aW aB aF aZ aK aM sr wm wW bh bF bZ bK bM) ++ (HBg cI cZ cS aY aV aU aR (hR kA) (1 : Int32) kf kA (va_up kV 0 (sr, wm, wW, bh, bF, bZ, bK, bM)) kQ kP)) := hD
        exact uretv2 hx hb hr hlocks hP hD hS dX1_save_58
  · exact absurd c1 (by decide)
set_option maxHeartbeats 4000000 in
set_option maxRecDepth 100000 in
theorem K1_save_1 (l : Launch) (D : va_G) (cI cZ cS cJ : ClassId) (aS aL aW aB aF aZ aK aM : Nat) (sr : Int32) (wm : Int32) (wW : Nat → Int32) (bh : Int32) (bF : Nat → Int32) (bZ : Nat → Int32) (bK : Nat → Int32) (bM : Nat → Int32) (aY aV aU aR : Nat) (kf : Nat → Int32) (kA kQ : Nat → SA) (kV kP : Nat → SV) : Met l yX1_save wsX1_save rm1_save (uP D (gT cI cZ cS cJ) ((W4 cI aS aL aW aB aF aZ aK aM sr wm wW bh bF bZ bK bM) ++ (HBg cI cZ cS aY aV aU aR (hR kA) (1 : Int32) kf kA kV kQ kP)) [.ref aY, .ref aS]) (uQ2 D none (uA ((W4 cI aS aL aW aB aF aZ aK aM sr wm wW bh bF bZ bK bM) ++ (HBg cI cZ cS aY aV aU aR (hR kA) (1 : Int32) kf kA kV kQ kP))) ((W4 cI aS aL aW aB aF aZ aK aM sr wm wW bh bF bZ bK bM) ++ HBg cI cZ cS aY aV aU aR (hR kA) (2 : Int32) kf kA (va_up kV 1 (sr, wm, wW, bh, bF, bZ, bK, bM)) kQ kP)) 0 0 (uA ((W4 cI aS aL aW aB aF aZ aK aM sr wm wW bh bF bZ bK bM) ++ (HBg cI cZ cS aY aV aU aR (hR kA) (1 : Int32) kf kA kV kQ kP))) := by
  refine Met.ofW (cc := cX1_save) (maxL := 2) (ret := none) (by decide) rfl ?_
  intro p e s m args below meth c s₁ B hml hv
  obtain ⟨ha, hK, hP, hD0⟩ := hv
  have hx := B.exec
  have hb := B.bytes
  have hr := B.returns
  have hlocks := B.notSynchronized
  have hts : ∀ w ∈ lw_all, w.before args s = true := fun w h => atoms_spec (ws := wsX1_save) B.pre w (List.mem_cons_of_mem _ h)
  have hown : s.vm.findClass RX1 = some m.cls := findClass_of_methodNamed B.named
  have S : CallFix p m c cX1_save 2 s args lw_all RX1 := ⟨hx, hb, hml, hown, hts⟩
  have hD := hD0.own
  generalize uA ((W4 cI aS aL aW aB aF aZ aK aM sr wm wW bh bF bZ bK bM) ++ (HBg cI cZ cS aY aV aU aR (hR kA) (1 : Int32) kf kA kV kQ kP)) = A0 at hD ⊢
  have hS : va_S A0 s.heap s.heap [] := va_S.rf
  have hl := lv_entry ([.ref aY, .ref aS] : List Value) (n := 2) (Nat.le_of_ble_eq_true rfl)
  refine W.eq (g2 := F0 m 0 ((lg_sl ([.ref aY, .ref aS] : List Value) ++ List.replicate (2 - (lg_sl ([.ref aY, .ref aS] : List Value)).length) Slot.unset).toArray) []) (by rw [ha]; exact lg_entry_eq _ _ _) ?_
  generalize (lg_sl ([.ref aY, .ref aS] : List Value) ++ List.replicate (2 - (lg_sl ([.ref aY, .ref aS] : List Value)).length) Slot.unset).toArray = ls at hl ⊢
  have hl : lv_has ls 2 [(0, .ref aY), (1, .ref aS)] := hl
  show cW p l e wsX1_save rm1_save s m args below meth c D none A0 ((W4 cI aS aL aW aB aF aZ aK aM sr wm wW bh bF bZ bK bM) ++ HBg cI cZ cS aY aV aU aR (hR kA) (2 : Int32) kf kA (va_up kV 1 (sr, wm, wW, bh, bF, bZ, bK, bM)) kQ kP) s.heap [] (F0 m 0 ls [])
  refine lv_aload_n hx hb dX1_save_0 rfl (lv_at hl 0 rfl) ?_
  refine va_get (D := D) (ci := 1) (v := .int (1 : Int32)) (C := RX1) (T := TX1) (N := 4) hx hb hts i_X1 hown hK.1 hP 8 rfl rfl 3 (by decide) (hts _ wd_113) (fun _ h9 => h9) rfl dX1_save_1 ?_
  refine lv_aload_n hx hb dX1_save_4 rfl (lv_at hl 0 rfl) ?_
  refine va_get (D := D) (ci := 1) (v := .ref aV) (C := RX1) (T := TX1) (N := 4) hx hb hts i_X1 hown hK.1 hP 8 rfl rfl 0 (by decide) (hts _ wd_110) (fun _ h9 => h9) rfl dX1_save_5 ?_
  refine va_alen (v := (6 : Int32)) hx hb hK.1 hP 9 2 rfl rfl rfl dX1_save_8 ?_
  refine lv_icmp_lt (tgt := 16) hx hb dX1_save_9 (by decide) (fun c1 => ?_) (fun c1 => ?_)
  · skip
    refine lv_aload_n hx hb dX1_save_16 rfl (lv_at hl 0 rfl) ?_
    refine va_get (D := D) (ci := 1) (v := .int (1 : Int32)) (C := RX1) (T := TX1) (N := 4) hx hb hts i_X1 hown hK.1 hP 8 rfl rfl 3 (by decide) (hts _ wd_113) (fun _ h9 => h9) rfl dX1_save_17 ?_
    refine lv_if_lt (tgt := 58) hx hb dX1_save_20 (by decide) (fun c2 => ?_) (fun c2 => ?_)
    · exact absurd c2 (by decide)
    · skip
      refine lv_aload_n hx hb dX1_save_23 rfl (lv_at hl 0 rfl) ?_
      refine va_get (D := D) (ci := 1) (v := .int (1 : Int32)) (C := RX1) (T := TX1) (N := 4) hx hb hts i_X1 hown hK.1 hP 8 rfl rfl 3 (by decide) (hts _ wd_113) (fun _ h9 => h9) rfl dX1_save_24 ?_
      refine lv_aload_n hx hb dX1_save_27 rfl (lv_at hl 0 rfl) ?_
      refine va_get (D := D) (ci := 1) (v := .ref aV) (C := RX1) (T := TX1) (N := 4) hx hb hts i_X1 hown hK.1 hP 8 rfl rfl 0 (by decide) (hts _ wd_110) (fun _ h9 => h9) rfl dX1_save_28 ?_
      refine va_alen (v := (6 : Int32)) hx hb hK.1 hP 9 2 rfl rfl rfl dX1_save_31 ?_
      refine lv_icmp_ge (tgt := 58) hx hb dX1_save_32 (by decide) (fun c3 => ?_) (fun c3 => ?_)
      · exact absurd c3 (by decide)
      · skip
        refine lv_aload_n hx hb dX1_save_35 rfl (lv_at hl 1 rfl) ?_
        refine lv_aload_n hx hb dX1_save_36 rfl (lv_at hl 0 rfl) ?_
        refine va_get (D := D) (ci := 1) (v := .ref aV) (C := RX1) (T := TX1) (N := 4) hx hb hts i_X1 hown hK.1 hP 8 rfl rfl 0 (by decide) (hts _ wd_110) (fun _ h9 => h9) rfl dX1_save_37 ?_
        refine lv_aload_n hx hb dX1_save_40 rfl (lv_at hl 0 rfl) ?_
        refine va_get (D := D) (ci := 1) (v := .int (1 : Int32)) (C := RX1) (T := TX1) (N := 4) hx hb hts i_X1 hown hK.1 hP 8 rfl rfl 3 (by decide) (hts _ wd_113) (fun _ h9 => h9) rfl dX1_save_41 ?_
        refine va_aldq hx hb hK.1 hP 9 2 rfl rfl (inb_lit (by decide)) dX1_save_44 ?_
        refine lv_same (v' := .ref (kA 1).1) rfl ?_
        refine ucallv (ws' := ((W4 cI aS aL aW aB aF aZ aK aM sr wm wW bh bF bZ bK bM) ++ (HBg cI cZ cS aY aV aU aR (hR kA) (1 : Int32) kf kA (va_up kV 1 (sr, wm, wW, bh, bF, bZ, bK, bM)) kQ kP))) (va_runS (As := [.ref aS, .ref ((kA 1).1)]) (rest := []) S (K1_copyState l D cI cZ cS cJ ((kA 1).1) ((kA 1).2.1) ((kA 1).2.2.1) ((kA 1).2.2.2.1) ((kA 1).2.2.2.2.1) ((kA 1).2.2.2.2.2.1) ((kA 1).2.2.2.2.2.2.1) ((kA 1).2.2.2.2.2.2.2) aS aL aW aB aF aZ aK aM ((kV 1).1) ((kV 1).2.1) ((kV 1).2.2.1) ((kV 1).2.2.2.1) ((kV 1).2.2.2.2.1) ((kV 1).2.2.2.2.2.1) ((kV 1).2.2.2.2.2.2.1) ((kV 1).2.2.2.2.2.2.2) sr wm wW bh bF bZ bK bM sr wm wW bh bF bZ bK bM (cp_eq _ _ _ _ _ _ _ _ _ _ _ _ _ _ _ _)) (va_cwS 2 hts (gd_S wd_284 wd_285 wd_26 wd_286) rfl rfl rfl hdn1_copyState ⟨Nat.le_of_ble_eq_true rfl, Nat.le_of_ble_eq_true rfl⟩) (uPreS hK (hP.sub (ws' := (W44 cI ((kA 1).1) ((kA 1).2.1) ((kA 1).2.2.1) ((kA 1).2.2.2.1) ((kA 1).2.2.2.2.1) ((kA 1).2.2.2.2.2.1) ((kA 1).2.2.2.2.2.2.1) ((kA 1).2.2.2.2.2.2.2) aS aL aW aB aF aZ aK aM ((kV 1).1) ((kV 1).2.1) ((kV 1).2.2.1) ((kV 1).2.2.2.1) ((kV 1).2.2.2.2.1) ((kV 1).2.2.2.2.2.1) ((kV 1).2.2.2.2.2.2.1) ((kV 1).2.2.2.2.2.2.2) sr wm wW bh bF bZ bK bM)) [20, 21, 22, 23, 24, 25, 26, 27, 0, 1, 2, 3, 4, 5, 6, 7] rfl) (hD.sub (ws' := (W44 cI ((kA 1).1) ((kA 1).2.1) ((kA 1).2.2.1) ((kA 1).2.2.2.1) ((kA 1).2.2.2.2.1) ((kA 1).2.2.2.2.2.1) ((kA 1).2.2.2.2.2.2.1) ((kA 1).2.2.2.2.2.2.2) aS aL aW aB aF aZ aK aM ((kV 1).1) ((kV 1).2.1) ((kV 1).2.2.1) ((kV 1).2.2.2.1) ((kV 1).2.2.2.2.1) ((kV 1).2.2.2.2.2.1) ((kV 1).2.2.2.2.2.2.1) ((kV 1).2.2.2.2.2.2.2) sr wm wW bh bF bZ bK bM)) [20, 21, 22, 23, 24, 25, 26, 27, 0, 1, 2, 3, 4, 5, 6, 7] (by decide) rfl)) rfl rfl hl.1 rfl (lv_room (Nat.le_of_ble_eq_true rfl)) dX1_save_45 ⟨Nat.zero_le _, Nat.zero_le _⟩) hS hP hD [20, 21, 22, 23, 24, 25, 26, 27, 0, 1, 2, 3, 4, 5, 6, 7] rfl rfl rfl rfl (fun H locs hP hD hS => ?_)
        refine lv_aload_n hx hb dX1_save_48 rfl (lv_at hl 0 rfl) ?_
        refine lv_dup hx hb dX1_save_49 rfl ?_
        refine va_get (D := D) (ci := 1) (v := .int (1 : Int32)) (C := RX1) (T := TX1) (N := 4) hx hb hts i_X1 hown hK.1 hP 8 rfl rfl 3 (by decide) (hts _ wd_113) (fun _ h9 => h9) rfl dX1_save_50 ?_
        refine lv_iconst hx hb dX1_save_53 kc_iconst_1 ?_
        refine lv_iadd hx hb dX1_save_54 ?_
        refine lv_topi (fun t4 e5 => ?_)
        obtain rfl : t4 = (2 : Int32) := e5.trans (by decide)
        refine va_put (D := D) (ci := 1) (v := .int (2 : Int32)) (ty := .int) (C := RX1) (T := TX1) (N := 4) hx hb hts i_X1 tyX1 tyX1_ok nmX1 hown hK.1 hP hD hS 8 rfl rfl 3 (by decide) (hts _ wd_113) (fun _ h9 => h9) rfl (by decide +kernel) rfl rfl (Nat.le_of_ble_eq_true rfl) dX1_save_55 (fun H locs hP hD hS => ?_)
        have hP : va_P D vwCl ((W4 cI aS aL aW aB aF aZ aK aM sr wm wW bh bF bZ bK bM) ++ (HBg cI cZ cS aY aV aU aR (hR kA) (2 : Int32) kf kA (va_up kV 1 (sr, wm, wW, bh, bF, bZ, bK, bM)) kQ kP)) H := hP
        have hD : va_D A0 ((W4 cI aS aL aW aB aF aZ aK aM sr wm wW bh bF bZ bK bM) ++ (HBg cI cZ cS aY aV aU aR (hR kA) (2 : Int32) kf kA (va_up kV 1 (sr, wm, wW, bh, bF, bZ, bK, bM)) kQ kP)) := hD
        exact uretv2 hx hb hr hlocks hP hD hS dX1_save_58
  · exact absurd c1 (by decide)
set_option maxHeartbeats 4000000 in
set_option maxRecDepth 100000 in
theorem K1_save_2 (l : Launch) (D : va_G) (cI cZ cS cJ : ClassId) (aS aL aW aB aF aZ aK aM : Nat) (sr : Int32) (wm : Int32) (wW : Nat → Int32) (bh : Int32) (bF : Nat → Int32) (bZ : Nat → Int32) (bK : Nat → Int32) (bM : Nat → Int32) (aY aV aU aR : Nat) (kf : Nat → Int32) (kA kQ : Nat → SA) (kV kP : Nat → SV) : Met l yX1_save wsX1_save rm1_save (uP D (gT cI cZ cS cJ) ((W4 cI aS aL aW aB aF aZ aK aM sr wm wW bh bF bZ bK bM) ++ (HBg cI cZ cS aY aV aU aR (hR kA) (2 : Int32) kf kA kV kQ kP)) [.ref aY, .ref aS]) (uQ2 D none (uA ((W4 cI aS aL aW aB aF aZ aK aM sr wm wW bh bF bZ bK bM) ++ (HBg cI cZ cS aY aV aU aR (hR kA) (2 : Int32) kf kA kV kQ kP))) ((W4 cI aS aL aW aB aF aZ aK aM sr wm wW bh bF bZ bK bM) ++ HBg cI cZ cS aY aV aU aR (hR kA) (3 : Int32) kf kA (va_up kV 2 (sr, wm, wW, bh, bF, bZ, bK, bM)) kQ kP)) 0 0 (uA ((W4 cI aS aL aW aB aF aZ aK aM sr wm wW bh bF bZ bK bM) ++ (HBg cI cZ cS aY aV aU aR (hR kA) (2 : Int32) kf kA kV kQ kP))) := by
  refine Met.ofW (cc := cX1_save) (maxL := 2) (ret := none) (by decide) rfl ?_
  intro p e s m args below meth c s₁ B hml hv
  obtain ⟨ha, hK, hP, hD0⟩ := hv
  have hx := B.exec
  have hb := B.bytes
  have hr := B.returns
  have hlocks := B.notSynchronized
  have hts : ∀ w ∈ lw_all, w.before args s = true := fun w h => atoms_spec (ws := wsX1_save) B.pre w (List.mem_cons_of_mem _ h)
  have hown : s.vm.findClass RX1 = some m.cls := findClass_of_methodNamed B.named
  have S : CallFix p m c cX1_save 2 s args lw_all RX1 := ⟨hx, hb, hml, hown, hts⟩
  have hD := hD0.own
  generalize uA ((W4 cI aS aL aW aB aF aZ aK aM sr wm wW bh bF bZ bK bM) ++ (HBg cI cZ cS aY aV aU aR (hR kA) (2 : Int32) kf kA kV kQ kP)) = A0 at hD ⊢
  have hS : va_S A0 s.heap s.heap [] := va_S.rf
  have hl := lv_entry ([.ref aY, .ref aS] : List Value) (n := 2) (Nat.le_of_ble_eq_true rfl)
  refine W.eq (g2 := F0 m 0 ((lg_sl ([.ref aY, .ref aS] : List Value) ++ List.replicate (2 - (lg_sl ([.ref aY, .ref aS] : List Value)).length) Slot.unset).toArray) []) (by rw [ha]; exact lg_entry_eq _ _ _) ?_
  generalize (lg_sl ([.ref aY, .ref aS] : List Value) ++ List.replicate (2 - (lg_sl ([.ref aY, .ref aS] : List Value)).length) Slot.unset).toArray = ls at hl ⊢
  have hl : lv_has ls 2 [(0, .ref aY), (1, .ref aS)] := hl
  show cW p l e wsX1_save rm1_save s m args below meth c D none A0 ((W4 cI aS aL aW aB aF aZ aK aM sr wm wW bh bF bZ bK bM) ++ HBg cI cZ cS aY aV aU aR (hR kA) (3 : Int32) kf kA (va_up kV 2 (sr, wm, wW, bh, bF, bZ, bK, bM)) kQ kP) s.heap [] (F0 m 0 ls [])
  refine lv_aload_n hx hb dX1_save_0 rfl (lv_at hl 0 rfl) ?_
  refine va_get (D := D) (ci := 1) (v := .int (2 : Int32)) (C := RX1) (T := TX1) (N := 4) hx hb hts i_X1 hown hK.1 hP 8 rfl rfl 3 (by decide) (hts _ wd_113) (fun _ h9 => h9) rfl dX1_save_1 ?_
  refine lv_aload_n hx hb dX1_save_4 rfl (lv_at hl 0 rfl) ?_
  refine va_get (D := D) (ci := 1) (v := .ref aV) (C := RX1) (T := TX1) (N := 4) hx hb hts i_X1 hown hK.1 hP 8 rfl rfl 0 (by decide) (hts _ wd_110) (fun _ h9 => h9) rfl dX1_save_5 ?_
  refine va_alen (v := (6 : Int32)) hx hb hK.1 hP 9 2 rfl rfl rfl dX1_save_8 ?_
  refine lv_icmp_lt (tgt := 16) hx hb dX1_save_9 (by decide) (fun c1 => ?_) (fun c1 => ?_)
  · skip
    refine lv_aload_n hx hb dX1_save_16 rfl (lv_at hl 0 rfl) ?_
    refine va_get (D := D) (ci := 1) (v := .int (2 : Int32)) (C := RX1) (T := TX1) (N := 4) hx hb hts i_X1 hown hK.1 hP 8 rfl rfl 3 (by decide) (hts _ wd_113) (fun _ h9 => h9) rfl dX1_save_17 ?_
    refine lv_if_lt (tgt := 58) hx hb dX1_save_20 (by decide) (fun c2 => ?_) (fun c2 => ?_)
    · exact absurd c2 (by decide)
    · skip
      refine lv_aload_n hx hb dX1_save_23 rfl (lv_at hl 0 rfl) ?_
      refine va_get (D := D) (ci := 1) (v := .int (2 : Int32)) (C := RX1) (T := TX1) (N := 4) hx hb hts i_X1 hown hK.1 hP 8 rfl rfl 3 (by decide) (hts _ wd_113) (fun _ h9 => h9) rfl dX1_save_24 ?_
      refine lv_aload_n hx hb dX1_save_27 rfl (lv_at hl 0 rfl) ?_
      refine va_get (D := D) (ci := 1) (v := .ref aV) (C := RX1) (T := TX1) (N := 4) hx hb hts i_X1 hown hK.1 hP 8 rfl rfl 0 (by decide) (hts _ wd_110) (fun _ h9 => h9) rfl dX1_save_28 ?_
      refine va_alen (v := (6 : Int32)) hx hb hK.1 hP 9 2 rfl rfl rfl dX1_save_31 ?_
      refine lv_icmp_ge (tgt := 58) hx hb dX1_save_32 (by decide) (fun c3 => ?_) (fun c3 => ?_)
      · exact absurd c3 (by decide)
      · skip
        refine lv_aload_n hx hb dX1_save_35 rfl (lv_at hl 1 rfl) ?_
        refine lv_aload_n hx hb dX1_save_36 rfl (lv_at hl 0 rfl) ?_
        refine va_get (D := D) (ci := 1) (v := .ref aV) (C := RX1) (T := TX1) (N := 4) hx hb hts i_X1 hown hK.1 hP 8 rfl rfl 0 (by decide) (hts _ wd_110) (fun _ h9 => h9) rfl dX1_save_37 ?_
        refine lv_aload_n hx hb dX1_save_40 rfl (lv_at hl 0 rfl) ?_
        refine va_get (D := D) (ci := 1) (v := .int (2 : Int32)) (C := RX1) (T := TX1) (N := 4) hx hb hts i_X1 hown hK.1 hP 8 rfl rfl 3 (by decide) (hts _ wd_113) (fun _ h9 => h9) rfl dX1_save_41 ?_
        refine va_aldq hx hb hK.1 hP 9 2 rfl rfl (inb_lit (by decide)) dX1_save_44 ?_
        refine lv_same (v' := .ref (kA 2).1) rfl ?_
        refine ucallv (ws' := ((W4 cI aS aL aW aB aF aZ aK aM sr wm wW bh bF bZ bK bM) ++ (HBg cI cZ cS aY aV aU aR (hR kA) (2 : Int32) kf kA (va_up kV 2 (sr, wm, wW, bh, bF, bZ, bK, bM)) kQ kP))) (va_runS (As := [.ref aS, .ref ((kA 2).1)]) (rest := []) S (K1_copyState l D cI cZ cS cJ ((kA 2).1) ((kA 2).2.1) ((kA 2).2.2.1) ((kA 2).2.2.2.1) ((kA 2).2.2.2.2.1) ((kA 2).2.2.2.2.2.1) ((kA 2).2.2.2.2.2.2.1) ((kA 2).2.2.2.2.2.2.2) aS aL aW aB aF aZ aK aM ((kV 2).1) ((kV 2).2.1) ((kV 2).2.2.1) ((kV 2).2.2.2.1) ((kV 2).2.2.2.2.1) ((kV 2).2.2.2.2.2.1) ((kV 2).2.2.2.2.2.2.1) ((kV 2).2.2.2.2.2.2.2) sr wm wW bh bF bZ bK bM sr wm wW bh bF bZ bK bM (cp_eq _ _ _ _ _ _ _ _ _ _ _ _ _ _ _ _)) (va_cwS 2 hts (gd_S wd_284 wd_285 wd_26 wd_286) rfl rfl rfl hdn1_copyState ⟨Nat.le_of_ble_eq_true rfl, Nat.le_of_ble_eq_true rfl⟩) (uPreS hK (hP.sub (ws' := (W44 cI ((kA 2).1) ((kA 2).2.1) ((kA 2).2.2.1) ((kA 2).2.2.2.1) ((kA 2).2.2.2.2.1) ((kA 2).2.2.2.2.2.1) ((kA 2).2.2.2.2.2.2.1) ((kA 2).2.2.2.2.2.2.2) aS aL aW aB aF aZ aK aM ((kV 2).1) ((kV 2).2.1) ((kV 2).2.2.1) ((kV 2).2.2.2.1) ((kV 2).2.2.2.2.1) ((kV 2).2.2.2.2.2.1) ((kV 2).2.2.2.2.2.2.1) ((kV 2).2.2.2.2.2.2.2) sr wm wW bh bF bZ bK bM)) [28, 29, 30, 31, 32, 33, 34, 35, 0, 1, 2, 3, 4, 5, 6, 7] rfl) (hD.sub (ws' := (W44 cI ((kA 2).1) ((kA 2).2.1) ((kA 2).2.2.1) ((kA 2).2.2.2.1) ((kA 2).2.2.2.2.1) ((kA 2).2.2.2.2.2.1) ((kA 2).2.2.2.2.2.2.1) ((kA 2).2.2.2.2.2.2.2) aS aL aW aB aF aZ aK aM ((kV 2).1) ((kV 2).2.1) ((kV 2).2.2.1) ((kV 2).2.2.2.1) ((kV 2).2.2.2.2.1) ((kV 2).2.2.2.2.2.1) ((kV 2).2.2.2.2.2.2.1) ((kV 2).2.2.2.2.2.2.2) sr wm wW bh bF bZ bK bM)) [28, 29, 30, 31, 32, 33, 34, 35, 0, 1, 2, 3, 4, 5, 6, 7] (by decide) rfl)) rfl rfl hl.1 rfl (lv_room (Nat.le_of_ble_eq_true rfl)) dX1_save_45 ⟨Nat.zero_le _, Nat.zero_le _⟩) hS hP hD [28, 29, 30, 31, 32, 33, 34, 35, 0, 1, 2, 3, 4, 5, 6, 7] rfl rfl rfl rfl (fun H locs hP hD hS => ?_)
        refine lv_aload_n hx hb dX1_save_48 rfl (lv_at hl 0 rfl) ?_
        refine lv_dup hx hb dX1_save_49 rfl ?_
        refine va_get (D := D) (ci := 1) (v := .int (2 : Int32)) (C := RX1) (T := TX1) (N := 4) hx hb hts i_X1 hown hK.1 hP 8 rfl rfl 3 (by decide) (hts _ wd_113) (fun _ h9 => h9) rfl dX1_save_50 ?_
        refine lv_iconst hx hb dX1_save_53 kc_iconst_1 ?_
        refine lv_iadd hx hb dX1_save_54 ?_
        refine lv_topi (fun t4 e5 => ?_)
        obtain rfl : t4 = (3 : Int32) := e5.trans (by decide)
        refine va_put (D := D) (ci := 1) (v := .int (3 : Int32)) (ty := .int) (C := RX1) (T := TX1) (N := 4) hx hb hts i_X1 tyX1 tyX1_ok nmX1 hown hK.1 hP hD hS 8 rfl rfl 3 (by decide) (hts _ wd_113) (fun _ h9 => h9) rfl (by decide +kernel) rfl rfl (Nat.le_of_ble_eq_true rfl) dX1_save_55 (fun H locs hP hD hS => ?_)
        have hP : va_P D vwCl ((W4 cI aS aL aW aB aF aZ aK aM sr wm wW bh bF bZ bK bM) ++ (HBg cI cZ cS aY aV aU aR (hR kA) (3 : Int32) kf kA (va_up kV 2 (sr, wm, wW, bh, bF, bZ, bK, bM)) kQ kP)) H := hP
        have hD : va_D A0 ((W4 cI aS aL aW aB aF aZ aK aM sr wm wW bh bF bZ bK bM) ++ (HBg cI cZ cS aY aV aU aR (hR kA) (3 : Int32) kf kA (va_up kV 2 (sr, wm, wW, bh, bF, bZ, bK, bM)) kQ kP)) := hD
        exact uretv2 hx hb hr hlocks hP hD hS dX1_save_58
  · exact absurd c1 (by decide)
set_option maxHeartbeats 4000000 in
set_option maxRecDepth 100000 in
theorem K1_save_3 (l : Launch) (D : va_G) (cI cZ cS cJ : ClassId) (aS aL aW aB aF aZ aK aM : Nat) (sr : Int32) (wm : Int32) (wW : Nat → Int32) (bh : Int32) (bF : Nat → Int32) (bZ : Nat → Int32) (bK : Nat → Int32) (bM : Nat → Int32) (aY aV aU aR : Nat) (kf : Nat → Int32) (kA kQ : Nat → SA) (kV kP : Nat → SV) : Met l yX1_save wsX1_save rm1_save (uP D (gT cI cZ cS cJ) ((W4 cI aS aL aW aB aF aZ aK aM sr wm wW bh bF bZ bK bM) ++ (HBg cI cZ cS aY aV aU aR (hR kA) (3 : Int32) kf kA kV kQ kP)) [.ref aY, .ref aS]) (uQ2 D none (uA ((W4 cI aS aL aW aB aF aZ aK aM sr wm wW bh bF bZ bK bM) ++ (HBg cI cZ cS aY aV aU aR (hR kA) (3 : Int32) kf kA kV kQ kP))) ((W4 cI aS aL aW aB aF aZ aK aM sr wm wW bh bF bZ bK bM) ++ HBg cI cZ cS aY aV aU aR (hR kA) (4 : Int32) kf kA (va_up kV 3 (sr, wm, wW, bh, bF, bZ, bK, bM)) kQ kP)) 0 0 (uA ((W4 cI aS aL aW aB aF aZ aK aM sr wm wW bh bF bZ bK bM) ++ (HBg cI cZ cS aY aV aU aR (hR kA) (3 : Int32) kf kA kV kQ kP))) := by
  refine Met.ofW (cc := cX1_save) (maxL := 2) (ret := none) (by decide) rfl ?_
  intro p e s m args below meth c s₁ B hml hv
  obtain ⟨ha, hK, hP, hD0⟩ := hv
  have hx := B.exec
  have hb := B.bytes
  have hr := B.returns
  have hlocks := B.notSynchronized
  have hts : ∀ w ∈ lw_all, w.before args s = true := fun w h => atoms_spec (ws := wsX1_save) B.pre w (List.mem_cons_of_mem _ h)
  have hown : s.vm.findClass RX1 = some m.cls := findClass_of_methodNamed B.named
  have S : CallFix p m c cX1_save 2 s args lw_all RX1 := ⟨hx, hb, hml, hown, hts⟩
  have hD := hD0.own
  generalize uA ((W4 cI aS aL aW aB aF aZ aK aM sr wm wW bh bF bZ bK bM) ++ (HBg cI cZ cS aY aV aU aR (hR kA) (3 : Int32) kf kA kV kQ kP)) = A0 at hD ⊢
  have hS : va_S A0 s.heap s.heap [] := va_S.rf
  have hl := lv_entry ([.ref aY, .ref aS] : List Value) (n := 2) (Nat.le_of_ble_eq_true rfl)
  refine W.eq (g2 := F0 m 0 ((lg_sl ([.ref aY, .ref aS] : List Value) ++ List.replicate (2 - (lg_sl ([.ref aY, .ref aS] : List Value)).length) Slot.unset).toArray) []) (by rw [ha]; exact lg_entry_eq _ _ _) ?_
  generalize (lg_sl ([.ref aY, .ref aS] : List Value) ++ List.replicate (2 - (lg_sl ([.ref aY, .ref aS] : List Value)).length) Slot.unset).toArray = ls at hl ⊢
  have hl : lv_has ls 2 [(0, .ref aY), (1, .ref aS)] := hl
  show cW p l e wsX1_save rm1_save s m args below meth c D none A0 ((W4 cI aS aL aW aB aF aZ aK aM sr wm wW bh bF bZ bK bM) ++ HBg cI cZ cS aY aV aU aR (hR kA) (4 : Int32) kf kA (va_up kV 3 (sr, wm, wW, bh, bF, bZ, bK, bM)) kQ kP) s.heap [] (F0 m 0 ls [])
  refine lv_aload_n hx hb dX1_save_0 rfl (lv_at hl 0 rfl) ?_
  refine va_get (D := D) (ci := 1) (v := .int (3 : Int32)) (C := RX1) (T := TX1) (N := 4) hx hb hts i_X1 hown hK.1 hP 8 rfl rfl 3 (by decide) (hts _ wd_113) (fun _ h9 => h9) rfl dX1_save_1 ?_
  refine lv_aload_n hx hb dX1_save_4 rfl (lv_at hl 0 rfl) ?_
  refine va_get (D := D) (ci := 1) (v := .ref aV) (C := RX1) (T := TX1) (N := 4) hx hb hts i_X1 hown hK.1 hP 8 rfl rfl 0 (by decide) (hts _ wd_110) (fun _ h9 => h9) rfl dX1_save_5 ?_
  refine va_alen (v := (6 : Int32)) hx hb hK.1 hP 9 2 rfl rfl rfl dX1_save_8 ?_
  refine lv_icmp_lt (tgt := 16) hx hb dX1_save_9 (by decide) (fun c1 => ?_) (fun c1 => ?_)
  · skip
    refine lv_aload_n hx hb dX1_save_16 rfl (lv_at hl 0 rfl) ?_
    refine va_get (D := D) (ci := 1) (v := .int (3 : Int32)) (C := RX1) (T := TX1) (N := 4) hx hb hts i_X1 hown hK.1 hP 8 rfl rfl 3 (by decide) (hts _ wd_113) (fun _ h9 => h9) rfl dX1_save_17 ?_
    refine lv_if_lt (tgt := 58) hx hb dX1_save_20 (by decide) (fun c2 => ?_) (fun c2 => ?_)
    · exact absurd c2 (by decide)
    · skip
      refine lv_aload_n hx hb dX1_save_23 rfl (lv_at hl 0 rfl) ?_
      refine va_get (D := D) (ci := 1) (v := .int (3 : Int32)) (C := RX1) (T := TX1) (N := 4) hx hb hts i_X1 hown hK.1 hP 8 rfl rfl 3 (by decide) (hts _ wd_113) (fun _ h9 => h9) rfl dX1_save_24 ?_
      refine lv_aload_n hx hb dX1_save_27 rfl (lv_at hl 0 rfl) ?_
      refine va_get (D := D) (ci := 1) (v := .ref aV) (C := RX1) (T := TX1) (N := 4) hx hb hts i_X1 hown hK.1 hP 8 rfl rfl 0 (by decide) (hts _ wd_110) (fun _ h9 => h9) rfl dX1_save_28 ?_
      refine va_alen (v := (6 : Int32)) hx hb hK.1 hP 9 2 rfl rfl rfl dX1_save_31 ?_
      refine lv_icmp_ge (tgt := 58) hx hb dX1_save_32 (by decide) (fun c3 => ?_) (fun c3 => ?_)
      · exact absurd c3 (by decide)
      · skip
        refine lv_aload_n hx hb dX1_save_35 rfl (lv_at hl 1 rfl) ?_
        refine lv_aload_n hx hb dX1_save_36 rfl (lv_at hl 0 rfl) ?_
        refine va_get (D := D) (ci := 1) (v := .ref aV) (C := RX1) (T := TX1) (N := 4) hx hb hts i_X1 hown hK.1 hP 8 rfl rfl 0 (by decide) (hts _ wd_110) (fun _ h9 => h9) rfl dX1_save_37 ?_
        refine lv_aload_n hx hb dX1_save_40 rfl (lv_at hl 0 rfl) ?_
        refine va_get (D := D) (ci := 1) (v := .int (3 : Int32)) (C := RX1) (T := TX1) (N := 4) hx hb hts i_X1 hown hK.1 hP 8 rfl rfl 3 (by decide) (hts _ wd_113) (fun _ h9 => h9) rfl dX1_save_41 ?_
        refine va_aldq hx hb hK.1 hP 9 2 rfl rfl (inb_lit (by decide)) dX1_save_44 ?_
        refine lv_same (v' := .ref (kA 3).1) rfl ?_
        refine ucallv (ws' := ((W4 cI aS aL aW aB aF aZ aK aM sr wm wW bh bF bZ bK bM) ++ (HBg cI cZ cS aY aV aU aR (hR kA) (3 : Int32) kf kA (va_up kV 3 (sr, wm, wW, bh, bF, bZ, bK, bM)) kQ kP))) (va_runS (As := [.ref aS, .ref ((kA 3).1)]) (rest := []) S (K1_copyState l D cI cZ cS cJ ((kA 3).1) ((kA 3).2.1) ((kA 3).2.2.1) ((kA 3).2.2.2.1) ((kA 3).2.2.2.2.1) ((kA 3).2.2.2.2.2.1) ((kA 3).2.2.2.2.2.2.1) ((kA 3).2.2.2.2.2.2.2) aS aL aW aB aF aZ aK aM ((kV 3).1) ((kV 3).2.1) ((kV 3).2.2.1) ((kV 3).2.2.2.1) ((kV 3).2.2.2.2.1) ((kV 3).2.2.2.2.2.1) ((kV 3).2.2.2.2.2.2.1) ((kV 3).2.2.2.2.2.2.2) sr wm wW bh bF bZ bK bM sr wm wW bh bF bZ bK bM (cp_eq _ _ _ _ _ _ _ _ _ _ _ _ _ _ _ _)) (va_cwS 2 hts (gd_S wd_284 wd_285 wd_26 wd_286) rfl rfl rfl hdn1_copyState ⟨Nat.le_of_ble_eq_true rfl, Nat.le_of_ble_eq_true rfl⟩) (uPreS hK (hP.sub (ws' := (W44 cI ((kA 3).1) ((kA 3).2.1) ((kA 3).2.2.1) ((kA 3).2.2.2.1) ((kA 3).2.2.2.2.1) ((kA 3).2.2.2.2.2.1) ((kA 3).2.2.2.2.2.2.1) ((kA 3).2.2.2.2.2.2.2) aS aL aW aB aF aZ aK aM ((kV 3).1) ((kV 3).2.1) ((kV 3).2.2.1) ((kV 3).2.2.2.1) ((kV 3).2.2.2.2.1) ((kV 3).2.2.2.2.2.1) ((kV 3).2.2.2.2.2.2.1) ((kV 3).2.2.2.2.2.2.2) sr wm wW bh bF bZ bK bM)) [36, 37, 38, 39, 40, 41, 42, 43, 0, 1, 2, 3, 4, 5, 6, 7] rfl) (hD.sub (ws' := (W44 cI ((kA 3).1) ((kA 3).2.1) ((kA 3).2.2.1) ((kA 3).2.2.2.1) ((kA 3).2.2.2.2.1) ((kA 3).2.2.2.2.2.1) ((kA 3).2.2.2.2.2.2.1) ((kA 3).2.2.2.2.2.2.2) aS aL aW aB aF aZ aK aM ((kV 3).1) ((kV 3).2.1) ((kV 3).2.2.1) ((kV 3).2.2.2.1) ((kV 3).2.2.2.2.1) ((kV 3).2.2.2.2.2.1) ((kV 3).2.2.2.2.2.2.1) ((kV 3).2.2.2.2.2.2.2) sr wm wW bh bF bZ bK bM)) [36, 37, 38, 39, 40, 41, 42, 43, 0, 1, 2, 3, 4, 5, 6, 7] (by decide) rfl)) rfl rfl hl.1 rfl (lv_room (Nat.le_of_ble_eq_true rfl)) dX1_save_45 ⟨Nat.zero_le _, Nat.zero_le _⟩) hS hP hD [36, 37, 38, 39, 40, 41, 42, 43, 0, 1, 2, 3, 4, 5, 6, 7] rfl rfl rfl rfl (fun H locs hP hD hS => ?_)
        refine lv_aload_n hx hb dX1_save_48 rfl (lv_at hl 0 rfl) ?_
        refine lv_dup hx hb dX1_save_49 rfl ?_
        refine va_get (D := D) (ci := 1) (v := .int (3 : Int32)) (C := RX1) (T := TX1) (N := 4) hx hb hts i_X1 hown hK.1 hP 8 rfl rfl 3 (by decide) (hts _ wd_113) (fun _ h9 => h9) rfl dX1_save_50 ?_
        refine lv_iconst hx hb dX1_save_53 kc_iconst_1 ?_
        refine lv_iadd hx hb dX1_save_54 ?_
        refine lv_topi (fun t4 e5 => ?_)
        obtain rfl : t4 = (4 : Int32) := e5.trans (by decide)
        refine va_put (D := D) (ci := 1) (v := .int (4 : Int32)) (ty := .int) (C := RX1) (T := TX1) (N := 4) hx hb hts i_X1 tyX1 tyX1_ok nmX1 hown hK.1 hP hD hS 8 rfl rfl 3 (by decide) (hts _ wd_113) (fun _ h9 => h9) rfl (by decide +kernel) rfl rfl (Nat.le_of_ble_eq_true rfl) dX1_save_55 (fun H locs hP hD hS => ?_)
        have hP : va_P D vwCl ((W4 cI aS aL aW aB aF aZ aK aM sr wm wW bh bF bZ bK bM) ++ (HBg cI cZ cS aY aV aU aR (hR kA) (4 : Int32) kf kA (va_up kV 3 (sr, wm, wW, bh, bF, bZ, bK, bM)) kQ kP)) H := hP
        have hD : va_D A0 ((W4 cI aS aL aW aB aF aZ aK aM sr wm wW bh bF bZ bK bM) ++ (HBg cI cZ cS aY aV aU aR (hR kA) (4 : Int32) kf kA (va_up kV 3 (sr, wm, wW, bh, bF, bZ, bK, bM)) kQ kP)) := hD
        exact uretv2 hx hb hr hlocks hP hD hS dX1_save_58
  · exact absurd c1 (by decide)
set_option maxHeartbeats 4000000 in
set_option maxRecDepth 100000 in
theorem K1_save_4 (l : Launch) (D : va_G) (cI cZ cS cJ : ClassId) (aS aL aW aB aF aZ aK aM : Nat) (sr : Int32) (wm : Int32) (wW : Nat → Int32) (bh : Int32) (bF : Nat → Int32) (bZ : Nat → Int32) (bK : Nat → Int32) (bM : Nat → Int32) (aY aV aU aR : Nat) (kf : Nat → Int32) (kA kQ : Nat → SA) (kV kP : Nat → SV) : Met l yX1_save wsX1_save rm1_save (uP D (gT cI cZ cS cJ) ((W4 cI aS aL aW aB aF aZ aK aM sr wm wW bh bF bZ bK bM) ++ (HBg cI cZ cS aY aV aU aR (hR kA) (4 : Int32) kf kA kV kQ kP)) [.ref aY, .ref aS]) (uQ2 D none (uA ((W4 cI aS aL aW aB aF aZ aK aM sr wm wW bh bF bZ bK bM) ++ (HBg cI cZ cS aY aV aU aR (hR kA) (4 : Int32) kf kA kV kQ kP))) ((W4 cI aS aL aW aB aF aZ aK aM sr wm wW bh bF bZ bK bM) ++ HBg cI cZ cS aY aV aU aR (hR kA) (5 : Int32) kf kA (va_up kV 4 (sr, wm, wW, bh, bF, bZ, bK, bM)) kQ kP)) 0 0 (uA ((W4 cI aS aL aW aB aF aZ aK aM sr wm wW bh bF bZ bK bM) ++ (HBg cI cZ cS aY aV aU aR (hR kA) (4 : Int32) kf kA kV kQ kP))) := by
  refine Met.ofW (cc := cX1_save) (maxL := 2) (ret := none) (by decide) rfl ?_
  intro p e s m args below meth c s₁ B hml hv
  obtain ⟨ha, hK, hP, hD0⟩ := hv
  have hx := B.exec
  have hb := B.bytes
  have hr := B.returns
  have hlocks := B.notSynchronized
  have hts : ∀ w ∈ lw_all, w.before args s = true := fun w h => atoms_spec (ws := wsX1_save) B.pre w (List.mem_cons_of_mem _ h)
  have hown : s.vm.findClass RX1 = some m.cls := findClass_of_methodNamed B.named
  have S : CallFix p m c cX1_save 2 s args lw_all RX1 := ⟨hx, hb, hml, hown, hts⟩
  have hD := hD0.own
  generalize uA ((W4 cI aS aL aW aB aF aZ aK aM sr wm wW bh bF bZ bK bM) ++ (HBg cI cZ cS aY aV aU aR (hR kA) (4 : Int32) kf kA kV kQ kP)) = A0 at hD ⊢
  have hS : va_S A0 s.heap s.heap [] := va_S.rf
  have hl := lv_entry ([.ref aY, .ref aS] : List Value) (n := 2) (Nat.le_of_ble_eq_true rfl)
  refine W.eq (g2 := F0 m 0 ((lg_sl ([.ref aY, .ref aS] : List Value) ++ List.replicate (2 - (lg_sl ([.ref aY, .ref aS] : List Value)).length) Slot.unset).toArray) []) (by rw [ha]; exact lg_entry_eq _ _ _) ?_
  generalize (lg_sl ([.ref aY, .ref aS] : List Value) ++ List.replicate (2 - (lg_sl ([.ref aY, .ref aS] : List Value)).length) Slot.unset).toArray = ls at hl ⊢
  have hl : lv_has ls 2 [(0, .ref aY), (1, .ref aS)] := hl
  show cW p l e wsX1_save rm1_save s m args below meth c D none A0 ((W4 cI aS aL aW aB aF aZ aK aM sr wm wW bh bF bZ bK bM) ++ HBg cI cZ cS aY aV aU aR (hR kA) (5 : Int32) kf kA (va_up kV 4 (sr, wm, wW, bh, bF, bZ, bK, bM)) kQ kP) s.heap [] (F0 m 0 ls [])
  refine lv_aload_n hx hb dX1_save_0 rfl (lv_at hl 0 rfl) ?_
  refine va_get (D := D) (ci := 1) (v := .int (4 : Int32)) (C := RX1) (T := TX1) (N := 4) hx hb hts i_X1 hown hK.1 hP 8 rfl rfl 3 (by decide) (hts _ wd_113) (fun _ h9 => h9) rfl dX1_save_1 ?_
  refine lv_aload_n hx hb dX1_save_4 rfl (lv_at hl 0 rfl) ?_
  refine va_get (D := D) (ci := 1) (v := .ref aV) (C := RX1) (T := TX1) (N := 4) hx hb hts i_X1 hown hK.1 hP 8 rfl rfl 0 (by decide) (hts _ wd_110) (fun _ h9 => h9) rfl dX1_save_5 ?_
  refine va_alen (v := (6 : Int32)) hx hb hK.1 hP 9 2 rfl rfl rfl dX1_save_8 ?_
  refine lv_icmp_lt (tgt := 16) hx hb dX1_save_9 (by decide) (fun c1 => ?_) (fun c1 => ?_)
  · skip
    refine lv_aload_n hx hb dX1_save_16 rfl (lv_at hl 0 rfl) ?_
    refine va_get (D := D) (ci := 1) (v := .int (4 : Int32)) (C := RX1) (T := TX1) (N := 4) hx hb hts i_X1 hown hK.1 hP 8 rfl rfl 3 (by decide) (hts _ wd_113) (fun _ h9 => h9) rfl dX1_save_17 ?_
    refine lv_if_lt (tgt := 58) hx hb dX1_save_20 (by decide) (fun c2 => ?_) (fun c2 => ?_)
    · exact absurd c2 (by decide)
    · skip
      refine lv_aload_n hx hb dX1_save_23 rfl (lv_at hl 0 rfl) ?_
      refine va_get (D := D) (ci := 1) (v := .int (4 : Int32)) (C := RX1) (T := TX1) (N := 4) hx hb hts i_X1 hown hK.1 hP 8 rfl rfl 3 (by decide) (hts _ wd_113) (fun _ h9 => h9) rfl dX1_save_24 ?_
      refine lv_aload_n hx hb dX1_save_27 rfl (lv_at hl 0 rfl) ?_
      refine va_get (D := D) (ci := 1) (v := .ref aV) (C := RX1) (T := TX1) (N := 4) hx hb hts i_X1 hown hK.1 hP 8 rfl rfl 0 (by decide) (hts _ wd_110) (fun _ h9 => h9) rfl dX1_save_28 ?_
      refine va_alen (v := (6 : Int32)) hx hb hK.1 hP 9 2 rfl rfl rfl dX1_save_31 ?_
      refine lv_icmp_ge (tgt := 58) hx hb dX1_save_32 (by decide) (fun c3 => ?_) (fun c3 => ?_)
      · exact absurd c3 (by decide)
      · skip
        refine lv_aload_n hx hb dX1_save_35 rfl (lv_at hl 1 rfl) ?_
        refine lv_aload_n hx hb dX1_save_36 rfl (lv_at hl 0 rfl) ?_
        refine va_get (D := D) (ci := 1) (v := .ref aV) (C := RX1) (T := TX1) (N := 4) hx hb hts i_X1 hown hK.1 hP 8 rfl rfl 0 (by decide) (hts _ wd_110) (fun _ h9 => h9) rfl dX1_save_37 ?_
        refine lv_aload_n hx hb dX1_save_40 rfl (lv_at hl 0 rfl) ?_
        refine va_get (D := D) (ci := 1) (v := .int (4 : Int32)) (C := RX1) (T := TX1) (N := 4) hx hb hts i_X1 hown hK.1 hP 8 rfl rfl 3 (by decide) (hts _ wd_113) (fun _ h9 => h9) rfl dX1_save_41 ?_
        refine va_aldq hx hb hK.1 hP 9 2 rfl rfl (inb_lit (by decide)) dX1_save_44 ?_
        refine lv_same (v' := .ref (kA 4).1) rfl ?_
        refine ucallv (ws' := ((W4 cI aS aL aW aB aF aZ aK aM sr wm wW bh bF bZ bK bM) ++ (HBg cI cZ cS aY aV aU aR (hR kA) (4 : Int32) kf kA (va_up kV 4 (sr, wm, wW, bh, bF, bZ, bK, bM)) kQ kP))) (va_runS (As := [.ref aS, .ref ((kA 4).1)]) (rest := []) S (K1_copyState l D cI cZ cS cJ ((kA 4).1) ((kA 4).2.1) ((kA 4).2.2.1) ((kA 4).2.2.2.1) ((kA 4).2.2.2.2.1) ((kA 4).2.2.2.2.2.1) ((kA 4).2.2.2.2.2.2.1) ((kA 4).2.2.2.2.2.2.2) aS aL aW aB aF aZ aK aM ((kV 4).1) ((kV 4).2.1) ((kV 4).2.2.1) ((kV 4).2.2.2.1) ((kV 4).2.2.2.2.1) ((kV 4).2.2.2.2.2.1) ((kV 4).2.2.2.2.2.2.1) ((kV 4).2.2.2.2.2.2.2) sr wm wW bh bF bZ bK bM sr wm wW bh bF bZ bK bM (cp_eq _ _ _ _ _ _ _ _ _ _ _ _ _ _ _ _)) (va_cwS 2 hts (gd_S wd_284 wd_285 wd_26 wd_286) rfl rfl rfl hdn1_copyState ⟨Nat.le_of_ble_eq_true rfl, Nat.le_of_ble_eq_true rfl⟩) (uPreS hK (hP.sub (ws' := (W44 cI ((kA 4).1) ((kA 4).2.1) ((kA 4).2.2.1) ((kA 4).2.2.2.1) ((kA 4).2.2.2.2.1) ((kA 4).2.2.2.2.2.1) ((kA 4).2.2.2.2.2.2.1) ((kA 4).2.2.2.2.2.2.2) aS aL aW aB aF aZ aK aM ((kV 4).1) ((kV 4).2.1) ((kV 4).2.2.1) ((kV 4).2.2.2.1) ((kV 4).2.2.2.2.1) ((kV 4).2.2.2.2.2.1) ((kV 4).2.2.2.2.2.2.1) ((kV 4).2.2.2.2.2.2.2) sr wm wW bh bF bZ bK bM)) [44, 45, 46, 47, 48, 49, 50, 51, 0, 1, 2, 3, 4, 5, 6, 7] rfl) (hD.sub (ws' := (W44 cI ((kA 4).1) ((kA 4).2.1) ((kA 4).2.2.1) ((kA 4).2.2.2.1) ((kA 4).2.2.2.2.1) ((kA 4).2.2.2.2.2.1) ((kA 4).2.2.2.2.2.2.1) ((kA 4).2.2.2.2.2.2.2) aS aL aW aB aF aZ aK aM ((kV 4).1) ((kV 4).2.1) ((kV 4).2.2.1) ((kV 4).2.2.2.1) ((kV 4).2.2.2.2.1) ((kV 4).2.2.2.2.2.1) ((kV 4).2.2.2.2.2.2.1) ((kV 4).2.2.2.2.2.2.2) sr wm wW bh bF bZ bK bM)) [44, 45, 46, 47, 48, 49, 50, 51, 0, 1, 2, 3, 4, 5, 6, 7] (by decide) rfl)) rfl rfl hl.1 rfl (lv_room (Nat.le_of_ble_eq_true rfl)) dX1_save_45 ⟨Nat.zero_le _, Nat.zero_le _⟩) hS hP hD [44, 45, 46, 47, 48, 49, 50, 51, 0, 1, 2, 3, 4, 5, 6, 7] rfl rfl rfl rfl (fun H locs hP hD hS => ?_)
        refine lv_aload_n hx hb dX1_save_48 rfl (lv_at hl 0 rfl) ?_
        refine lv_dup hx hb dX1_save_49 rfl ?_
        refine va_get (D := D) (ci := 1) (v := .int (4 : Int32)) (C := RX1) (T := TX1) (N := 4) hx hb hts i_X1 hown hK.1 hP 8 rfl rfl 3 (by decide) (hts _ wd_113) (fun _ h9 => h9) rfl dX1_save_50 ?_
        refine lv_iconst hx hb dX1_save_53 kc_iconst_1 ?_
        refine lv_iadd hx hb dX1_save_54 ?_
        refine lv_topi (fun t4 e5 => ?_)
        obtain rfl : t4 = (5 : Int32) := e5.trans (by decide)
        refine va_put (D := D) (ci := 1) (v := .int (5 : Int32)) (ty := .int) (C := RX1) (T := TX1) (N := 4) hx hb hts i_X1 tyX1 tyX1_ok nmX1 hown hK.1 hP hD hS 8 rfl rfl 3 (by decide) (hts _ wd_113) (fun _ h9 => h9) rfl (by decide +kernel) rfl rfl (Nat.le_of_ble_eq_true rfl) dX1_save_55 (fun H locs hP hD hS => ?_)
        have hP : va_P D vwCl ((W4 cI aS aL aW aB aF aZ aK aM sr wm wW bh bF bZ bK bM) ++ (HBg cI cZ cS aY aV aU aR (hR kA) (5 : Int32) kf kA (va_up kV 4 (sr, wm, wW, bh, bF, bZ, bK, bM)) kQ kP)) H := hP
        have hD : va_D A0 ((W4 cI aS aL aW aB aF aZ aK aM sr wm wW bh bF bZ bK bM) ++ (HBg cI cZ cS aY aV aU aR (hR kA) (5 : Int32) kf kA (va_up kV 4 (sr, wm, wW, bh, bF, bZ, bK, bM)) kQ kP)) := hD
        exact uretv2 hx hb hr hlocks hP hD hS dX1_save_58
  · exact absurd c1 (by decide)
set_option maxHeartbeats 4000000 in
set_option maxRecDepth 100000 in
theorem K1_save_5 (l : Launch) (D : va_G) (cI cZ cS cJ : ClassId) (aS aL aW aB aF aZ aK aM : Nat) (sr : Int32) (wm : Int32) (wW : Nat → Int32) (bh : Int32) (bF : Nat → Int32) (bZ : Nat → Int32) (bK : Nat → Int32) (bM : Nat → Int32) (aY aV aU aR : Nat) (kf : Nat → Int32) (kA kQ : Nat → SA) (kV kP : Nat → SV) : Met l yX1_save wsX1_save rm1_save (uP D (gT cI cZ cS cJ) ((W4 cI aS aL aW aB aF aZ aK aM sr wm wW bh bF bZ bK bM) ++ (HBg cI cZ cS aY aV aU aR (hR kA) (5 : Int32) kf kA kV kQ kP)) [.ref aY, .ref aS]) (uQ2 D none (uA ((W4 cI aS aL aW aB aF aZ aK aM sr wm wW bh bF bZ bK bM) ++ (HBg cI cZ cS aY aV aU aR (hR kA) (5 : Int32) kf kA kV kQ kP))) ((W4 cI aS aL aW aB aF aZ aK aM sr wm wW bh bF bZ bK bM) ++ HBg cI cZ cS aY aV aU aR (hR kA) (6 : Int32) kf kA (va_up kV 5 (sr, wm, wW, bh, bF, bZ, bK, bM)) kQ kP)) 0 0 (uA ((W4 cI aS aL aW aB aF aZ aK aM sr wm wW bh bF bZ bK bM) ++ (HBg cI cZ cS aY aV aU aR (hR kA) (5 : Int32) kf kA kV kQ kP))) := by
  refine Met.ofW (cc := cX1_save) (maxL := 2) (ret := none) (by decide) rfl ?_
  intro p e s m args below meth c s₁ B hml hv
  obtain ⟨ha, hK, hP, hD0⟩ := hv
  have hx := B.exec
  have hb := B.bytes
  have hr := B.returns
  have hlocks := B.notSynchronized
  have hts : ∀ w ∈ lw_all, w.before args s = true := fun w h => atoms_spec (ws := wsX1_save) B.pre w (List.mem_cons_of_mem _ h)
  have hown : s.vm.findClass RX1 = some m.cls := findClass_of_methodNamed B.named
  have S : CallFix p m c cX1_save 2 s args lw_all RX1 := ⟨hx, hb, hml, hown, hts⟩
  have hD := hD0.own
  generalize uA ((W4 cI aS aL aW aB aF aZ aK aM sr wm wW bh bF bZ bK bM) ++ (HBg cI cZ cS aY aV aU aR (hR kA) (5 : Int32) kf kA kV kQ kP)) = A0 at hD ⊢
  have hS : va_S A0 s.heap s.heap [] := va_S.rf
  have hl := lv_entry ([.ref aY, .ref aS] : List Value) (n := 2) (Nat.le_of_ble_eq_true rfl)
  refine W.eq (g2 := F0 m 0 ((lg_sl ([.ref aY, .ref aS] : List Value) ++ List.replicate (2 - (lg_sl ([.ref aY, .ref aS] : List Value)).length) Slot.unset).toArray) []) (by rw [ha]; exact lg_entry_eq _ _ _) ?_
  generalize (lg_sl ([.ref aY, .ref aS] : List Value) ++ List.replicate (2 - (lg_sl ([.ref aY, .ref aS] : List Value)).length) Slot.unset).toArray = ls at hl ⊢
  have hl : lv_has ls 2 [(0, .ref aY), (1, .ref aS)] := hl
  show cW p l e wsX1_save rm1_save s m args below meth c D none A0 ((W4 cI aS aL aW aB aF aZ aK aM sr wm wW bh bF bZ bK bM) ++ HBg cI cZ cS aY aV aU aR (hR kA) (6 : Int32) kf kA (va_up kV 5 (sr, wm, wW, bh, bF, bZ, bK, bM)) kQ kP) s.heap [] (F0 m 0 ls [])
  refine lv_aload_n hx hb dX1_save_0 rfl (lv_at hl 0 rfl) ?_
  refine va_get (D := D) (ci := 1) (v := .int (5 : Int32)) (C := RX1) (T := TX1) (N := 4) hx hb hts i_X1 hown hK.1 hP 8 rfl rfl 3 (by decide) (hts _ wd_113) (fun _ h9 => h9) rfl dX1_save_1 ?_
  refine lv_aload_n hx hb dX1_save_4 rfl (lv_at hl 0 rfl) ?_
  refine va_get (D := D) (ci := 1) (v := .ref aV) (C := RX1) (T := TX1) (N := 4) hx hb hts i_X1 hown hK.1 hP 8 rfl rfl 0 (by decide) (hts _ wd_110) (fun _ h9 => h9) rfl dX1_save_5 ?_
  refine va_alen (v := (6 : Int32)) hx hb hK.1 hP 9 2 rfl rfl rfl dX1_save_8 ?_
  refine lv_icmp_lt (tgt := 16) hx hb dX1_save_9 (by decide) (fun c1 => ?_) (fun c1 => ?_)
  · skip
    refine lv_aload_n hx hb dX1_save_16 rfl (lv_at hl 0 rfl) ?_
    refine va_get (D := D) (ci := 1) (v := .int (5 : Int32)) (C := RX1) (T := TX1) (N := 4) hx hb hts i_X1 hown hK.1 hP 8 rfl rfl 3 (by decide) (hts _ wd_113) (fun _ h9 => h9) rfl dX1_save_17 ?_
    refine lv_if_lt (tgt := 58) hx hb dX1_save_20 (by decide) (fun c2 => ?_) (fun c2 => ?_)
    · exact absurd c2 (by decide)
    · skip
      refine lv_aload_n hx hb dX1_save_23 rfl (lv_at hl 0 rfl) ?_
      refine va_get (D := D) (ci := 1) (v := .int (5 : Int32)) (C := RX1) (T := TX1) (N := 4) hx hb hts i_X1 hown hK.1 hP 8 rfl rfl 3 (by decide) (hts _ wd_113) (fun _ h9 => h9) rfl dX1_save_24 ?_
      refine lv_aload_n hx hb dX1_save_27 rfl (lv_at hl 0 rfl) ?_
      refine va_get (D := D) (ci := 1) (v := .ref aV) (C := RX1) (T := TX1) (N := 4) hx hb hts i_X1 hown hK.1 hP 8 rfl rfl 0 (by decide) (hts _ wd_110) (fun _ h9 => h9) rfl dX1_save_28 ?_
      refine va_alen (v := (6 : Int32)) hx hb hK.1 hP 9 2 rfl rfl rfl dX1_save_31 ?_
      refine lv_icmp_ge (tgt := 58) hx hb dX1_save_32 (by decide) (fun c3 => ?_) (fun c3 => ?_)
      · exact absurd c3 (by decide)
      · skip
        refine lv_aload_n hx hb dX1_save_35 rfl (lv_at hl 1 rfl) ?_
        refine lv_aload_n hx hb dX1_save_36 rfl (lv_at hl 0 rfl) ?_
        refine va_get (D := D) (ci := 1) (v := .ref aV) (C := RX1) (T := TX1) (N := 4) hx hb hts i_X1 hown hK.1 hP 8 rfl rfl 0 (by decide) (hts _ wd_110) (fun _ h9 => h9) rfl dX1_save_37 ?_
        refine lv_aload_n hx hb dX1_save_40 rfl (lv_at hl 0 rfl) ?_
        refine va_get (D := D) (ci := 1) (v := .int (5 : Int32)) (C := RX1) (T := TX1) (N := 4) hx hb hts i_X1 hown hK.1 hP 8 rfl rfl 3 (by decide) (hts _ wd_113) (fun _ h9 => h9) rfl dX1_save_41 ?_
        refine va_aldq hx hb hK.1 hP 9 2 rfl rfl (inb_lit (by decide)) dX1_save_44 ?_
        refine lv_same (v' := .ref (kA 5).1) rfl ?_
        refine ucallv (ws' := ((W4 cI aS aL aW aB aF aZ aK aM sr wm wW bh bF bZ bK bM) ++ (HBg cI cZ cS aY aV aU aR (hR kA) (5 : Int32) kf kA (va_up kV 5 (sr, wm, wW, bh, bF, bZ, bK, bM)) kQ kP))) (va_runS (As := [.ref aS, .ref ((kA 5).1)]) (rest := []) S (K1_copyState l D cI cZ cS cJ ((kA 5).1) ((kA 5).2.1) ((kA 5).2.2.1) ((kA 5).2.2.2.1) ((kA 5).2.2.2.2.1) ((kA 5).2.2.2.2.2.1) ((kA 5).2.2.2.2.2.2.1) ((kA 5).2.2.2.2.2.2.2) aS aL aW aB aF aZ aK aM ((kV 5).1) ((kV 5).2.1) ((kV 5).2.2.1) ((kV 5).2.2.2.1) ((kV 5).2.2.2.2.1) ((kV 5).2.2.2.2.2.1) ((kV 5).2.2.2.2.2.2.1) ((kV 5).2.2.2.2.2.2.2) sr wm wW bh bF bZ bK bM sr wm wW bh bF bZ bK bM (cp_eq _ _ _ _ _ _ _ _ _ _ _ _ _ _ _ _)) (va_cwS 2 hts (gd_S wd_284 wd_285 wd_26 wd_286) rfl rfl rfl hdn1_copyState ⟨Nat.le_of_ble_eq_true rfl, Nat.le_of_ble_eq_true rfl⟩) (uPreS hK (hP.sub (ws' := (W44 cI ((kA 5).1) ((kA 5).2.1) ((kA 5).2.2.1) ((kA 5).2.2.2.1) ((kA 5).2.2.2.2.1) ((kA 5).2.2.2.2.2.1) ((kA 5).2.2.2.2.2.2.1) ((kA 5).2.2.2.2.2.2.2) aS aL aW aB aF aZ aK aM ((kV 5).1) ((kV 5).2.1) ((kV 5).2.2.1) ((kV 5).2.2.2.1) ((kV 5).2.2.2.2.1) ((kV 5).2.2.2.2.2.1) ((kV 5).2.2.2.2.2.2.1) ((kV 5).2.2.2.2.2.2.2) sr wm wW bh bF bZ bK bM)) [52, 53, 54, 55, 56, 57, 58, 59, 0, 1, 2, 3, 4, 5, 6, 7] rfl) (hD.sub (ws' := (W44 cI ((kA 5).1) ((kA 5).2.1) ((kA 5).2.2.1) ((kA 5).2.2.2.1) ((kA 5).2.2.2.2.1) ((kA 5).2.2.2.2.2.1) ((kA 5).2.2.2.2.2.2.1) ((kA 5).2.2.2.2.2.2.2) aS aL aW aB aF aZ aK aM ((kV 5).1) ((kV 5).2.1) ((kV 5).2.2.1) ((kV 5).2.2.2.1) ((kV 5).2.2.2.2.1) ((kV 5).2.2.2.2.2.1) ((kV 5).2.2.2.2.2.2.1) ((kV 5).2.2.2.2.2.2.2) sr wm wW bh bF bZ bK bM)) [52, 53, 54, 55, 56, 57, 58, 59, 0, 1, 2, 3, 4, 5, 6, 7] (by decide) rfl)) rfl rfl hl.1 rfl (lv_room (Nat.le_of_ble_eq_true rfl)) dX1_save_45 ⟨Nat.zero_le _, Nat.zero_le _⟩) hS hP hD [52, 53, 54, 55, 56, 57, 58, 59, 0, 1, 2, 3, 4, 5, 6, 7] rfl rfl rfl rfl (fun H locs hP hD hS => ?_)
        refine lv_aload_n hx hb dX1_save_48 rfl (lv_at hl 0 rfl) ?_
        refine lv_dup hx hb dX1_save_49 rfl ?_
        refine va_get (D := D) (ci := 1) (v := .int (5 : Int32)) (C := RX1) (T := TX1) (N := 4) hx hb hts i_X1 hown hK.1 hP 8 rfl rfl 3 (by decide) (hts _ wd_113) (fun _ h9 => h9) rfl dX1_save_50 ?_
        refine lv_iconst hx hb dX1_save_53 kc_iconst_1 ?_
        refine lv_iadd hx hb dX1_save_54 ?_
        refine lv_topi (fun t4 e5 => ?_)
        obtain rfl : t4 = (6 : Int32) := e5.trans (by decide)
        refine va_put (D := D) (ci := 1) (v := .int (6 : Int32)) (ty := .int) (C := RX1) (T := TX1) (N := 4) hx hb hts i_X1 tyX1 tyX1_ok nmX1 hown hK.1 hP hD hS 8 rfl rfl 3 (by decide) (hts _ wd_113) (fun _ h9 => h9) rfl (by decide +kernel) rfl rfl (Nat.le_of_ble_eq_true rfl) dX1_save_55 (fun H locs hP hD hS => ?_)
        have hP : va_P D vwCl ((W4 cI aS aL aW aB aF aZ aK aM sr wm wW bh bF bZ bK bM) ++ (HBg cI cZ cS aY aV aU aR (hR kA) (6 : Int32) kf kA (va_up kV 5 (sr, wm, wW, bh, bF, bZ, bK, bM)) kQ kP)) H := hP
        have hD : va_D A0 ((W4 cI aS aL aW aB aF aZ aK aM sr wm wW bh bF bZ bK bM) ++ (HBg cI cZ cS aY aV aU aR (hR kA) (6 : Int32) kf kA (va_up kV 5 (sr, wm, wW, bh, bF, bZ, bK, bM)) kQ kP)) := hD
        exact uretv2 hx hb hr hlocks hP hD hS dX1_save_58
  · exact absurd c1 (by decide)
set_option maxHeartbeats 4000000 in
set_option maxRecDepth 100000 in
theorem K1_save_6 (l : Launch) (D : va_G) (cI cZ cS cJ : ClassId) (aS aL aW aB aF aZ aK aM : Nat) (sr : Int32) (wm : Int32) (wW : Nat → Int32) (bh : Int32) (bF : Nat → Int32) (bZ : Nat → Int32) (bK : Nat → Int32) (bM : Nat → Int32) (aY aV aU aR : Nat) (kf : Nat → Int32) (kA kQ : Nat → SA) (kV kP : Nat → SV) : Met l yX1_save wsX1_save rm1_save (uP D (gT cI cZ cS cJ) ((W4 cI aS aL aW aB aF aZ aK aM sr wm wW bh bF bZ bK bM) ++ (HBg cI cZ cS aY aV aU aR (hR kA) (6 : Int32) kf kA kV kQ kP)) [.ref aY, .ref aS]) (uQ2 D none (uA ((W4 cI aS aL aW aB aF aZ aK aM sr wm wW bh bF bZ bK bM) ++ (HBg cI cZ cS aY aV aU aR (hR kA) (6 : Int32) kf kA kV kQ kP))) ((W4 cI aS aL aW aB aF aZ aK aM sr wm wW bh bF bZ bK bM) ++ HBg cI cZ cS aY aV aU aR (hR (rotA kA)) (6 : Int32) kf (rotA kA) (va_up (rotV kV) 5 (sr, wm, wW, bh, bF, bZ, bK, bM)) kQ kP)) 0 0 (uA ((W4 cI aS aL aW aB aF aZ aK aM sr wm wW bh bF bZ bK bM) ++ (HBg cI cZ cS aY aV aU aR (hR kA) (6 : Int32) kf kA kV kQ kP))) := by
  refine Met.ofW (cc := cX1_save) (maxL := 2) (ret := none) (by decide) rfl ?_
  intro p e s m args below meth c s₁ B hml hv
  obtain ⟨ha, hK, hP, hD0⟩ := hv
  have hx := B.exec
  have hb := B.bytes
  have hr := B.returns
  have hlocks := B.notSynchronized
  have hts : ∀ w ∈ lw_all, w.before args s = true := fun w h => atoms_spec (ws := wsX1_save) B.pre w (List.mem_cons_of_mem _ h)
  have hown : s.vm.findClass RX1 = some m.cls := findClass_of_methodNamed B.named
  have S : CallFix p m c cX1_save 2 s args lw_all RX1 := ⟨hx, hb, hml, hown, hts⟩
  have hD := hD0.own
  generalize uA ((W4 cI aS aL aW aB aF aZ aK aM sr wm wW bh bF bZ bK bM) ++ (HBg cI cZ cS aY aV aU aR (hR kA) (6 : Int32) kf kA kV kQ kP)) = A0 at hD ⊢
  have hS : va_S A0 s.heap s.heap [] := va_S.rf
  have hl := lv_entry ([.ref aY, .ref aS] : List Value) (n := 2) (Nat.le_of_ble_eq_true rfl)
  refine W.eq (g2 := F0 m 0 ((lg_sl ([.ref aY, .ref aS] : List Value) ++ List.replicate (2 - (lg_sl ([.ref aY, .ref aS] : List Value)).length) Slot.unset).toArray) []) (by rw [ha]; exact lg_entry_eq _ _ _) ?_
  generalize (lg_sl ([.ref aY, .ref aS] : List Value) ++ List.replicate (2 - (lg_sl ([.ref aY, .ref aS] : List Value)).length) Slot.unset).toArray = ls at hl ⊢
  have hl : lv_has ls 2 [(0, .ref aY), (1, .ref aS)] := hl
  show cW p l e wsX1_save rm1_save s m args below meth c D none A0 ((W4 cI aS aL aW aB aF aZ aK aM sr wm wW bh bF bZ bK bM) ++ HBg cI cZ cS aY aV aU aR (hR (rotA kA)) (6 : Int32) kf (rotA kA) (va_up (rotV kV) 5 (sr, wm, wW, bh, bF, bZ, bK, bM)) kQ kP) s.heap [] (F0 m 0 ls [])
  refine lv_aload_n hx hb dX1_save_0 rfl (lv_at hl 0 rfl) ?_
  refine va_get (D := D) (ci := 1) (v := .int (6 : Int32)) (C := RX1) (T := TX1) (N := 4) hx hb hts i_X1 hown hK.1 hP 8 rfl rfl 3 (by decide) (hts _ wd_113) (fun _ h9 => h9) rfl dX1_save_1 ?_
  refine lv_aload_n hx hb dX1_save_4 rfl (lv_at hl 0 rfl) ?_
  refine va_get (D := D) (ci := 1) (v := .ref aV) (C := RX1) (T := TX1) (N := 4) hx hb hts i_X1 hown hK.1 hP 8 rfl rfl 0 (by decide) (hts _ wd_110) (fun _ h9 => h9) rfl dX1_save_5 ?_
  refine va_alen (v := (6 : Int32)) hx hb hK.1 hP 9 2 rfl rfl rfl dX1_save_8 ?_
  refine lv_icmp_lt (tgt := 16) hx hb dX1_save_9 (by decide) (fun c1 => ?_) (fun c1 => ?_)
  · exact absurd c1 (by decide)
  · skip
    refine lv_aload_n hx hb dX1_save_12 rfl (lv_at hl 0 rfl) ?_
    refine hcallv (wc := []) (wc' := []) (X := (W4 cI aS aL aW aB aF aZ aK aM sr wm wW bh bF bZ bK bM)) (X' := (W4 cI aS aL aW aB aF aZ aK aM sr wm wW bh bF bZ bK bM)) (va_runV (As := []) (rest := []) S (K1_dropOldest l D cI cZ cS cJ aY aV aU aR kf kA kQ kV kP) (cwV 0 hts (gd_V wd_280 wd_282 wd_2 wd_26 wd_283) rfl rfl rfl hd1_dropOldest ⟨Nat.le_of_ble_eq_true rfl, Nat.le_of_ble_eq_true rfl⟩) (uPreVq hK (hP.sub (ws' := (HBg cI cZ cS aY aV aU aR (hR kA) (6 : Int32) kf kA kV kQ kP)) [8, 9, 10, 11, 12, 13, 14, 15, 16, 17, 18, 19, 20, 21, 22, 23, 24, 25, 26, 27, 28, 29, 30, 31, 32, 33, 34, 35, 36, 37, 38, 39, 40, 41, 42, 43, 44, 45, 46, 47, 48, 49, 50, 51, 52, 53, 54, 55, 56, 57, 58, 59, 60, 61, 62, 63, 64, 65, 66, 67, 68, 69, 70, 71, 72, 73, 74, 75] rfl) (hD.sub (ws' := (HBg cI cZ cS aY aV aU aR (hR kA) (6 : Int32) kf kA kV kQ kP)) [8, 9, 10, 11, 12, 13, 14, 15, 16, 17, 18, 19, 20, 21, 22, 23, 24, 25, 26, 27, 28, 29, 30, 31, 32, 33, 34, 35, 36, 37, 38, 39, 40, 41, 42, 43, 44, 45, 46, 47, 48, 49, 50, 51, 52, 53, 54, 55, 56, 57, 58, 59, 60, 61, 62, 63, 64, 65, 66, 67, 68, 69, 70, 71, 72, 73, 74, 75] (by decide) rfl) 0 (ci := 1) (q := (RX1, TX1, 4)) rfl rfl) rfl rfl hl.1 rfl (lv_room (Nat.le_of_ble_eq_true rfl)) dX1_save_13 ⟨Nat.zero_le _, Nat.zero_le _⟩) hS hP hD [] rfl rfl rfl rfl (fun H locs hP hD hS => ?_)
    have hP : va_P D vwCl ((W4 cI aS aL aW aB aF aZ aK aM sr wm wW bh bF bZ bK bM) ++ (HBg cI cZ cS aY aV aU aR (hR (rotA kA)) (5 : Int32) kf (rotA kA) (rotV kV) kQ kP)) H := hP
    have hD : va_D A0 ((W4 cI aS aL aW aB aF aZ aK aM sr wm wW bh bF bZ bK bM) ++ (HBg cI cZ cS aY aV aU aR (hR (rotA kA)) (5 : Int32) kf (rotA kA) (rotV kV) kQ kP)) := hD
    refine lv_aload_n hx hb dX1_save_16 rfl (lv_at hl 0 rfl) ?_
    refine va_get (D := D) (ci := 1) (v := .int (5 : Int32)) (C := RX1) (T := TX1) (N := 4) hx hb hts i_X1 hown hK.1 hP 8 rfl rfl 3 (by decide) (hts _ wd_113) (fun _ h9 => h9) rfl dX1_save_17 ?_
    refine lv_if_lt (tgt := 58) hx hb dX1_save_20 (by decide) (fun c2 => ?_) (fun c2 => ?_)
    · exact absurd c2 (by decide)
    · skip
      refine lv_aload_n hx hb dX1_save_23 rfl (lv_at hl 0 rfl) ?_
      refine va_get (D := D) (ci := 1) (v := .int (5 : Int32)) (C := RX1) (T := TX1) (N := 4) hx hb hts i_X1 hown hK.1 hP 8 rfl rfl 3 (by decide) (hts _ wd_113) (fun _ h9 => h9) rfl dX1_save_24 ?_
      refine lv_aload_n hx hb dX1_save_27 rfl (lv_at hl 0 rfl) ?_
      refine va_get (D := D) (ci := 1) (v := .ref aV) (C := RX1) (T := TX1) (N := 4) hx hb hts i_X1 hown hK.1 hP 8 rfl rfl 0 (by decide) (hts _ wd_110) (fun _ h9 => h9) rfl dX1_save_28 ?_
      refine va_alen (v := (6 : Int32)) hx hb hK.1 hP 9 2 rfl rfl rfl dX1_save_31 ?_
      refine lv_icmp_ge (tgt := 58) hx hb dX1_save_32 (by decide) (fun c3 => ?_) (fun c3 => ?_)
      · exact absurd c3 (by decide)
      · skip
        refine lv_aload_n hx hb dX1_save_35 rfl (lv_at hl 1 rfl) ?_
        refine lv_aload_n hx hb dX1_save_36 rfl (lv_at hl 0 rfl) ?_
        refine va_get (D := D) (ci := 1) (v := .ref aV) (C := RX1) (T := TX1) (N := 4) hx hb hts i_X1 hown hK.1 hP 8 rfl rfl 0 (by decide) (hts _ wd_110) (fun _ h9 => h9) rfl dX1_save_37 ?_
        refine lv_aload_n hx hb dX1_save_40 rfl (lv_at hl 0 rfl) ?_
        refine va_get (D := D) (ci := 1) (v := .int (5 : Int32)) (C := RX1) (T := TX1) (N := 4) hx hb hts i_X1 hown hK.1 hP 8 rfl rfl 3 (by decide) (hts _ wd_113) (fun _ h9 => h9) rfl dX1_save_41 ?_
        refine va_aldq hx hb hK.1 hP 9 2 rfl rfl (inb_lit (by decide)) dX1_save_44 ?_
        refine lv_same (v' := .ref ((rotA kA) 5).1) rfl ?_
        refine ucallv (ws' := ((W4 cI aS aL aW aB aF aZ aK aM sr wm wW bh bF bZ bK bM) ++ (HBg cI cZ cS aY aV aU aR (hR (rotA kA)) (5 : Int32) kf (rotA kA) (va_up (rotV kV) 5 (sr, wm, wW, bh, bF, bZ, bK, bM)) kQ kP))) (va_runS (As := [.ref aS, .ref (((rotA kA) 5).1)]) (rest := []) S (K1_copyState l D cI cZ cS cJ (((rotA kA) 5).1) (((rotA kA) 5).2.1) (((rotA kA) 5).2.2.1) (((rotA kA) 5).2.2.2.1) (((rotA kA) 5).2.2.2.2.1) (((rotA kA) 5).2.2.2.2.2.1) (((rotA kA) 5).2.2.2.2.2.2.1) (((rotA kA) 5).2.2.2.2.2.2.2) aS aL aW aB aF aZ aK aM (((rotV kV) 5).1) (((rotV kV) 5).2.1) (((rotV kV) 5).2.2.1) (((rotV kV) 5).2.2.2.1) (((rotV kV) 5).2.2.2.2.1) (((rotV kV) 5).2.2.2.2.2.1) (((rotV kV) 5).2.2.2.2.2.2.1) (((rotV kV) 5).2.2.2.2.2.2.2) sr wm wW bh bF bZ bK bM sr wm wW bh bF bZ bK bM (cp_eq _ _ _ _ _ _ _ _ _ _ _ _ _ _ _ _)) (va_cwS 2 hts (gd_S wd_284 wd_285 wd_26 wd_286) rfl rfl rfl hdn1_copyState ⟨Nat.le_of_ble_eq_true rfl, Nat.le_of_ble_eq_true rfl⟩) (uPreS hK (hP.sub (ws' := (W44 cI (((rotA kA) 5).1) (((rotA kA) 5).2.1) (((rotA kA) 5).2.2.1) (((rotA kA) 5).2.2.2.1) (((rotA kA) 5).2.2.2.2.1) (((rotA kA) 5).2.2.2.2.2.1) (((rotA kA) 5).2.2.2.2.2.2.1) (((rotA kA) 5).2.2.2.2.2.2.2) aS aL aW aB aF aZ aK aM (((rotV kV) 5).1) (((rotV kV) 5).2.1) (((rotV kV) 5).2.2.1) (((rotV kV) 5).2.2.2.1) (((rotV kV) 5).2.2.2.2.1) (((rotV kV) 5).2.2.2.2.2.1) (((rotV kV) 5).2.2.2.2.2.2.1) (((rotV kV) 5).2.2.2.2.2.2.2) sr wm wW bh bF bZ bK bM)) [52, 53, 54, 55, 56, 57, 58, 59, 0, 1, 2, 3, 4, 5, 6, 7] rfl) (hD.sub (ws' := (W44 cI (((rotA kA) 5).1) (((rotA kA) 5).2.1) (((rotA kA) 5).2.2.1) (((rotA kA) 5).2.2.2.1) (((rotA kA) 5).2.2.2.2.1) (((rotA kA) 5).2.2.2.2.2.1) (((rotA kA) 5).2.2.2.2.2.2.1) (((rotA kA) 5).2.2.2.2.2.2.2) aS aL aW aB aF aZ aK aM (((rotV kV) 5).1) (((rotV kV) 5).2.1) (((rotV kV) 5).2.2.1) (((rotV kV) 5).2.2.2.1) (((rotV kV) 5).2.2.2.2.1) (((rotV kV) 5).2.2.2.2.2.1) (((rotV kV) 5).2.2.2.2.2.2.1) (((rotV kV) 5).2.2.2.2.2.2.2) sr wm wW bh bF bZ bK bM)) [52, 53, 54, 55, 56, 57, 58, 59, 0, 1, 2, 3, 4, 5, 6, 7] (by decide) rfl)) rfl rfl hl.1 rfl (lv_room (Nat.le_of_ble_eq_true rfl)) dX1_save_45 ⟨Nat.zero_le _, Nat.zero_le _⟩) hS hP hD [52, 53, 54, 55, 56, 57, 58, 59, 0, 1, 2, 3, 4, 5, 6, 7] rfl rfl rfl rfl (fun H locs hP hD hS => ?_)
        refine lv_aload_n hx hb dX1_save_48 rfl (lv_at hl 0 rfl) ?_
        refine lv_dup hx hb dX1_save_49 rfl ?_
        refine va_get (D := D) (ci := 1) (v := .int (5 : Int32)) (C := RX1) (T := TX1) (N := 4) hx hb hts i_X1 hown hK.1 hP 8 rfl rfl 3 (by decide) (hts _ wd_113) (fun _ h9 => h9) rfl dX1_save_50 ?_
        refine lv_iconst hx hb dX1_save_53 kc_iconst_1 ?_
        refine lv_iadd hx hb dX1_save_54 ?_
        refine lv_topi (fun t4 e5 => ?_)
        obtain rfl : t4 = (6 : Int32) := e5.trans (by decide)
        refine va_put (D := D) (ci := 1) (v := .int (6 : Int32)) (ty := .int) (C := RX1) (T := TX1) (N := 4) hx hb hts i_X1 tyX1 tyX1_ok nmX1 hown hK.1 hP hD hS 8 rfl rfl 3 (by decide) (hts _ wd_113) (fun _ h9 => h9) rfl (by decide +kernel) rfl rfl (Nat.le_of_ble_eq_true rfl) dX1_save_55 (fun H locs hP hD hS => ?_)
        have hP : va_P D vwCl ((W4 cI aS aL aW aB aF aZ aK aM sr wm wW bh bF bZ bK bM) ++ (HBg cI cZ cS aY aV aU aR (hR (rotA kA)) (6 : Int32) kf (rotA kA) (va_up (rotV kV) 5 (sr, wm, wW, bh, bF, bZ, bK, bM)) kQ kP)) H := hP
        have hD : va_D A0 ((W4 cI aS aL aW aB aF aZ aK aM sr wm wW bh bF bZ bK bM) ++ (HBg cI cZ cS aY aV aU aR (hR (rotA kA)) (6 : Int32) kf (rotA kA) (va_up (rotV kV) 5 (sr, wm, wW, bh, bF, bZ, bK, bM)) kQ kP)) := hD
        exact uretv2 hx hb hr hlocks hP hD hS dX1_save_58
set_option maxHeartbeats 4000000 in
set_option maxRecDepth 100000 in
theorem K1_restoreLast_1 (l : Launch) (D : va_G) (cI cZ cS cJ : ClassId) (aS aL aW aB aF aZ aK aM : Nat) (sr : Int32) (wm : Int32) (wW : Nat → Int32) (bh : Int32) (bF : Nat → Int32) (bZ : Nat → Int32) (bK : Nat → Int32) (bM : Nat → Int32) (aY aV aU aR : Nat) (kf : Nat → Int32) (kA kQ : Nat → SA) (kV kP : Nat → SV) : Met l yX1_restoreLast wsX1_restoreLast rm1_restoreLast (uP D (gT cI cZ cS cJ) ((W4 cI aS aL aW aB aF aZ aK aM sr wm wW bh bF bZ bK bM) ++ (HBg cI cZ cS aY aV aU aR (hR kA) (1 : Int32) kf kA kV kQ kP)) [.ref aY, .ref aS]) (uQ2 D none (uA ((W4 cI aS aL aW aB aF aZ aK aM sr wm wW bh bF bZ bK bM) ++ (HBg cI cZ cS aY aV aU aR (hR kA) (1 : Int32) kf kA kV kQ kP))) (W4 cI aS aL aW aB aF aZ aK aM (kV 0).1 (kV 0).2.1 (kV 0).2.2.1 (kV 0).2.2.2.1 (kV 0).2.2.2.2.1 (kV 0).2.2.2.2.2.1 (kV 0).2.2.2.2.2.2.1 (kV 0).2.2.2.2.2.2.2 ++ HBg cI cZ cS aY aV aU aR (hR kA) (0 : Int32) kf kA kV kQ kP)) 0 0 (uA ((W4 cI aS aL aW aB aF aZ aK aM sr wm wW bh bF bZ bK bM) ++ (HBg cI cZ cS aY aV aU aR (hR kA) (1 : Int32) kf kA kV kQ kP))) := by
  refine Met.ofW (cc := cX1_restoreLast) (maxL := 3) (ret := none) (by decide) rfl ?_
  intro p e s m args below meth c s₁ B hml hv
  obtain ⟨ha, hK, hP, hD0⟩ := hv
  have hx := B.exec
  have hb := B.bytes
  have hr := B.returns
  have hlocks := B.notSynchronized
  have hts : ∀ w ∈ lw_all, w.before args s = true := fun w h => atoms_spec (ws := wsX1_restoreLast) B.pre w (List.mem_cons_of_mem _ h)
  have hown : s.vm.findClass RX1 = some m.cls := findClass_of_methodNamed B.named
  have S : CallFix p m c cX1_restoreLast 3 s args lw_all RX1 := ⟨hx, hb, hml, hown, hts⟩
  have hD := hD0.own
  generalize uA ((W4 cI aS aL aW aB aF aZ aK aM sr wm wW bh bF bZ bK bM) ++ (HBg cI cZ cS aY aV aU aR (hR kA) (1 : Int32) kf kA kV kQ kP)) = A0 at hD ⊢
  have hS : va_S A0 s.heap s.heap [] := va_S.rf
  have hl := lv_entry ([.ref aY, .ref aS] : List Value) (n := 3) (Nat.le_of_ble_eq_true rfl)
  refine W.eq (g2 := F0 m 0 ((lg_sl ([.ref aY, .ref aS] : List Value) ++ List.replicate (3 - (lg_sl ([.ref aY, .ref aS] : List Value)).length) Slot.unset).toArray) []) (by rw [ha]; exact lg_entry_eq _ _ _) ?_
  generalize (lg_sl ([.ref aY, .ref aS] : List Value) ++ List.replicate (3 - (lg_sl ([.ref aY, .ref aS] : List Value)).length) Slot.unset).toArray = ls at hl ⊢
  have hl : lv_has ls 3 [(0, .ref aY), (1, .ref aS)] := hl
  show cW p l e wsX1_restoreLast rm1_restoreLast s m args below meth c D none A0 (W4 cI aS aL aW aB aF aZ aK aM (kV 0).1 (kV 0).2.1 (kV 0).2.2.1 (kV 0).2.2.2.1 (kV 0).2.2.2.2.1 (kV 0).2.2.2.2.2.1 (kV 0).2.2.2.2.2.2.1 (kV 0).2.2.2.2.2.2.2 ++ HBg cI cZ cS aY aV aU aR (hR kA) (0 : Int32) kf kA kV kQ kP) s.heap [] (F0 m 0 ls [])
  refine lv_aload_n hx hb dX1_restoreLast_0 rfl (lv_at hl 0 rfl) ?_
  refine va_get (D := D) (ci := 1) (v := .int (1 : Int32)) (C := RX1) (T := TX1) (N := 4) hx hb hts i_X1 hown hK.1 hP 8 rfl rfl 3 (by decide) (hts _ wd_113) (fun _ h9 => h9) rfl dX1_restoreLast_1 ?_
  refine lv_iconst hx hb dX1_restoreLast_4 kc_iconst_1 ?_
  refine lv_isub hx hb dX1_restoreLast_5 ?_
  refine lv_topi (fun t1 e2 => ?_)
  obtain rfl : t1 = (0 : Int32) := e2.trans (by decide)
  refine lv_istore_n (lv' := [(2, .int (0 : Int32)), (0, .ref aY), (1, .ref aS)]) hx hb dX1_restoreLast_6 rfl hl (by decide) rfl (fun ls hl => ?_)
  refine lv_iload_n hx hb dX1_restoreLast_7 rfl (lv_at hl 0 rfl) ?_
  refine lv_if_lt (tgt := 35) hx hb dX1_restoreLast_8 (by decide) (fun c3 => ?_) (fun c3 => ?_)
  · exact absurd c3 (by decide)
  · skip
    refine lv_iload_n hx hb dX1_restoreLast_11 rfl (lv_at hl 0 rfl) ?_
    refine lv_aload_n hx hb dX1_restoreLast_12 rfl (lv_at hl 1 rfl) ?_
    refine va_get (D := D) (ci := 1) (v := .ref aV) (C := RX1) (T := TX1) (N := 4) hx hb hts i_X1 hown hK.1 hP 8 rfl rfl 0 (by decide) (hts _ wd_110) (fun _ h9 => h9) rfl dX1_restoreLast_13 ?_
    refine va_alen (v := (6 : Int32)) hx hb hK.1 hP 9 2 rfl rfl rfl dX1_restoreLast_16 ?_
    refine lv_icmp_ge (tgt := 35) hx hb dX1_restoreLast_17 (by decide) (fun c4 => ?_) (fun c4 => ?_)
    · exact absurd c4 (by decide)
    · skip
      refine lv_aload_n hx hb dX1_restoreLast_20 rfl (lv_at hl 1 rfl) ?_
      refine va_get (D := D) (ci := 1) (v := .ref aV) (C := RX1) (T := TX1) (N := 4) hx hb hts i_X1 hown hK.1 hP 8 rfl rfl 0 (by decide) (hts _ wd_110) (fun _ h9 => h9) rfl dX1_restoreLast_21 ?_
      refine lv_iload_n hx hb dX1_restoreLast_24 rfl (lv_at hl 0 rfl) ?_
      refine va_aldq hx hb hK.1 hP 9 2 rfl rfl (inb_lit (by decide)) dX1_restoreLast_25 ?_
      refine lv_same (v' := .ref (kA 0).1) rfl ?_
      refine lv_aload_n hx hb dX1_restoreLast_26 rfl (lv_at hl 2 rfl) ?_
      refine ucallv (ws' := ((W4 cI aS aL aW aB aF aZ aK aM ((kV 0).1) ((kV 0).2.1) ((kV 0).2.2.1) ((kV 0).2.2.2.1) ((kV 0).2.2.2.2.1) ((kV 0).2.2.2.2.2.1) ((kV 0).2.2.2.2.2.2.1) ((kV 0).2.2.2.2.2.2.2)) ++ (HBg cI cZ cS aY aV aU aR (hR kA) (1 : Int32) kf kA kV kQ kP))) (va_runS (As := [.ref ((kA 0).1), .ref aS]) (rest := []) S (K1_copyState l D cI cZ cS cJ aS aL aW aB aF aZ aK aM ((kA 0).1) ((kA 0).2.1) ((kA 0).2.2.1) ((kA 0).2.2.2.1) ((kA 0).2.2.2.2.1) ((kA 0).2.2.2.2.2.1) ((kA 0).2.2.2.2.2.2.1) ((kA 0).2.2.2.2.2.2.2) sr wm wW bh bF bZ bK bM ((kV 0).1) ((kV 0).2.1) ((kV 0).2.2.1) ((kV 0).2.2.2.1) ((kV 0).2.2.2.2.1) ((kV 0).2.2.2.2.2.1) ((kV 0).2.2.2.2.2.2.1) ((kV 0).2.2.2.2.2.2.2) ((kV 0).1) ((kV 0).2.1) ((kV 0).2.2.1) ((kV 0).2.2.2.1) ((kV 0).2.2.2.2.1) ((kV 0).2.2.2.2.2.1) ((kV 0).2.2.2.2.2.2.1) ((kV 0).2.2.2.2.2.2.2) (cp_eq _ _ _ _ _ _ _ _ _ _ _ _ _ _ _ _)) (va_cwS 2 hts (gd_S wd_284 wd_285 wd_26 wd_286) rfl rfl rfl hdn1_copyState ⟨Nat.le_of_ble_eq_true rfl, Nat.le_of_ble_eq_true rfl⟩) (uPreS hK (hP.sub (ws' := (W44 cI aS aL aW aB aF aZ aK aM ((kA 0).1) ((kA 0).2.1) ((kA 0).2.2.1) ((kA 0).2.2.2.1) ((kA 0).2.2.2.2.1) ((kA 0).2.2.2.2.2.1) ((kA 0).2.2.2.2.2.2.1) ((kA 0).2.2.2.2.2.2.2) sr wm wW bh bF bZ bK bM ((kV 0).1) ((kV 0).2.1) ((kV 0).2.2.1) ((kV 0).2.2.2.1) ((kV 0).2.2.2.2.1) ((kV 0).2.2.2.2.2.1) ((kV 0).2.2.2.2.2.2.1) ((kV 0).2.2.2.2.2.2.2))) [0, 1, 2, 3, 4, 5, 6, 7, 12, 13, 14, 15, 16, 17, 18, 19] rfl) (hD.sub (ws' := (W44 cI aS aL aW aB aF aZ aK aM ((kA 0).1) ((kA 0).2.1) ((kA 0).2.2.1) ((kA 0).2.2.2.1) ((kA 0).2.2.2.2.1) ((kA 0).2.2.2.2.2.1) ((kA 0).2.2.2.2.2.2.1) ((kA 0).2.2.2.2.2.2.2) sr wm wW bh bF bZ bK bM ((kV 0).1) ((kV 0).2.1) ((kV 0).2.2.1) ((kV 0).2.2.2.1) ((kV 0).2.2.2.2.1) ((kV 0).2.2.2.2.2.1) ((kV 0).2.2.2.2.2.2.1) ((kV 0).2.2.2.2.2.2.2))) [0, 1, 2, 3, 4, 5, 6, 7, 12, 13, 14, 15, 16, 17, 18, 19] (by decide) rfl)) rfl rfl hl.1 rfl (lv_room (Nat.le_of_ble_eq_true rfl)) dX1_restoreLast_27 ⟨Nat.zero_le _, Nat.zero_le _⟩) hS hP hD [0, 1, 2, 3, 4, 5, 6, 7, 12, 13, 14, 15, 16, 17, 18, 19] rfl rfl rfl rfl (fun H locs hP hD hS => ?_)
      refine lv_aload_n hx hb dX1_restoreLast_30 rfl (lv_at hl 1 rfl) ?_
      refine lv_iload_n hx hb dX1_restoreLast_31 rfl (lv_at hl 0 rfl) ?_
      refine va_put (D := D) (ci := 1) (v := .int (0 : Int32)) (ty := .int) (C := RX1) (T := TX1) (N := 4) hx hb hts i_X1 tyX1 tyX1_ok nmX1 hown hK.1 hP hD hS 8 rfl rfl 3 (by decide) (hts _ wd_113) (fun _ h9 => h9) rfl (by decide +kernel) rfl rfl (Nat.le_of_ble_eq_true rfl) dX1_restoreLast_32 (fun H locs hP hD hS => ?_)
      have hP : va_P D vwCl ((W4 cI aS aL aW aB aF aZ aK aM ((kV 0).1) ((kV 0).2.1) ((kV 0).2.2.1) ((kV 0).2.2.2.1) ((kV 0).2.2.2.2.1) ((kV 0).2.2.2.2.2.1) ((kV 0).2.2.2.2.2.2.1) ((kV 0).2.2.2.2.2.2.2)) ++ (HBg cI cZ cS aY aV aU aR (hR kA) (0 : Int32) kf kA kV kQ kP)) H := hP
      have hD : va_D A0 ((W4 cI aS aL aW aB aF aZ aK aM ((kV 0).1) ((kV 0).2.1) ((kV 0).2.2.1) ((kV 0).2.2.2.1) ((kV 0).2.2.2.2.1) ((kV 0).2.2.2.2.2.1) ((kV 0).2.2.2.2.2.2.1) ((kV 0).2.2.2.2.2.2.2)) ++ (HBg cI cZ cS aY aV aU aR (hR kA) (0 : Int32) kf kA kV kQ kP)) := hD
      exact uretv2 hx hb hr hlocks hP hD hS dX1_restoreLast_35
set_option maxHeartbeats 4000000 in
set_option maxRecDepth 100000 in
theorem K1_restoreLast_2 (l : Launch) (D : va_G) (cI cZ cS cJ : ClassId) (aS aL aW aB aF aZ aK aM : Nat) (sr : Int32) (wm : Int32) (wW : Nat → Int32) (bh : Int32) (bF : Nat → Int32) (bZ : Nat → Int32) (bK : Nat → Int32) (bM : Nat → Int32) (aY aV aU aR : Nat) (kf : Nat → Int32) (kA kQ : Nat → SA) (kV kP : Nat → SV) : Met l yX1_restoreLast wsX1_restoreLast rm1_restoreLast (uP D (gT cI cZ cS cJ) ((W4 cI aS aL aW aB aF aZ aK aM sr wm wW bh bF bZ bK bM) ++ (HBg cI cZ cS aY aV aU aR (hR kA) (2 : Int32) kf kA kV kQ kP)) [.ref aY, .ref aS]) (uQ2 D none (uA ((W4 cI aS aL aW aB aF aZ aK aM sr wm wW bh bF bZ bK bM) ++ (HBg cI cZ cS aY aV aU aR (hR kA) (2 : Int32) kf kA kV kQ kP))) (W4 cI aS aL aW aB aF aZ aK aM (kV 1).1 (kV 1).2.1 (kV 1).2.2.1 (kV 1).2.2.2.1 (kV 1).2.2.2.2.1 (kV 1).2.2.2.2.2.1 (kV 1).2.2.2.2.2.2.1 (kV 1).2.2.2.2.2.2.2 ++ HBg cI cZ cS aY aV aU aR (hR kA) (1 : Int32) kf kA kV kQ kP)) 0 0 (uA ((W4 cI aS aL aW aB aF aZ aK aM sr wm wW bh bF bZ bK bM) ++ (HBg cI cZ cS aY aV aU aR (hR kA) (2 : Int32) kf kA kV kQ kP))) := by
  refine Met.ofW (cc := cX1_restoreLast) (maxL := 3) (ret := none) (by decide) rfl ?_
  intro p e s m args below meth c s₁ B hml hv
  obtain ⟨ha, hK, hP, hD0⟩ := hv
  have hx := B.exec
  have hb := B.bytes
  have hr := B.returns
  have hlocks := B.notSynchronized
  have hts : ∀ w ∈ lw_all, w.before args s = true := fun w h => atoms_spec (ws := wsX1_restoreLast) B.pre w (List.mem_cons_of_mem _ h)
  have hown : s.vm.findClass RX1 = some m.cls := findClass_of_methodNamed B.named
  have S : CallFix p m c cX1_restoreLast 3 s args lw_all RX1 := ⟨hx, hb, hml, hown, hts⟩
  have hD := hD0.own
  generalize uA ((W4 cI aS aL aW aB aF aZ aK aM sr wm wW bh bF bZ bK bM) ++ (HBg cI cZ cS aY aV aU aR (hR kA) (2 : Int32) kf kA kV kQ kP)) = A0 at hD ⊢
  have hS : va_S A0 s.heap s.heap [] := va_S.rf
  have hl := lv_entry ([.ref aY, .ref aS] : List Value) (n := 3) (Nat.le_of_ble_eq_true rfl)
  refine W.eq (g2 := F0 m 0 ((lg_sl ([.ref aY, .ref aS] : List Value) ++ List.replicate (3 - (lg_sl ([.ref aY, .ref aS] : List Value)).length) Slot.unset).toArray) []) (by rw [ha]; exact lg_entry_eq _ _ _) ?_
  generalize (lg_sl ([.ref aY, .ref aS] : List Value) ++ List.replicate (3 - (lg_sl ([.ref aY, .ref aS] : List Value)).length) Slot.unset).toArray = ls at hl ⊢
  have hl : lv_has ls 3 [(0, .ref aY), (1, .ref aS)] := hl
  show cW p l e wsX1_restoreLast rm1_restoreLast s m args below meth c D none A0 (W4 cI aS aL aW aB aF aZ aK aM (kV 1).1 (kV 1).2.1 (kV 1).2.2.1 (kV 1).2.2.2.1 (kV 1).2.2.2.2.1 (kV 1).2.2.2.2.2.1 (kV 1).2.2.2.2.2.2.1 (kV 1).2.2.2.2.2.2.2 ++ HBg cI cZ cS aY aV aU aR (hR kA) (1 : Int32) kf kA kV kQ kP) s.heap [] (F0 m 0 ls [])
  refine lv_aload_n hx hb dX1_restoreLast_0 rfl (lv_at hl 0 rfl) ?_
  refine va_get (D := D) (ci := 1) (v := .int (2 : Int32)) (C := RX1) (T := TX1) (N := 4) hx hb hts i_X1 hown hK.1 hP 8 rfl rfl 3 (by decide) (hts _ wd_113) (fun _ h9 => h9) rfl dX1_restoreLast_1 ?_
  refine lv_iconst hx hb dX1_restoreLast_4 kc_iconst_1 ?_
  refine lv_isub hx hb dX1_restoreLast_5 ?_
  refine lv_topi (fun t1 e2 => ?_)
  obtain rfl : t1 = (1 : Int32) := e2.trans (by decide)
  refine lv_istore_n (lv' := [(2, .int (1 : Int32)), (0, .ref aY), (1, .ref aS)]) hx hb dX1_restoreLast_6 rfl hl (by decide) rfl (fun ls hl => ?_)
  refine lv_iload_n hx hb dX1_restoreLast_7 rfl (lv_at hl 0 rfl) ?_
  refine lv_if_lt (tgt := 35) hx hb dX1_restoreLast_8 (by decide) (fun c3 => ?_) (fun c3 => ?_)
  · exact absurd c3 (by decide)
  · skip
    refine lv_iload_n hx hb dX1_restoreLast_11 rfl (lv_at hl 0 rfl) ?_
    refine lv_aload_n hx hb dX1_restoreLast_12 rfl (lv_at hl 1 rfl) ?_
    refine va_get (D := D) (ci := 1) (v := .ref aV) (C := RX1) (T := TX1) (N := 4) hx hb hts i_X1 hown hK.1 hP 8 rfl rfl 0 (by decide) (hts _ wd_110) (fun _ h9 => h9) rfl dX1_restoreLast_13 ?_
    refine va_alen (v := (6 : Int32)) hx hb hK.1 hP 9 2 rfl rfl rfl dX1_restoreLast_16 ?_
    refine lv_icmp_ge (tgt := 35) hx hb dX1_restoreLast_17 (by decide) (fun c4 => ?_) (fun c4 => ?_)
    · exact absurd c4 (by decide)
    · skip
      refine lv_aload_n hx hb dX1_restoreLast_20 rfl (lv_at hl 1 rfl) ?_
      refine va_get (D := D) (ci := 1) (v := .ref aV) (C := RX1) (T := TX1) (N := 4) hx hb hts i_X1 hown hK.1 hP 8 rfl rfl 0 (by decide) (hts _ wd_110) (fun _ h9 => h9) rfl dX1_restoreLast_21 ?_
      refine lv_iload_n hx hb dX1_restoreLast_24 rfl (lv_at hl 0 rfl) ?_
      refine va_aldq hx hb hK.1 hP 9 2 rfl rfl (inb_lit (by decide)) dX1_restoreLast_25 ?_
      refine lv_same (v' := .ref (kA 1).1) rfl ?_
      refine lv_aload_n hx hb dX1_restoreLast_26 rfl (lv_at hl 2 rfl) ?_
      refine ucallv (ws' := ((W4 cI aS aL aW aB aF aZ aK aM ((kV 1).1) ((kV 1).2.1) ((kV 1).2.2.1) ((kV 1).2.2.2.1) ((kV 1).2.2.2.2.1) ((kV 1).2.2.2.2.2.1) ((kV 1).2.2.2.2.2.2.1) ((kV 1).2.2.2.2.2.2.2)) ++ (HBg cI cZ cS aY aV aU aR (hR kA) (2 : Int32) kf kA kV kQ kP))) (va_runS (As := [.ref ((kA 1).1), .ref aS]) (rest := []) S (K1_copyState l D cI cZ cS cJ aS aL aW aB aF aZ aK aM ((kA 1).1) ((kA 1).2.1) ((kA 1).2.2.1) ((kA 1).2.2.2.1) ((kA 1).2.2.2.2.1) ((kA 1).2.2.2.2.2.1) ((kA 1).2.2.2.2.2.2.1) ((kA 1).2.2.2.2.2.2.2) sr wm wW bh bF bZ bK bM ((kV 1).1) ((kV 1).2.1) ((kV 1).2.2.1) ((kV 1).2.2.2.1) ((kV 1).2.2.2.2.1) ((kV 1).2.2.2.2.2.1) ((kV 1).2.2.2.2.2.2.1) ((kV 1).2.2.2.2.2.2.2) ((kV 1).1) ((kV 1).2.1) ((kV 1).2.2.1) ((kV 1).2.2.2.1) ((kV 1).2.2.2.2.1) ((kV 1).2.2.2.2.2.1) ((kV 1).2.2.2.2.2.2.1) ((kV 1).2.2.2.2.2.2.2) (cp_eq _ _ _ _ _ _ _ _ _ _ _ _ _ _ _ _)) (va_cwS 2 hts (gd_S wd_284 wd_285 wd_26 wd_286) rfl rfl rfl hdn1_copyState ⟨Nat.le_of_ble_eq_true rfl, Nat.le_of_ble_eq_true rfl⟩) (uPreS hK (hP.sub (ws' := (W44 cI aS aL aW aB aF aZ aK aM ((kA 1).1) ((kA 1).2.1) ((kA 1).2.2.1) ((kA 1).2.2.2.1) ((kA 1).2.2.2.2.1) ((kA 1).2.2.2.2.2.1) ((kA 1).2.2.2.2.2.2.1) ((kA 1).2.2.2.2.2.2.2) sr wm wW bh bF bZ bK bM ((kV 1).1) ((kV 1).2.1) ((kV 1).2.2.1) ((kV 1).2.2.2.1) ((kV 1).2.2.2.2.1) ((kV 1).2.2.2.2.2.1) ((kV 1).2.2.2.2.2.2.1) ((kV 1).2.2.2.2.2.2.2))) [0, 1, 2, 3, 4, 5, 6, 7, 20, 21, 22, 23, 24, 25, 26, 27] rfl) (hD.sub (ws' := (W44 cI aS aL aW aB aF aZ aK aM ((kA 1).1) ((kA 1).2.1) ((kA 1).2.2.1) ((kA 1).2.2.2.1) ((kA 1).2.2.2.2.1) ((kA 1).2.2.2.2.2.1) ((kA 1).2.2.2.2.2.2.1) ((kA 1).2.2.2.2.2.2.2) sr wm wW bh bF bZ bK bM ((kV 1).1) ((kV 1).2.1) ((kV 1).2.2.1) ((kV 1).2.2.2.1) ((kV 1).2.2.2.2.1) ((kV 1).2.2.2.2.2.1) ((kV 1).2.2.2.2.2.2.1) ((kV 1).2.2.2.2.2.2.2))) [0, 1, 2, 3, 4, 5, 6, 7, 20, 21, 22, 23, 24, 25, 26, 27] (by decide) rfl)) rfl rfl hl.1 rfl (lv_room (Nat.le_of_ble_eq_true rfl)) dX1_restoreLast_27 ⟨Nat.zero_le _, Nat.zero_le _⟩) hS hP hD [0, 1, 2, 3, 4, 5, 6, 7, 20, 21, 22, 23, 24, 25, 26, 27] rfl rfl rfl rfl (fun H locs hP hD hS => ?_)
      refine lv_aload_n hx hb dX1_restoreLast_30 rfl (lv_at hl 1 rfl) ?_
      refine lv_iload_n hx hb dX1_restoreLast_31 rfl (lv_at hl 0 rfl) ?_
      refine va_put (D := D) (ci := 1) (v := .int (1 : Int32)) (ty := .int) (C := RX1) (T := TX1) (N := 4) hx hb hts i_X1 tyX1 tyX1_ok nmX1 hown hK.1 hP hD hS 8 rfl rfl 3 (by decide) (hts _ wd_113) (fun _ h9 => h9) rfl (by decide +kernel) rfl rfl (Nat.le_of_ble_eq_true rfl) dX1_restoreLast_32 (fun H locs hP hD hS => ?_)
      have hP : va_P D vwCl ((W4 cI aS aL aW aB aF aZ aK aM ((kV 1).1) ((kV 1).2.1) ((kV 1).2.2.1) ((kV 1).2.2.2.1) ((kV 1).2.2.2.2.1) ((kV 1).2.2.2.2.2.1) ((kV 1).2.2.2.2.2.2.1) ((kV 1).2.2.2.2.2.2.2)) ++ (HBg cI cZ cS aY aV aU aR (hR kA) (1 : Int32) kf kA kV kQ kP)) H := hP
      have hD : va_D A0 ((W4 cI aS aL aW aB aF aZ aK aM ((kV 1).1) ((kV 1).2.1) ((kV 1).2.2.1) ((kV 1).2.2.2.1) ((kV 1).2.2.2.2.1) ((kV 1).2.2.2.2.2.1) ((kV 1).2.2.2.2.2.2.1) ((kV 1).2.2.2.2.2.2.2)) ++ (HBg cI cZ cS aY aV aU aR (hR kA) (1 : Int32) kf kA kV kQ kP)) := hD
      exact uretv2 hx hb hr hlocks hP hD hS dX1_restoreLast_35
set_option maxHeartbeats 4000000 in
set_option maxRecDepth 100000 in
theorem K1_restoreLast_3 (l : Launch) (D : va_G) (cI cZ cS cJ : ClassId) (aS aL aW aB aF aZ aK aM : Nat) (sr : Int32) (wm : Int32) (wW : Nat → Int32) (bh : Int32) (bF : Nat → Int32) (bZ : Nat → Int32) (bK : Nat → Int32) (bM : Nat → Int32) (aY aV aU aR : Nat) (kf : Nat → Int32) (kA kQ : Nat → SA) (kV kP : Nat → SV) : Met l yX1_restoreLast wsX1_restoreLast rm1_restoreLast (uP D (gT cI cZ cS cJ) ((W4 cI aS aL aW aB aF aZ aK aM sr wm wW bh bF bZ bK bM) ++ (HBg cI cZ cS aY aV aU aR (hR kA) (3 : Int32) kf kA kV kQ kP)) [.ref aY, .ref aS]) (uQ2 D none (uA ((W4 cI aS aL aW aB aF aZ aK aM sr wm wW bh bF bZ bK bM) ++ (HBg cI cZ cS aY aV aU aR (hR kA) (3 : Int32) kf kA kV kQ kP))) (W4 cI aS aL aW aB aF aZ aK aM (kV 2).1 (kV 2).2.1 (kV 2).2.2.1 (kV 2).2.2.2.1 (kV 2).2.2.2.2.1 (kV 2).2.2.2.2.2.1 (kV 2).2.2.2.2.2.2.1 (kV 2).2.2.2.2.2.2.2 ++ HBg cI cZ cS aY aV aU aR (hR kA) (2 : Int32) kf kA kV kQ kP)) 0 0 (uA ((W4 cI aS aL aW aB aF aZ aK aM sr wm wW bh bF bZ bK bM) ++ (HBg cI cZ cS aY aV aU aR (hR kA) (3 : Int32) kf kA kV kQ kP))) := by
  refine Met.ofW (cc := cX1_restoreLast) (maxL := 3) (ret := none) (by decide) rfl ?_
  intro p e s m args below meth c s₁ B hml hv
  obtain ⟨ha, hK, hP, hD0⟩ := hv
  have hx := B.exec
  have hb := B.bytes
  have hr := B.returns
  have hlocks := B.notSynchronized
  have hts : ∀ w ∈ lw_all, w.before args s = true := fun w h => atoms_spec (ws := wsX1_restoreLast) B.pre w (List.mem_cons_of_mem _ h)
  have hown : s.vm.findClass RX1 = some m.cls := findClass_of_methodNamed B.named
  have S : CallFix p m c cX1_restoreLast 3 s args lw_all RX1 := ⟨hx, hb, hml, hown, hts⟩
  have hD := hD0.own
  generalize uA ((W4 cI aS aL aW aB aF aZ aK aM sr wm wW bh bF bZ bK bM) ++ (HBg cI cZ cS aY aV aU aR (hR kA) (3 : Int32) kf kA kV kQ kP)) = A0 at hD ⊢
  have hS : va_S A0 s.heap s.heap [] := va_S.rf
  have hl := lv_entry ([.ref aY, .ref aS] : List Value) (n := 3) (Nat.le_of_ble_eq_true rfl)
  refine W.eq (g2 := F0 m 0 ((lg_sl ([.ref aY, .ref aS] : List Value) ++ List.replicate (3 - (lg_sl ([.ref aY, .ref aS] : List Value)).length) Slot.unset).toArray) []) (by rw [ha]; exact lg_entry_eq _ _ _) ?_
  generalize (lg_sl ([.ref aY, .ref aS] : List Value) ++ List.replicate (3 - (lg_sl ([.ref aY, .ref aS] : List Value)).length) Slot.unset).toArray = ls at hl ⊢
  have hl : lv_has ls 3 [(0, .ref aY), (1, .ref aS)] := hl
  show cW p l e wsX1_restoreLast rm1_restoreLast s m args below meth c D none A0 (W4 cI aS aL aW aB aF aZ aK aM (kV 2).1 (kV 2).2.1 (kV 2).2.2.1 (kV 2).2.2.2.1 (kV 2).2.2.2.2.1 (kV 2).2.2.2.2.2.1 (kV 2).2.2.2.2.2.2.1 (kV 2).2.2.2.2.2.2.2 ++ HBg cI cZ cS aY aV aU aR (hR kA) (2 : Int32) kf kA kV kQ kP) s.heap [] (F0 m 0 ls [])
  refine lv_aload_n hx hb dX1_restoreLast_0 rfl (lv_at hl 0 rfl) ?_
  refine va_get (D := D) (ci := 1) (v := .int (3 : Int32)) (C := RX1) (T := TX1) (N := 4) hx hb hts i_X1 hown hK.1 hP 8 rfl rfl 3 (by decide) (hts _ wd_113) (fun _ h9 => h9) rfl dX1_restoreLast_1 ?_
  refine lv_iconst hx hb dX1_restoreLast_4 kc_iconst_1 ?_
  refine lv_isub hx hb dX1_restoreLast_5 ?_
  refine lv_topi (fun t1 e2 => ?_)
  obtain rfl : t1 = (2 : Int32) := e2.trans (by decide)
  refine lv_istore_n (lv' := [(2, .int (2 : Int32)), (0, .ref aY), (1, .ref aS)]) hx hb dX1_restoreLast_6 rfl hl (by decide) rfl (fun ls hl => ?_)
  refine lv_iload_n hx hb dX1_restoreLast_7 rfl (lv_at hl 0 rfl) ?_
  refine lv_if_lt (tgt := 35) hx hb dX1_restoreLast_8 (by decide) (fun c3 => ?_) (fun c3 => ?_)
  · exact absurd c3 (by decide)
  · skip
    refine lv_iload_n hx hb dX1_restoreLast_11 rfl (lv_at hl 0 rfl) ?_
    refine lv_aload_n hx hb dX1_restoreLast_12 rfl (lv_at hl 1 rfl) ?_
    refine va_get (D := D) (ci := 1) (v := .ref aV) (C := RX1) (T := TX1) (N := 4) hx hb hts i_X1 hown hK.1 hP 8 rfl rfl 0 (by decide) (hts _ wd_110) (fun _ h9 => h9) rfl dX1_restoreLast_13 ?_
    refine va_alen (v := (6 : Int32)) hx hb hK.1 hP 9 2 rfl rfl rfl dX1_restoreLast_16 ?_
    refine lv_icmp_ge (tgt := 35) hx hb dX1_restoreLast_17 (by decide) (fun c4 => ?_) (fun c4 => ?_)
    · exact absurd c4 (by decide)
    · skip
      refine lv_aload_n hx hb dX1_restoreLast_20 rfl (lv_at hl 1 rfl) ?_
      refine va_get (D := D) (ci := 1) (v := .ref aV) (C := RX1) (T := TX1) (N := 4) hx hb hts i_X1 hown hK.1 hP 8 rfl rfl 0 (by decide) (hts _ wd_110) (fun _ h9 => h9) rfl dX1_restoreLast_21 ?_
      refine lv_iload_n hx hb dX1_restoreLast_24 rfl (lv_at hl 0 rfl) ?_
      refine va_aldq hx hb hK.1 hP 9 2 rfl rfl (inb_lit (by decide)) dX1_restoreLast_25 ?_
      refine lv_same (v' := .ref (kA 2).1) rfl ?_
      refine lv_aload_n hx hb dX1_restoreLast_26 rfl (lv_at hl 2 rfl) ?_
      refine ucallv (ws' := ((W4 cI aS aL aW aB aF aZ aK aM ((kV 2).1) ((kV 2).2.1) ((kV 2).2.2.1) ((kV 2).2.2.2.1) ((kV 2).2.2.2.2.1) ((kV 2).2.2.2.2.2.1) ((kV 2).2.2.2.2.2.2.1) ((kV 2).2.2.2.2.2.2.2)) ++ (HBg cI cZ cS aY aV aU aR (hR kA) (3 : Int32) kf kA kV kQ kP))) (va_runS (As := [.ref ((kA 2).1), .ref aS]) (rest := []) S (K1_copyState l D cI cZ cS cJ aS aL aW aB aF aZ aK aM ((kA 2).1) ((kA 2).2.1) ((kA 2).2.2.1) ((kA 2).2.2.2.1) ((kA 2).2.2.2.2.1) ((kA 2).2.2.2.2.2.1) ((kA 2).2.2.2.2.2.2.1) ((kA 2).2.2.2.2.2.2.2) sr wm wW bh bF bZ bK bM ((kV 2).1) ((kV 2).2.1) ((kV 2).2.2.1) ((kV 2).2.2.2.1) ((kV 2).2.2.2.2.1) ((kV 2).2.2.2.2.2.1) ((kV 2).2.2.2.2.2.2.1) ((kV 2).2.2.2.2.2.2.2) ((kV 2).1) ((kV 2).2.1) ((kV 2).2.2.1) ((kV 2).2.2.2.1) ((kV 2).2.2.2.2.1) ((kV 2).2.2.2.2.2.1) ((kV 2).2.2.2.2.2.2.1) ((kV 2).2.2.2.2.2.2.2) (cp_eq _ _ _ _ _ _ _ _ _ _ _ _ _ _ _ _)) (va_cwS 2 hts (gd_S wd_284 wd_285 wd_26 wd_286) rfl rfl rfl hdn1_copyState ⟨Nat.le_of_ble_eq_true rfl, Nat.le_of_ble_eq_true rfl⟩) (uPreS hK (hP.sub (ws' := (W44 cI aS aL aW aB aF aZ aK aM ((kA 2).1) ((kA 2).2.1) ((kA 2).2.2.1) ((kA 2).2.2.2.1) ((kA 2).2.2.2.2.1) ((kA 2).2.2.2.2.2.1) ((kA 2).2.2.2.2.2.2.1) ((kA 2).2.2.2.2.2.2.2) sr wm wW bh bF bZ bK bM ((kV 2).1) ((kV 2).2.1) ((kV 2).2.2.1) ((kV 2).2.2.2.1) ((kV 2).2.2.2.2.1) ((kV 2).2.2.2.2.2.1) ((kV 2).2.2.2.2.2.2.1) ((kV 2).2.2.2.2.2.2.2))) [0, 1, 2, 3, 4, 5, 6, 7, 28, 29, 30, 31, 32, 33, 34, 35] rfl) (hD.sub (ws' := (W44 cI aS aL aW aB aF aZ aK aM ((kA 2).1) ((kA 2).2.1) ((kA 2).2.2.1) ((kA 2).2.2.2.1) ((kA 2).2.2.2.2.1) ((kA 2).2.2.2.2.2.1) ((kA 2).2.2.2.2.2.2.1) ((kA 2).2.2.2.2.2.2.2) sr wm wW bh bF bZ bK bM ((kV 2).1) ((kV 2).2.1) ((kV 2).2.2.1) ((kV 2).2.2.2.1) ((kV 2).2.2.2.2.1) ((kV 2).2.2.2.2.2.1) ((kV 2).2.2.2.2.2.2.1) ((kV 2).2.2.2.2.2.2.2))) [0, 1, 2, 3, 4, 5, 6, 7, 28, 29, 30, 31, 32, 33, 34, 35] (by decide) rfl)) rfl rfl hl.1 rfl (lv_room (Nat.le_of_ble_eq_true rfl)) dX1_restoreLast_27 ⟨Nat.zero_le _, Nat.zero_le _⟩) hS hP hD [0, 1, 2, 3, 4, 5, 6, 7, 28, 29, 30, 31, 32, 33, 34, 35] rfl rfl rfl rfl (fun H locs hP hD hS => ?_)
      refine lv_aload_n hx hb dX1_restoreLast_30 rfl (lv_at hl 1 rfl) ?_
      refine lv_iload_n hx hb dX1_restoreLast_31 rfl (lv_at hl 0 rfl) ?_
      refine va_put (D := D) (ci := 1) (v := .int (2 : Int32)) (ty := .int) (C := RX1) (T := TX1) (N := 4) hx hb hts i_X1 tyX1 tyX1_ok nmX1 hown hK.1 hP hD hS 8 rfl rfl 3 (by decide) (hts _ wd_113) (fun _ h9 => h9) rfl (by decide +kernel) rfl rfl (Nat.le_of_ble_eq_true rfl) dX1_restoreLast_32 (fun H locs hP hD hS => ?_)
      have hP : va_P D vwCl ((W4 cI aS aL aW aB aF aZ aK aM ((kV 2).1) ((kV 2).2.1) ((kV 2).2.2.1) ((kV 2).2.2.2.1) ((kV 2).2.2.2.2.1) ((kV 2).2.2.2.2.2.1) ((kV 2).2.2.2.2.2.2.1) ((kV 2).2.2.2.2.2.2.2)) ++ (HBg cI cZ cS aY aV aU aR (hR kA) (2 : Int32) kf kA kV kQ kP)) H := hP
      have hD : va_D A0 ((W4 cI aS aL aW aB aF aZ aK aM ((kV 2).1) ((kV 2).2.1) ((kV 2).2.2.1) ((kV 2).2.2.2.1) ((kV 2).2.2.2.2.1) ((kV 2).2.2.2.2.2.1) ((kV 2).2.2.2.2.2.2.1) ((kV 2).2.2.2.2.2.2.2)) ++ (HBg cI cZ cS aY aV aU aR (hR kA) (2 : Int32) kf kA kV kQ kP)) := hD
      exact uretv2 hx hb hr hlocks hP hD hS dX1_restoreLast_35
set_option maxHeartbeats 4000000 in
set_option maxRecDepth 100000 in
theorem K1_restoreLast_4 (l : Launch) (D : va_G) (cI cZ cS cJ : ClassId) (aS aL aW aB aF aZ aK aM : Nat) (sr : Int32) (wm : Int32) (wW : Nat → Int32) (bh : Int32) (bF : Nat → Int32) (bZ : Nat → Int32) (bK : Nat → Int32) (bM : Nat → Int32) (aY aV aU aR : Nat) (kf : Nat → Int32) (kA kQ : Nat → SA) (kV kP : Nat → SV) : Met l yX1_restoreLast wsX1_restoreLast rm1_restoreLast (uP D (gT cI cZ cS cJ) ((W4 cI aS aL aW aB aF aZ aK aM sr wm wW bh bF bZ bK bM) ++ (HBg cI cZ cS aY aV aU aR (hR kA) (4 : Int32) kf kA kV kQ kP)) [.ref aY, .ref aS]) (uQ2 D none (uA ((W4 cI aS aL aW aB aF aZ aK aM sr wm wW bh bF bZ bK bM) ++ (HBg cI cZ cS aY aV aU aR (hR kA) (4 : Int32) kf kA kV kQ kP))) (W4 cI aS aL aW aB aF aZ aK aM (kV 3).1 (kV 3).2.1 (kV 3).2.2.1 (kV 3).2.2.2.1 (kV 3).2.2.2.2.1 (kV 3).2.2.2.2.2.1 (kV 3).2.2.2.2.2.2.1 (kV 3).2.2.2.2.2.2.2 ++ HBg cI cZ cS aY aV aU aR (hR kA) (3 : Int32) kf kA kV kQ kP)) 0 0 (uA ((W4 cI aS aL aW aB aF aZ aK aM sr wm wW bh bF bZ bK bM) ++ (HBg cI cZ cS aY aV aU aR (hR kA) (4 : Int32) kf kA kV kQ kP))) := by
  refine Met.ofW (cc := cX1_restoreLast) (maxL := 3) (ret := none) (by decide) rfl ?_
  intro p e s m args below meth c s₁ B hml hv
  obtain ⟨ha, hK, hP, hD0⟩ := hv
  have hx := B.exec
  have hb := B.bytes
  have hr := B.returns
  have hlocks := B.notSynchronized
  have hts : ∀ w ∈ lw_all, w.before args s = true := fun w h => atoms_spec (ws := wsX1_restoreLast) B.pre w (List.mem_cons_of_mem _ h)
  have hown : s.vm.findClass RX1 = some m.cls := findClass_of_methodNamed B.named
  have S : CallFix p m c cX1_restoreLast 3 s args lw_all RX1 := ⟨hx, hb, hml, hown, hts⟩
  have hD := hD0.own
  generalize uA ((W4 cI aS aL aW aB aF aZ aK aM sr wm wW bh bF bZ bK bM) ++ (HBg cI cZ cS aY aV aU aR (hR kA) (4 : Int32) kf kA kV kQ kP)) = A0 at hD ⊢
  have hS : va_S A0 s.heap s.heap [] := va_S.rf
  have hl := lv_entry ([.ref aY, .ref aS] : List Value) (n := 3) (Nat.le_of_ble_eq_true rfl)
  refine W.eq (g2 := F0 m 0 ((lg_sl ([.ref aY, .ref aS] : List Value) ++ List.replicate (3 - (lg_sl ([.ref aY, .ref aS] : List Value)).length) Slot.unset).toArray) []) (by rw [ha]; exact lg_entry_eq _ _ _) ?_
  generalize (lg_sl ([.ref aY, .ref aS] : List Value) ++ List.replicate (3 - (lg_sl ([.ref aY, .ref aS] : List Value)).length) Slot.unset).toArray = ls at hl ⊢
  have hl : lv_has ls 3 [(0, .ref aY), (1, .ref aS)] := hl
  show cW p l e wsX1_restoreLast rm1_restoreLast s m args below meth c D none A0 (W4 cI aS aL aW aB aF aZ aK aM (kV 3).1 (kV 3).2.1 (kV 3).2.2.1 (kV 3).2.2.2.1 (kV 3).2.2.2.2.1 (kV 3).2.2.2.2.2.1 (kV 3).2.2.2.2.2.2.1 (kV 3).2.2.2.2.2.2.2 ++ HBg cI cZ cS aY aV aU aR (hR kA) (3 : Int32) kf kA kV kQ kP) s.heap [] (F0 m 0 ls [])
  refine lv_aload_n hx hb dX1_restoreLast_0 rfl (lv_at hl 0 rfl) ?_
  refine va_get (D := D) (ci := 1) (v := .int (4 : Int32)) (C := RX1) (T := TX1) (N := 4) hx hb hts i_X1 hown hK.1 hP 8 rfl rfl 3 (by decide) (hts _ wd_113) (fun _ h9 => h9) rfl dX1_restoreLast_1 ?_
  refine lv_iconst hx hb dX1_restoreLast_4 kc_iconst_1 ?_
  refine lv_isub hx hb dX1_restoreLast_5 ?_
  refine lv_topi (fun t1 e2 => ?_)
  obtain rfl : t1 = (3 : Int32) := e2.trans (by decide)
  refine lv_istore_n (lv' := [(2, .int (3 : Int32)), (0, .ref aY), (1, .ref aS)]) hx hb dX1_restoreLast_6 rfl hl (by decide) rfl (fun ls hl => ?_)
  refine lv_iload_n hx hb dX1_restoreLast_7 rfl (lv_at hl 0 rfl) ?_
  refine lv_if_lt (tgt := 35) hx hb dX1_restoreLast_8 (by decide) (fun c3 => ?_) (fun c3 => ?_)
  · exact absurd c3 (by decide)
  · skip
    refine lv_iload_n hx hb dX1_restoreLast_11 rfl (lv_at hl 0 rfl) ?_
    refine lv_aload_n hx hb dX1_restoreLast_12 rfl (lv_at hl 1 rfl) ?_
    refine va_get (D := D) (ci := 1) (v := .ref aV) (C := RX1) (T := TX1) (N := 4) hx hb hts i_X1 hown hK.1 hP 8 rfl rfl 0 (by decide) (hts _ wd_110) (fun _ h9 => h9) rfl dX1_restoreLast_13 ?_
    refine va_alen (v := (6 : Int32)) hx hb hK.1 hP 9 2 rfl rfl rfl dX1_restoreLast_16 ?_
    refine lv_icmp_ge (tgt := 35) hx hb dX1_restoreLast_17 (by decide) (fun c4 => ?_) (fun c4 => ?_)
    · exact absurd c4 (by decide)
    · skip
      refine lv_aload_n hx hb dX1_restoreLast_20 rfl (lv_at hl 1 rfl) ?_
      refine va_get (D := D) (ci := 1) (v := .ref aV) (C := RX1) (T := TX1) (N := 4) hx hb hts i_X1 hown hK.1 hP 8 rfl rfl 0 (by decide) (hts _ wd_110) (fun _ h9 => h9) rfl dX1_restoreLast_21 ?_
      refine lv_iload_n hx hb dX1_restoreLast_24 rfl (lv_at hl 0 rfl) ?_
      refine va_aldq hx hb hK.1 hP 9 2 rfl rfl (inb_lit (by decide)) dX1_restoreLast_25 ?_
      refine lv_same (v' := .ref (kA 3).1) rfl ?_
      refine lv_aload_n hx hb dX1_restoreLast_26 rfl (lv_at hl 2 rfl) ?_
      refine ucallv (ws' := ((W4 cI aS aL aW aB aF aZ aK aM ((kV 3).1) ((kV 3).2.1) ((kV 3).2.2.1) ((kV 3).2.2.2.1) ((kV 3).2.2.2.2.1) ((kV 3).2.2.2.2.2.1) ((kV 3).2.2.2.2.2.2.1) ((kV 3).2.2.2.2.2.2.2)) ++ (HBg cI cZ cS aY aV aU aR (hR kA) (4 : Int32) kf kA kV kQ kP))) (va_runS (As := [.ref ((kA 3).1), .ref aS]) (rest := []) S (K1_copyState l D cI cZ cS cJ aS aL aW aB aF aZ aK aM ((kA 3).1) ((kA 3).2.1) ((kA 3).2.2.1) ((kA 3).2.2.2.1) ((kA 3).2.2.2.2.1) ((kA 3).2.2.2.2.2.1) ((kA 3).2.2.2.2.2.2.1) ((kA 3).2.2.2.2.2.2.2) sr wm wW bh bF bZ bK bM ((kV 3).1) ((kV 3).2.1) ((kV 3).2.2.1) ((kV 3).2.2.2.1) ((kV 3).2.2.2.2.1) ((kV 3).2.2.2.2.2.1) ((kV 3).2.2.2.2.2.2.1) ((kV 3).2.2.2.2.2.2.2) ((kV 3).1) ((kV 3).2.1) ((kV 3).2.2.1) ((kV 3).2.2.2.1) ((kV 3).2.2.2.2.1) ((kV 3).2.2.2.2.2.1) ((kV 3).2.2.2.2.2.2.1) ((kV 3).2.2.2.2.2.2.2) (cp_eq _ _ _ _ _ _ _ _ _ _ _ _ _ _ _ _)) (va_cwS 2 hts (gd_S wd_284 wd_285 wd_26 wd_286) rfl rfl rfl hdn1_copyState ⟨Nat.le_of_ble_eq_true rfl, Nat.le_of_ble_eq_true rfl⟩) (uPreS hK (hP.sub (ws' := (W44 cI aS aL aW aB aF aZ aK aM ((kA 3).1) ((kA 3).2.1) ((kA 3).2.2.1) ((kA 3).2.2.2.1) ((kA 3).2.2.2.2.1) ((kA 3).2.2.2.2.2.1) ((kA 3).2.2.2.2.2.2.1) ((kA 3).2.2.2.2.2.2.2) sr wm wW bh bF bZ bK bM ((kV 3).1) ((kV 3).2.1) ((kV 3).2.2.1) ((kV 3).2.2.2.1) ((kV 3).2.2.2.2.1) ((kV 3).2.2.2.2.2.1) ((kV 3).2.2.2.2.2.2.1) ((kV 3).2.2.2.2.2.2.2))) [0, 1, 2, 3, 4, 5, 6, 7, 36, 37, 38, 39, 40, 41, 42, 43] rfl) (hD.sub (ws' := (W44 cI aS aL aW aB aF aZ aK aM ((kA 3).1) ((kA 3).2.1) ((kA 3).2.2.1) ((kA 3).2.2.2.1) ((kA 3).2.2.2.2.1) ((kA 3).2.2.2.2.2.1) ((kA 3).2.2.2.2.2.2.1) ((kA 3).2.2.2.2.2.2.2) sr wm wW bh bF bZ bK bM ((kV 3).1) ((kV 3).2.1) ((kV 3).2.2.1) ((kV 3).2.2.2.1) ((kV 3).2.2.2.2.1) ((kV 3).2.2.2.2.2.1) ((kV 3).2.2.2.2.2.2.1) ((kV 3).2.2.2.2.2.2.2))) [0, 1, 2, 3, 4, 5, 6, 7, 36, 37, 38, 39, 40, 41, 42, 43] (by decide) rfl)) rfl rfl hl.1 rfl (lv_room (Nat.le_of_ble_eq_true rfl)) dX1_restoreLast_27 ⟨Nat.zero_le _, Nat.zero_le _⟩) hS hP hD [0, 1, 2, 3, 4, 5, 6, 7, 36, 37, 38, 39, 40, 41, 42, 43] rfl rfl rfl rfl (fun H locs hP hD hS => ?_)
      refine lv_aload_n hx hb dX1_restoreLast_30 rfl (lv_at hl 1 rfl) ?_
      refine lv_iload_n hx hb dX1_restoreLast_31 rfl (lv_at hl 0 rfl) ?_
      refine va_put (D := D) (ci := 1) (v := .int (3 : Int32)) (ty := .int) (C := RX1) (T := TX1) (N := 4) hx hb hts i_X1 tyX1 tyX1_ok nmX1 hown hK.1 hP hD hS 8 rfl rfl 3 (by decide) (hts _ wd_113) (fun _ h9 => h9) rfl (by decide +kernel) rfl rfl (Nat.le_of_ble_eq_true rfl) dX1_restoreLast_32 (fun H locs hP hD hS => ?_)
      have hP : va_P D vwCl ((W4 cI aS aL aW aB aF aZ aK aM ((kV 3).1) ((kV 3).2.1) ((kV 3).2.2.1) ((kV 3).2.2.2.1) ((kV 3).2.2.2.2.1) ((kV 3).2.2.2.2.2.1) ((kV 3).2.2.2.2.2.2.1) ((kV 3).2.2.2.2.2.2.2)) ++ (HBg cI cZ cS aY aV aU aR (hR kA) (3 : Int32) kf kA kV kQ kP)) H := hP
      have hD : va_D A0 ((W4 cI aS aL aW aB aF aZ aK aM ((kV 3).1) ((kV 3).2.1) ((kV 3).2.2.1) ((kV 3).2.2.2.1) ((kV 3).2.2.2.2.1) ((kV 3).2.2.2.2.2.1) ((kV 3).2.2.2.2.2.2.1) ((kV 3).2.2.2.2.2.2.2)) ++ (HBg cI cZ cS aY aV aU aR (hR kA) (3 : Int32) kf kA kV kQ kP)) := hD
      exact uretv2 hx hb hr hlocks hP hD hS dX1_restoreLast_35
set_option maxHeartbeats 4000000 in
set_option maxRecDepth 100000 in
theorem K1_restoreLast_5 (l : Launch) (D : va_G) (cI cZ cS cJ : ClassId) (aS aL aW aB aF aZ aK aM : Nat) (sr : Int32) (wm : Int32) (wW : Nat → Int32) (bh : Int32) (bF : Nat → Int32) (bZ : Nat → Int32) (bK : Nat → Int32) (bM : Nat → Int32) (aY aV aU aR : Nat) (kf : Nat → Int32) (kA kQ : Nat → SA) (kV kP : Nat → SV) : Met l yX1_restoreLast wsX1_restoreLast rm1_restoreLast (uP D (gT cI cZ cS cJ) ((W4 cI aS aL aW aB aF aZ aK aM sr wm wW bh bF bZ bK bM) ++ (HBg cI cZ cS aY aV aU aR (hR kA) (5 : Int32) kf kA kV kQ kP)) [.ref aY, .ref aS]) (uQ2 D none (uA ((W4 cI aS aL aW aB aF aZ aK aM sr wm wW bh bF bZ bK bM) ++ (HBg cI cZ cS aY aV aU aR (hR kA) (5 : Int32) kf kA kV kQ kP))) (W4 cI aS aL aW aB aF aZ aK aM (kV 4).1 (kV 4).2.1 (kV 4).2.2.1 (kV 4).2.2.2.1 (kV 4).2.2.2.2.1 (kV 4).2.2.2.2.2.1 (kV 4).2.2.2.2.2.2.1 (kV 4).2.2.2.2.2.2.2 ++ HBg cI cZ cS aY aV aU aR (hR kA) (4 : Int32) kf kA kV kQ kP)) 0 0 (uA ((W4 cI aS aL aW aB aF aZ aK aM sr wm wW bh bF bZ bK bM) ++ (HBg cI cZ cS aY aV aU aR (hR kA) (5 : Int32) kf kA kV kQ kP))) := by
  refine Met.ofW (cc := cX1_restoreLast) (maxL := 3) (ret := none) (by decide) rfl ?_
  intro p e s m args below meth c s₁ B hml hv
  obtain ⟨ha, hK, hP, hD0⟩ := hv
  have hx := B.exec
  have hb := B.bytes
  have hr := B.returns
  have hlocks := B.notSynchronized
  have hts : ∀ w ∈ lw_all, w.before args s = true := fun w h => atoms_spec (ws := wsX1_restoreLast) B.pre w (List.mem_cons_of_mem _ h)
  have hown : s.vm.findClass RX1 = some m.cls := findClass_of_methodNamed B.named
  have S : CallFix p m c cX1_restoreLast 3 s args lw_all RX1 := ⟨hx, hb, hml, hown, hts⟩
  have hD := hD0.own
  generalize uA ((W4 cI aS aL aW aB aF aZ aK aM sr wm wW bh bF bZ bK bM) ++ (HBg cI cZ cS aY aV aU aR (hR kA) (5 : Int32) kf kA kV kQ kP)) = A0 at hD ⊢
  have hS : va_S A0 s.heap s.heap [] := va_S.rf
  have hl := lv_entry ([.ref aY, .ref aS] : List Value) (n := 3) (Nat.le_of_ble_eq_true rfl)
  refine W.eq (g2 := F0 m 0 ((lg_sl ([.ref aY, .ref aS] : List Value) ++ List.replicate (3 - (lg_sl ([.ref aY, .ref aS] : List Value)).length) Slot.unset).toArray) []) (by rw [ha]; exact lg_entry_eq _ _ _) ?_
  generalize (lg_sl ([.ref aY, .ref aS] : List Value) ++ List.replicate (3 - (lg_sl ([.ref aY, .ref aS] : List Value)).length) Slot.unset).toArray = ls at hl ⊢
  have hl : lv_has ls 3 [(0, .ref aY), (1, .ref aS)] := hl
  show cW p l e wsX1_restoreLast rm1_restoreLast s m args below meth c D none A0 (W4 cI aS aL aW aB aF aZ aK aM (kV 4).1 (kV 4).2.1 (kV 4).2.2.1 (kV 4).2.2.2.1 (kV 4).2.2.2.2.1 (kV 4).2.2.2.2.2.1 (kV 4).2.2.2.2.2.2.1 (kV 4).2.2.2.2.2.2.2 ++ HBg cI cZ cS aY aV aU aR (hR kA) (4 : Int32) kf kA kV kQ kP) s.heap [] (F0 m 0 ls [])
  refine lv_aload_n hx hb dX1_restoreLast_0 rfl (lv_at hl 0 rfl) ?_
  refine va_get (D := D) (ci := 1) (v := .int (5 : Int32)) (C := RX1) (T := TX1) (N := 4) hx hb hts i_X1 hown hK.1 hP 8 rfl rfl 3 (by decide) (hts _ wd_113) (fun _ h9 => h9) rfl dX1_restoreLast_1 ?_
  refine lv_iconst hx hb dX1_restoreLast_4 kc_iconst_1 ?_
  refine lv_isub hx hb dX1_restoreLast_5 ?_
  refine lv_topi (fun t1 e2 => ?_)
  obtain rfl : t1 = (4 : Int32) := e2.trans (by decide)
  refine lv_istore_n (lv' := [(2, .int (4 : Int32)), (0, .ref aY), (1, .ref aS)]) hx hb dX1_restoreLast_6 rfl hl (by decide) rfl (fun ls hl => ?_)
  refine lv_iload_n hx hb dX1_restoreLast_7 rfl (lv_at hl 0 rfl) ?_
  refine lv_if_lt (tgt := 35) hx hb dX1_restoreLast_8 (by decide) (fun c3 => ?_) (fun c3 => ?_)
  · exact absurd c3 (by decide)
  · skip
    refine lv_iload_n hx hb dX1_restoreLast_11 rfl (lv_at hl 0 rfl) ?_
    refine lv_aload_n hx hb dX1_restoreLast_12 rfl (lv_at hl 1 rfl) ?_
    refine va_get (D := D) (ci := 1) (v := .ref aV) (C := RX1) (T := TX1) (N := 4) hx hb hts i_X1 hown hK.1 hP 8 rfl rfl 0 (by decide) (hts _ wd_110) (fun _ h9 => h9) rfl dX1_restoreLast_13 ?_
    refine va_alen (v := (6 : Int32)) hx hb hK.1 hP 9 2 rfl rfl rfl dX1_restoreLast_16 ?_
    refine lv_icmp_ge (tgt := 35) hx hb dX1_restoreLast_17 (by decide) (fun c4 => ?_) (fun c4 => ?_)
    · exact absurd c4 (by decide)
    · skip
      refine lv_aload_n hx hb dX1_restoreLast_20 rfl (lv_at hl 1 rfl) ?_
      refine va_get (D := D) (ci := 1) (v := .ref aV) (C := RX1) (T := TX1) (N := 4) hx hb hts i_X1 hown hK.1 hP 8 rfl rfl 0 (by decide) (hts _ wd_110) (fun _ h9 => h9) rfl dX1_restoreLast_21 ?_
      refine lv_iload_n hx hb dX1_restoreLast_24 rfl (lv_at hl 0 rfl) ?_
      refine va_aldq hx hb hK.1 hP 9 2 rfl rfl (inb_lit (by decide)) dX1_restoreLast_25 ?_
      refine lv_same (v' := .ref (kA 4).1) rfl ?_
      refine lv_aload_n hx hb dX1_restoreLast_26 rfl (lv_at hl 2 rfl) ?_
      refine ucallv (ws' := ((W4 cI aS aL aW aB aF aZ aK aM ((kV 4).1) ((kV 4).2.1) ((kV 4).2.2.1) ((kV 4).2.2.2.1) ((kV 4).2.2.2.2.1) ((kV 4).2.2.2.2.2.1) ((kV 4).2.2.2.2.2.2.1) ((kV 4).2.2.2.2.2.2.2)) ++ (HBg cI cZ cS aY aV aU aR (hR kA) (5 : Int32) kf kA kV kQ kP))) (va_runS (As := [.ref ((kA 4).1), .ref aS]) (rest := []) S (K1_copyState l D cI cZ cS cJ aS aL aW aB aF aZ aK aM ((kA 4).1) ((kA 4).2.1) ((kA 4).2.2.1) ((kA 4).2.2.2.1) ((kA 4).2.2.2.2.1) ((kA 4).2.2.2.2.2.1) ((kA 4).2.2.2.2.2.2.1) ((kA 4).2.2.2.2.2.2.2) sr wm wW bh bF bZ bK bM ((kV 4).1) ((kV 4).2.1) ((kV 4).2.2.1) ((kV 4).2.2.2.1) ((kV 4).2.2.2.2.1) ((kV 4).2.2.2.2.2.1) ((kV 4).2.2.2.2.2.2.1) ((kV 4).2.2.2.2.2.2.2) ((kV 4).1) ((kV 4).2.1) ((kV 4).2.2.1) ((kV 4).2.2.2.1) ((kV 4).2.2.2.2.1) ((kV 4).2.2.2.2.2.1) ((kV 4).2.2.2.2.2.2.1) ((kV 4).2.2.2.2.2.2.2) (cp_eq _ _ _ _ _ _ _ _ _ _ _ _ _ _ _ _)) (va_cwS 2 hts (gd_S wd_284 wd_285 wd_26 wd_286) rfl rfl rfl hdn1_copyState ⟨Nat.le_of_ble_eq_true rfl, Nat.le_of_ble_eq_true rfl⟩) (uPreS hK (hP.sub (ws' := (W44 cI aS aL aW aB aF aZ aK aM ((kA 4).1) ((kA 4).2.1) ((kA 4).2.2.1) ((kA 4).2.2.2.1) ((kA 4).2.2.2.2.1) ((kA 4).2.2.2.2.2.1) ((kA 4).2.2.2.2.2.2.1) ((kA 4).2.2.2.2.2.2.2) sr wm wW bh bF bZ bK bM ((kV 4).1) ((kV 4).2.1) ((kV 4).2.2.1) ((kV 4).2.2.2.1) ((kV 4).2.2.2.2.1) ((kV 4).2.2.2.2.2.1) ((kV 4).2.2.2.2.2.2.1) ((kV 4).2.2.2.2.2.2.2))) [0, 1, 2, 3, 4, 5, 6, 7, 44, 45, 46, 47, 48, 49, 50, 51] rfl) (hD.sub (ws' := (W44 cI aS aL aW aB aF aZ aK aM ((kA 4).1) ((kA 4).2.1) ((kA 4).2.2.1) ((kA 4).2.2.2.1) ((kA 4).2.2.2.2.1) ((kA 4).2.2.2.2.2.1) ((kA 4).2.2.2.2.2.2.1) ((kA 4).2.2.2.2.2.2.2) sr wm wW bh bF bZ bK bM ((kV 4).1) ((kV 4).2.1) ((kV 4).2.2.1) ((kV 4).2.2.2.1) ((kV 4).2.2.2.2.1) ((kV 4).2.2.2.2.2.1) ((kV 4).2.2.2.2.2.2.1) ((kV 4).2.2.2.2.2.2.2))) [0, 1, 2, 3, 4, 5, 6, 7, 44, 45, 46, 47, 48, 49, 50, 51] (by decide) rfl)) rfl rfl hl.1 rfl (lv_room (Nat.le_of_ble_eq_true rfl)) dX1_restoreLast_27 ⟨Nat.zero_le _, Nat.zero_le _⟩) hS hP hD [0, 1, 2, 3, 4, 5, 6, 7, 44, 45, 46, 47, 48, 49, 50, 51] rfl rfl rfl rfl (fun H locs hP hD hS => ?_)
      refine lv_aload_n hx hb dX1_restoreLast_30 rfl (lv_at hl 1 rfl) ?_
      refine lv_iload_n hx hb dX1_restoreLast_31 rfl (lv_at hl 0 rfl) ?_
      refine va_put (D := D) (ci := 1) (v := .int (4 : Int32)) (ty := .int) (C := RX1) (T := TX1) (N := 4) hx hb hts i_X1 tyX1 tyX1_ok nmX1 hown hK.1 hP hD hS 8 rfl rfl 3 (by decide) (hts _ wd_113) (fun _ h9 => h9) rfl (by decide +kernel) rfl rfl (Nat.le_of_ble_eq_true rfl) dX1_restoreLast_32 (fun H locs hP hD hS => ?_)
      have hP : va_P D vwCl ((W4 cI aS aL aW aB aF aZ aK aM ((kV 4).1) ((kV 4).2.1) ((kV 4).2.2.1) ((kV 4).2.2.2.1) ((kV 4).2.2.2.2.1) ((kV 4).2.2.2.2.2.1) ((kV 4).2.2.2.2.2.2.1) ((kV 4).2.2.2.2.2.2.2)) ++ (HBg cI cZ cS aY aV aU aR (hR kA) (4 : Int32) kf kA kV kQ kP)) H := hP
      have hD : va_D A0 ((W4 cI aS aL aW aB aF aZ aK aM ((kV 4).1) ((kV 4).2.1) ((kV 4).2.2.1) ((kV 4).2.2.2.1) ((kV 4).2.2.2.2.1) ((kV 4).2.2.2.2.2.1) ((kV 4).2.2.2.2.2.2.1) ((kV 4).2.2.2.2.2.2.2)) ++ (HBg cI cZ cS aY aV aU aR (hR kA) (4 : Int32) kf kA kV kQ kP)) := hD
      exact uretv2 hx hb hr hlocks hP hD hS dX1_restoreLast_35
set_option maxHeartbeats 4000000 in
set_option maxRecDepth 100000 in
theorem K1_restoreLast_6 (l : Launch) (D : va_G) (cI cZ cS cJ : ClassId) (aS aL aW aB aF aZ aK aM : Nat) (sr : Int32) (wm : Int32) (wW : Nat → Int32) (bh : Int32) (bF : Nat → Int32) (bZ : Nat → Int32) (bK : Nat → Int32) (bM : Nat → Int32) (aY aV aU aR : Nat) (kf : Nat → Int32) (kA kQ : Nat → SA) (kV kP : Nat → SV) : Met l yX1_restoreLast wsX1_restoreLast rm1_restoreLast (uP D (gT cI cZ cS cJ) ((W4 cI aS aL aW aB aF aZ aK aM sr wm wW bh bF bZ bK bM) ++ (HBg cI cZ cS aY aV aU aR (hR kA) (6 : Int32) kf kA kV kQ kP)) [.ref aY, .ref aS]) (uQ2 D none (uA ((W4 cI aS aL aW aB aF aZ aK aM sr wm wW bh bF bZ bK bM) ++ (HBg cI cZ cS aY aV aU aR (hR kA) (6 : Int32) kf kA kV kQ kP))) (W4 cI aS aL aW aB aF aZ aK aM (kV 5).1 (kV 5).2.1 (kV 5).2.2.1 (kV 5).2.2.2.1 (kV 5).2.2.2.2.1 (kV 5).2.2.2.2.2.1 (kV 5).2.2.2.2.2.2.1 (kV 5).2.2.2.2.2.2.2 ++ HBg cI cZ cS aY aV aU aR (hR kA) (5 : Int32) kf kA kV kQ kP)) 0 0 (uA ((W4 cI aS aL aW aB aF aZ aK aM sr wm wW bh bF bZ bK bM) ++ (HBg cI cZ cS aY aV aU aR (hR kA) (6 : Int32) kf kA kV kQ kP))) := by
  refine Met.ofW (cc := cX1_restoreLast) (maxL := 3) (ret := none) (by decide) rfl ?_
  intro p e s m args below meth c s₁ B hml hv
  obtain ⟨ha, hK, hP, hD0⟩ := hv
  have hx := B.exec
  have hb := B.bytes
  have hr := B.returns
  have hlocks := B.notSynchronized
  have hts : ∀ w ∈ lw_all, w.before args s = true := fun w h => atoms_spec (ws := wsX1_restoreLast) B.pre w (List.mem_cons_of_mem _ h)
  have hown : s.vm.findClass RX1 = some m.cls := findClass_of_methodNamed B.named
  have S : CallFix p m c cX1_restoreLast 3 s args lw_all RX1 := ⟨hx, hb, hml, hown, hts⟩
  have hD := hD0.own
  generalize uA ((W4 cI aS aL aW aB aF aZ aK aM sr wm wW bh bF bZ bK bM) ++ (HBg cI cZ cS aY aV aU aR (hR kA) (6 : Int32) kf kA kV kQ kP)) = A0 at hD ⊢
  have hS : va_S A0 s.heap s.heap [] := va_S.rf
  have hl := lv_entry ([.ref aY, .ref aS] : List Value) (n := 3) (Nat.le_of_ble_eq_true rfl)
  refine W.eq (g2 := F0 m 0 ((lg_sl ([.ref aY, .ref aS] : List Value) ++ List.replicate (3 - (lg_sl ([.ref aY, .ref aS] : List Value)).length) Slot.unset).toArray) []) (by rw [ha]; exact lg_entry_eq _ _ _) ?_
  generalize (lg_sl ([.ref aY, .ref aS] : List Value) ++ List.replicate (3 - (lg_sl ([.ref aY, .ref aS] : List Value)).length) Slot.unset).toArray = ls at hl ⊢
  have hl : lv_has ls 3 [(0, .ref aY), (1, .ref aS)] := hl
  show cW p l e wsX1_restoreLast rm1_restoreLast s m args below meth c D none A0 (W4 cI aS aL aW aB aF aZ aK aM (kV 5).1 (kV 5).2.1 (kV 5).2.2.1 (kV 5).2.2.2.1 (kV 5).2.2.2.2.1 (kV 5).2.2.2.2.2.1 (kV 5).2.2.2.2.2.2.1 (kV 5).2.2.2.2.2.2.2 ++ HBg cI cZ cS aY aV aU aR (hR kA) (5 : Int32) kf kA kV kQ kP) s.heap [] (F0 m 0 ls [])
  refine lv_aload_n hx hb dX1_restoreLast_0 rfl (lv_at hl 0 rfl) ?_
  refine va_get (D := D) (ci := 1) (v := .int (6 : Int32)) (C := RX1) (T := TX1) (N := 4) hx hb hts i_X1 hown hK.1 hP 8 rfl rfl 3 (by decide) (hts _ wd_113) (fun _ h9 => h9) rfl dX1_restoreLast_1 ?_
  refine lv_iconst hx hb dX1_restoreLast_4 kc_iconst_1 ?_
  refine lv_isub hx hb dX1_restoreLast_5 ?_
  refine lv_topi (fun t1 e2 => ?_)
  obtain rfl : t1 = (5 : Int32) := e2.trans (by decide)
  refine lv_istore_n (lv' := [(2, .int (5 : Int32)), (0, .ref aY), (1, .ref aS)]) hx hb dX1_restoreLast_6 rfl hl (by decide) rfl (fun ls hl => ?_)
  refine lv_iload_n hx hb dX1_restoreLast_7 rfl (lv_at hl 0 rfl) ?_
  refine lv_if_lt (tgt := 35) hx hb dX1_restoreLast_8 (by decide) (fun c3 => ?_) (fun c3 => ?_)
  · exact absurd c3 (by decide)
  · skip
    refine lv_iload_n hx hb dX1_restoreLast_11 rfl (lv_at hl 0 rfl) ?_
    refine lv_aload_n hx hb dX1_restoreLast_12 rfl (lv_at hl 1 rfl) ?_
    refine va_get (D := D) (ci := 1) (v := .ref aV) (C := RX1) (T := TX1) (N := 4) hx hb hts i_X1 hown hK.1 hP 8 rfl rfl 0 (by decide) (hts _ wd_110) (fun _ h9 => h9) rfl dX1_restoreLast_13 ?_
    refine va_alen (v := (6 : Int32)) hx hb hK.1 hP 9 2 rfl rfl rfl dX1_restoreLast_16 ?_
    refine lv_icmp_ge (tgt := 35) hx hb dX1_restoreLast_17 (by decide) (fun c4 => ?_) (fun c4 => ?_)
    · exact absurd c4 (by decide)
    · skip
      refine lv_aload_n hx hb dX1_restoreLast_20 rfl (lv_at hl 1 rfl) ?_
      refine va_get (D := D) (ci := 1) (v := .ref aV) (C := RX1) (T := TX1) (N := 4) hx hb hts i_X1 hown hK.1 hP 8 rfl rfl 0 (by decide) (hts _ wd_110) (fun _ h9 => h9) rfl dX1_restoreLast_21 ?_
      refine lv_iload_n hx hb dX1_restoreLast_24 rfl (lv_at hl 0 rfl) ?_
      refine va_aldq hx hb hK.1 hP 9 2 rfl rfl (inb_lit (by decide)) dX1_restoreLast_25 ?_
      refine lv_same (v' := .ref (kA 5).1) rfl ?_
      refine lv_aload_n hx hb dX1_restoreLast_26 rfl (lv_at hl 2 rfl) ?_
      refine ucallv (ws' := ((W4 cI aS aL aW aB aF aZ aK aM ((kV 5).1) ((kV 5).2.1) ((kV 5).2.2.1) ((kV 5).2.2.2.1) ((kV 5).2.2.2.2.1) ((kV 5).2.2.2.2.2.1) ((kV 5).2.2.2.2.2.2.1) ((kV 5).2.2.2.2.2.2.2)) ++ (HBg cI cZ cS aY aV aU aR (hR kA) (6 : Int32) kf kA kV kQ kP))) (va_runS (As := [.ref ((kA 5).1), .ref aS]) (rest := []) S (K1_copyState l D cI cZ cS cJ aS aL aW aB aF aZ aK aM ((kA 5).1) ((kA 5).2.1) ((kA 5).2.2.1) ((kA 5).2.2.2.1) ((kA 5).2.2.2.2.1) ((kA 5).2.2.2.2.2.1) ((kA 5).2.2.2.2.2.2.1) ((kA 5).2.2.2.2.2.2.2) sr wm wW bh bF bZ bK bM ((kV 5).1) ((kV 5).2.1) ((kV 5).2.2.1) ((kV 5).2.2.2.1) ((kV 5).2.2.2.2.1) ((kV 5).2.2.2.2.2.1) ((kV 5).2.2.2.2.2.2.1) ((kV 5).2.2.2.2.2.2.2) ((kV 5).1) ((kV 5).2.1) ((kV 5).2.2.1) ((kV 5).2.2.2.1) ((kV 5).2.2.2.2.1) ((kV 5).2.2.2.2.2.1) ((kV 5).2.2.2.2.2.2.1) ((kV 5).2.2.2.2.2.2.2) (cp_eq _ _ _ _ _ _ _ _ _ _ _ _ _ _ _ _)) (va_cwS 2 hts (gd_S wd_284 wd_285 wd_26 wd_286) rfl rfl rfl hdn1_copyState ⟨Nat.le_of_ble_eq_true rfl, Nat.le_of_ble_eq_true rfl⟩) (uPreS hK (hP.sub (ws' := (W44 cI aS aL aW aB aF aZ aK aM ((kA 5).1) ((kA 5).2.1) ((kA 5).2.2.1) ((kA 5).2.2.2.1) ((kA 5).2.2.2.2.1) ((kA 5).2.2.2.2.2.1) ((kA 5).2.2.2.2.2.2.1) ((kA 5).2.2.2.2.2.2.2) sr wm wW bh bF bZ bK bM ((kV 5).1) ((kV 5).2.1) ((kV 5).2.2.1) ((kV 5).2.2.2.1) ((kV 5).2.2.2.2.1) ((kV 5).2.2.2.2.2.1) ((kV 5).2.2.2.2.2.2.1) ((kV 5).2.2.2.2.2.2.2))) [0, 1, 2, 3, 4, 5, 6, 7, 52, 53, 54, 55, 56, 57, 58, 59] rfl) (hD.sub (ws' := (W44 cI aS aL aW aB aF aZ aK aM ((kA 5).1) ((kA 5).2.1) ((kA 5).2.2.1) ((kA 5).2.2.2.1) ((kA 5).2.2.2.2.1) ((kA 5).2.2.2.2.2.1) ((kA 5).2.2.2.2.2.2.1) ((kA 5).2.2.2.2.2.2.2) sr wm wW bh bF bZ bK bM ((kV 5).1) ((kV 5).2.1) ((kV 5).2.2.1) ((kV 5).2.2.2.1) ((kV 5).2.2.2.2.1) ((kV 5).2.2.2.2.2.1) ((kV 5).2.2.2.2.2.2.1) ((kV 5).2.2.2.2.2.2.2))) [0, 1, 2, 3, 4, 5, 6, 7, 52, 53, 54, 55, 56, 57, 58, 59] (by decide) rfl)) rfl rfl hl.1 rfl (lv_room (Nat.le_of_ble_eq_true rfl)) dX1_restoreLast_27 ⟨Nat.zero_le _, Nat.zero_le _⟩) hS hP hD [0, 1, 2, 3, 4, 5, 6, 7, 52, 53, 54, 55, 56, 57, 58, 59] rfl rfl rfl rfl (fun H locs hP hD hS => ?_)
      refine lv_aload_n hx hb dX1_restoreLast_30 rfl (lv_at hl 1 rfl) ?_
      refine lv_iload_n hx hb dX1_restoreLast_31 rfl (lv_at hl 0 rfl) ?_
      refine va_put (D := D) (ci := 1) (v := .int (5 : Int32)) (ty := .int) (C := RX1) (T := TX1) (N := 4) hx hb hts i_X1 tyX1 tyX1_ok nmX1 hown hK.1 hP hD hS 8 rfl rfl 3 (by decide) (hts _ wd_113) (fun _ h9 => h9) rfl (by decide +kernel) rfl rfl (Nat.le_of_ble_eq_true rfl) dX1_restoreLast_32 (fun H locs hP hD hS => ?_)
      have hP : va_P D vwCl ((W4 cI aS aL aW aB aF aZ aK aM ((kV 5).1) ((kV 5).2.1) ((kV 5).2.2.1) ((kV 5).2.2.2.1) ((kV 5).2.2.2.2.1) ((kV 5).2.2.2.2.2.1) ((kV 5).2.2.2.2.2.2.1) ((kV 5).2.2.2.2.2.2.2)) ++ (HBg cI cZ cS aY aV aU aR (hR kA) (5 : Int32) kf kA kV kQ kP)) H := hP
      have hD : va_D A0 ((W4 cI aS aL aW aB aF aZ aK aM ((kV 5).1) ((kV 5).2.1) ((kV 5).2.2.1) ((kV 5).2.2.2.1) ((kV 5).2.2.2.2.1) ((kV 5).2.2.2.2.2.1) ((kV 5).2.2.2.2.2.2.1) ((kV 5).2.2.2.2.2.2.2)) ++ (HBg cI cZ cS aY aV aU aR (hR kA) (5 : Int32) kf kA kV kQ kP)) := hD
      exact uretv2 hx hb hr hlocks hP hD hS dX1_restoreLast_35
set_option maxHeartbeats 4000000 in
set_option maxRecDepth 100000 in
theorem K1_putIntoSlot_0 (l : Launch) (D : va_G) (cI cZ cS cJ : ClassId) (aS aL aW aB aF aZ aK aM : Nat) (sr : Int32) (wm : Int32) (wW : Nat → Int32) (bh : Int32) (bF : Nat → Int32) (bZ : Nat → Int32) (bK : Nat → Int32) (bM : Nat → Int32) (aY aV aU aR : Nat) (kd : Int32) (kf : Nat → Int32) (kA kQ : Nat → SA) (kV kP : Nat → SV) : Met l yX1_putIntoSlot wsX1_putIntoSlot rm1_putIntoSlot (uP D (gT cI cZ cS cJ) ((W4 cI aS aL aW aB aF aZ aK aM sr wm wW bh bF bZ bK bM) ++ (HBg cI cZ cS aY aV aU aR (hR kA) kd kf kA kV kQ kP)) [.ref aY, .int (0 : Int32), .ref aS]) (uQ2 D none (uA ((W4 cI aS aL aW aB aF aZ aK aM sr wm wW bh bF bZ bK bM) ++ (HBg cI cZ cS aY aV aU aR (hR kA) kd kf kA kV kQ kP))) ((W4 cI aS aL aW aB aF aZ aK aM sr wm wW bh bF bZ bK bM) ++ HBg cI cZ cS aY aV aU aR (hR kA) kd (upd kf 0 1) kA kV kQ (va_up kP 0 (sr, wm, wW, bh, bF, bZ, bK, bM)))) 0 0 (uA ((W4 cI aS aL aW aB aF aZ aK aM sr wm wW bh bF bZ bK bM) ++ (HBg cI cZ cS aY aV aU aR (hR kA) kd kf kA kV kQ kP))) := by
  refine Met.ofW (cc := cX1_putIntoSlot) (maxL := 3) (ret := none) (by decide) rfl ?_
  intro p e s m args below meth c s₁ B hml hv
  obtain ⟨ha, hK, hP, hD0⟩ := hv
  have hx := B.exec
  have hb := B.bytes
  have hr := B.returns
  have hlocks := B.notSynchronized
  have hts : ∀ w ∈ lw_all, w.before args s = true := fun w h => atoms_spec (ws := wsX1_putIntoSlot) B.pre w (List.mem_cons_of_mem _ h)
  have hown : s.vm.findClass RX1 = some m.cls := findClass_of_methodNamed B.named
  have S : CallFix p m c cX1_putIntoSlot 3 s args lw_all RX1 := ⟨hx, hb, hml, hown, hts⟩
  have hD := hD0.own
  generalize uA ((W4 cI aS aL aW aB aF aZ aK aM sr wm wW bh bF bZ bK bM) ++ (HBg cI cZ cS aY aV aU aR (hR kA) kd kf kA kV kQ kP)) = A0 at hD ⊢
  have hS : va_S A0 s.heap s.heap [] := va_S.rf
  have hl := lv_entry ([.ref aY, .int (0 : Int32), .ref aS] : List Value) (n := 3) (Nat.le_of_ble_eq_true rfl)
  refine W.eq (g2 := F0 m 0 ((lg_sl ([.ref aY, .int (0 : Int32), .ref aS] : List Value) ++ List.replicate (3 - (lg_sl ([.ref aY, .int (0 : Int32), .ref aS] : List Value)).length) Slot.unset).toArray) []) (by rw [ha]; exact lg_entry_eq _ _ _) ?_
  generalize (lg_sl ([.ref aY, .int (0 : Int32), .ref aS] : List Value) ++ List.replicate (3 - (lg_sl ([.ref aY, .int (0 : Int32), .ref aS] : List Value)).length) Slot.unset).toArray = ls at hl ⊢
  have hl : lv_has ls 3 [(0, .ref aY), (1, .int (0 : Int32)), (2, .ref aS)] := hl
  show cW p l e wsX1_putIntoSlot rm1_putIntoSlot s m args below meth c D none A0 ((W4 cI aS aL aW aB aF aZ aK aM sr wm wW bh bF bZ bK bM) ++ HBg cI cZ cS aY aV aU aR (hR kA) kd (upd kf 0 1) kA kV kQ (va_up kP 0 (sr, wm, wW, bh, bF, bZ, bK, bM))) s.heap [] (F0 m 0 ls [])
  refine lv_iload_n hx hb dX1_putIntoSlot_0 rfl (lv_at hl 1 rfl) ?_
  refine lv_if_lt (tgt := 39) hx hb dX1_putIntoSlot_1 (by decide) (fun c1 => ?_) (fun c1 => ?_)
  · exact absurd c1 (by decide)
  · skip
    refine lv_iload_n hx hb dX1_putIntoSlot_4 rfl (lv_at hl 1 rfl) ?_
    refine lv_aload_n hx hb dX1_putIntoSlot_5 rfl (lv_at hl 0 rfl) ?_
    refine va_get (D := D) (ci := 1) (v := .ref aU) (C := RX1) (T := TX1) (N := 4) hx hb hts i_X1 hown hK.1 hP 8 rfl rfl 1 (by decide) (hts _ wd_111) (fun _ h9 => h9) rfl dX1_putIntoSlot_6 ?_
    refine va_alen (v := (2 : Int32)) hx hb hK.1 hP 10 2 rfl rfl rfl dX1_putIntoSlot_9 ?_
    refine lv_icmp_ge (tgt := 39) hx hb dX1_putIntoSlot_10 (by decide) (fun c2 => ?_) (fun c2 => ?_)
    · exact absurd c2 (by decide)
    · skip
      refine lv_iload_n hx hb dX1_putIntoSlot_13 rfl (lv_at hl 1 rfl) ?_
      refine lv_aload_n hx hb dX1_putIntoSlot_14 rfl (lv_at hl 0 rfl) ?_
      refine va_get (D := D) (ci := 1) (v := .ref aR) (C := RX1) (T := TX1) (N := 4) hx hb hts i_X1 hown hK.1 hP 8 rfl rfl 2 (by decide) (hts _ wd_112) (fun _ h9 => h9) rfl dX1_putIntoSlot_15 ?_
      refine va_alen (v := (2 : Int32)) hx hb hK.1 hP 11 1 rfl rfl rfl dX1_putIntoSlot_18 ?_
      refine lv_icmp_ge (tgt := 39) hx hb dX1_putIntoSlot_19 (by decide) (fun c3 => ?_) (fun c3 => ?_)
      · exact absurd c3 (by decide)
      · skip
        refine lv_aload_n hx hb dX1_putIntoSlot_22 rfl (lv_at hl 2 rfl) ?_
        refine lv_aload_n hx hb dX1_putIntoSlot_23 rfl (lv_at hl 0 rfl) ?_
        refine va_get (D := D) (ci := 1) (v := .ref aU) (C := RX1) (T := TX1) (N := 4) hx hb hts i_X1 hown hK.1 hP 8 rfl rfl 1 (by decide) (hts _ wd_111) (fun _ h9 => h9) rfl dX1_putIntoSlot_24 ?_
        refine lv_iload_n hx hb dX1_putIntoSlot_27 rfl (lv_at hl 1 rfl) ?_
        refine va_aldq hx hb hK.1 hP 10 2 rfl rfl (inb_lit (by decide)) dX1_putIntoSlot_28 ?_
        refine lv_same (v' := .ref (kQ 0).1) rfl ?_
        refine ucallv (ws' := ((W4 cI aS aL aW aB aF aZ aK aM sr wm wW bh bF bZ bK bM) ++ (HBg cI cZ cS aY aV aU aR (hR kA) kd kf kA kV kQ (va_up kP 0 (sr, wm, wW, bh, bF, bZ, bK, bM))))) (va_runS (As := [.ref aS, .ref ((kQ 0).1)]) (rest := []) S (K1_copyState l D cI cZ cS cJ ((kQ 0).1) ((kQ 0).2.1) ((kQ 0).2.2.1) ((kQ 0).2.2.2.1) ((kQ 0).2.2.2.2.1) ((kQ 0).2.2.2.2.2.1) ((kQ 0).2.2.2.2.2.2.1) ((kQ 0).2.2.2.2.2.2.2) aS aL aW aB aF aZ aK aM ((kP 0).1) ((kP 0).2.1) ((kP 0).2.2.1) ((kP 0).2.2.2.1) ((kP 0).2.2.2.2.1) ((kP 0).2.2.2.2.2.1) ((kP 0).2.2.2.2.2.2.1) ((kP 0).2.2.2.2.2.2.2) sr wm wW bh bF bZ bK bM sr wm wW bh bF bZ bK bM (cp_eq _ _ _ _ _ _ _ _ _ _ _ _ _ _ _ _)) (va_cwS 2 hts (gd_S wd_284 wd_285 wd_26 wd_286) rfl rfl rfl hdn1_copyState ⟨Nat.le_of_ble_eq_true rfl, Nat.le_of_ble_eq_true rfl⟩) (uPreS hK (hP.sub (ws' := (W44 cI ((kQ 0).1) ((kQ 0).2.1) ((kQ 0).2.2.1) ((kQ 0).2.2.2.1) ((kQ 0).2.2.2.2.1) ((kQ 0).2.2.2.2.2.1) ((kQ 0).2.2.2.2.2.2.1) ((kQ 0).2.2.2.2.2.2.2) aS aL aW aB aF aZ aK aM ((kP 0).1) ((kP 0).2.1) ((kP 0).2.2.1) ((kP 0).2.2.2.1) ((kP 0).2.2.2.2.1) ((kP 0).2.2.2.2.2.1) ((kP 0).2.2.2.2.2.2.1) ((kP 0).2.2.2.2.2.2.2) sr wm wW bh bF bZ bK bM)) [60, 61, 62, 63, 64, 65, 66, 67, 0, 1, 2, 3, 4, 5, 6, 7] rfl) (hD.sub (ws' := (W44 cI ((kQ 0).1) ((kQ 0).2.1) ((kQ 0).2.2.1) ((kQ 0).2.2.2.1) ((kQ 0).2.2.2.2.1) ((kQ 0).2.2.2.2.2.1) ((kQ 0).2.2.2.2.2.2.1) ((kQ 0).2.2.2.2.2.2.2) aS aL aW aB aF aZ aK aM ((kP 0).1) ((kP 0).2.1) ((kP 0).2.2.1) ((kP 0).2.2.2.1) ((kP 0).2.2.2.2.1) ((kP 0).2.2.2.2.2.1) ((kP 0).2.2.2.2.2.2.1) ((kP 0).2.2.2.2.2.2.2) sr wm wW bh bF bZ bK bM)) [60, 61, 62, 63, 64, 65, 66, 67, 0, 1, 2, 3, 4, 5, 6, 7] (by decide) rfl)) rfl rfl hl.1 rfl (lv_room (Nat.le_of_ble_eq_true rfl)) dX1_putIntoSlot_29 ⟨Nat.zero_le _, Nat.zero_le _⟩) hS hP hD [60, 61, 62, 63, 64, 65, 66, 67, 0, 1, 2, 3, 4, 5, 6, 7] rfl rfl rfl rfl (fun H locs hP hD hS => ?_)
        refine lv_aload_n hx hb dX1_putIntoSlot_32 rfl (lv_at hl 0 rfl) ?_
        refine va_get (D := D) (ci := 1) (v := .ref aR) (C := RX1) (T := TX1) (N := 4) hx hb hts i_X1 hown hK.1 hP 8 rfl rfl 2 (by decide) (hts _ wd_112) (fun _ h9 => h9) rfl dX1_putIntoSlot_33 ?_
        refine lv_iload_n hx hb dX1_putIntoSlot_36 rfl (lv_at hl 1 rfl) ?_
        refine lv_iconst hx hb dX1_putIntoSlot_37 kc_iconst_1 ?_
        refine va_zast hx hb hK.1 hP hD hS 11 1 rfl rfl (inb_lit (by decide)) dX1_putIntoSlot_38 (fun H locs hP hD hS => ?_)
        have hP : va_P D vwCl ((W4 cI aS aL aW aB aF aZ aK aM sr wm wW bh bF bZ bK bM) ++ (HBg cI cZ cS aY aV aU aR (hR kA) kd (upd kf 0 1) kA kV kQ (va_up kP 0 (sr, wm, wW, bh, bF, bZ, bK, bM)))) H := hP
        have hD : va_D A0 ((W4 cI aS aL aW aB aF aZ aK aM sr wm wW bh bF bZ bK bM) ++ (HBg cI cZ cS aY aV aU aR (hR kA) kd (upd kf 0 1) kA kV kQ (va_up kP 0 (sr, wm, wW, bh, bF, bZ, bK, bM)))) := hD
        exact uretv2 hx hb hr hlocks hP hD hS dX1_putIntoSlot_39
set_option maxHeartbeats 4000000 in
set_option maxRecDepth 100000 in
theorem K1_putIntoSlot_1 (l : Launch) (D : va_G) (cI cZ cS cJ : ClassId) (aS aL aW aB aF aZ aK aM : Nat) (sr : Int32) (wm : Int32) (wW : Nat → Int32) (bh : Int32) (bF : Nat → Int32) (bZ : Nat → Int32) (bK : Nat → Int32) (bM : Nat → Int32) (aY aV aU aR : Nat) (kd : Int32) (kf : Nat → Int32) (kA kQ : Nat → SA) (kV kP : Nat → SV) : Met l yX1_putIntoSlot wsX1_putIntoSlot rm1_putIntoSlot (uP D (gT cI cZ cS cJ) ((W4 cI aS aL aW aB aF aZ aK aM sr wm wW bh bF bZ bK bM) ++ (HBg cI cZ cS aY aV aU aR (hR kA) kd kf kA kV kQ kP)) [.ref aY, .int (1 : Int32), .ref aS]) (uQ2 D none (uA ((W4 cI aS aL aW aB aF aZ aK aM sr wm wW bh bF bZ bK bM) ++ (HBg cI cZ cS aY aV aU aR (hR kA) kd kf kA kV kQ kP))) ((W4 cI aS aL aW aB aF aZ aK aM sr wm wW bh bF bZ bK bM) ++ HBg cI cZ cS aY aV aU aR (hR kA) kd (upd kf 1 1) kA kV kQ (va_up kP 1 (sr, wm, wW, bh, bF, bZ, bK, bM)))) 0 0 (uA ((W4 cI aS aL aW aB aF aZ aK aM sr wm wW bh bF bZ bK bM) ++ (HBg cI cZ cS aY aV aU aR (hR kA) kd kf kA kV kQ kP))) := by
  refine Met.ofW (cc := cX1_putIntoSlot) (maxL := 3) (ret := none) (by decide) rfl ?_
  intro p e s m args below meth c s₁ B hml hv
  obtain ⟨ha, hK, hP, hD0⟩ := hv
  have hx := B.exec
  have hb := B.bytes
  have hr := B.returns
  have hlocks := B.notSynchronized
  have hts : ∀ w ∈ lw_all, w.before args s = true := fun w h => atoms_spec (ws := wsX1_putIntoSlot) B.pre w (List.mem_cons_of_mem _ h)
  have hown : s.vm.findClass RX1 = some m.cls := findClass_of_methodNamed B.named
  have S : CallFix p m c cX1_putIntoSlot 3 s args lw_all RX1 := ⟨hx, hb, hml, hown, hts⟩
  have hD := hD0.own
  generalize uA ((W4 cI aS aL aW aB aF aZ aK aM sr wm wW bh bF bZ bK bM) ++ (HBg cI cZ cS aY aV aU aR (hR kA) kd kf kA kV kQ kP)) = A0 at hD ⊢
  have hS : va_S A0 s.heap s.heap [] := va_S.rf
  have hl := lv_entry ([.ref aY, .int (1 : Int32), .ref aS] : List Value) (n := 3) (Nat.le_of_ble_eq_true rfl)
  refine W.eq (g2 := F0 m 0 ((lg_sl ([.ref aY, .int (1 : Int32), .ref aS] : List Value) ++ List.replicate (3 - (lg_sl ([.ref aY, .int (1 : Int32), .ref aS] : List Value)).length) Slot.unset).toArray) []) (by rw [ha]; exact lg_entry_eq _ _ _) ?_
  generalize (lg_sl ([.ref aY, .int (1 : Int32), .ref aS] : List Value) ++ List.replicate (3 - (lg_sl ([.ref aY, .int (1 : Int32), .ref aS] : List Value)).length) Slot.unset).toArray = ls at hl ⊢
  have hl : lv_has ls 3 [(0, .ref aY), (1, .int (1 : Int32)), (2, .ref aS)] := hl
  show cW p l e wsX1_putIntoSlot rm1_putIntoSlot s m args below meth c D none A0 ((W4 cI aS aL aW aB aF aZ aK aM sr wm wW bh bF bZ bK bM) ++ HBg cI cZ cS aY aV aU aR (hR kA) kd (upd kf 1 1) kA kV kQ (va_up kP 1 (sr, wm, wW, bh, bF, bZ, bK, bM))) s.heap [] (F0 m 0 ls [])
  refine lv_iload_n hx hb dX1_putIntoSlot_0 rfl (lv_at hl 1 rfl) ?_
  refine lv_if_lt (tgt := 39) hx hb dX1_putIntoSlot_1 (by decide) (fun c1 => ?_) (fun c1 => ?_)
  · exact absurd c1 (by decide)
  · skip
    refine lv_iload_n hx hb dX1_putIntoSlot_4 rfl (lv_at hl 1 rfl) ?_
    refine lv_aload_n hx hb dX1_putIntoSlot_5 rfl (lv_at hl 0 rfl) ?_
    refine va_get (D := D) (ci := 1) (v := .ref aU) (C := RX1) (T := TX1) (N := 4) hx hb hts i_X1 hown hK.1 hP 8 rfl rfl 1 (by decide) (hts _ wd_111) (fun _ h9 => h9) rfl dX1_putIntoSlot_6 ?_
    refine va_alen (v := (2 : Int32)) hx hb hK.1 hP 10 2 rfl rfl rfl dX1_putIntoSlot_9 ?_
    refine lv_icmp_ge (tgt := 39) hx hb dX1_putIntoSlot_10 (by decide) (fun c2 => ?_) (fun c2 => ?_)
    · exact absurd c2 (by decide)
    · skip
      refine lv_iload_n hx hb dX1_putIntoSlot_13 rfl (lv_at hl 1 rfl) ?_
      refine lv_aload_n hx hb dX1_putIntoSlot_14 rfl (lv_at hl 0 rfl) ?_
      refine va_get (D := D) (ci := 1) (v := .ref aR) (C := RX1) (T := TX1) (N := 4) hx hb hts i_X1 hown hK.1 hP 8 rfl rfl 2 (by decide) (hts _ wd_112) (fun _ h9 => h9) rfl dX1_putIntoSlot_15 ?_
      refine va_alen (v := (2 : Int32)) hx hb hK.1 hP 11 1 rfl rfl rfl dX1_putIntoSlot_18 ?_
      refine lv_icmp_ge (tgt := 39) hx hb dX1_putIntoSlot_19 (by decide) (fun c3 => ?_) (fun c3 => ?_)
      · exact absurd c3 (by decide)
      · skip
        refine lv_aload_n hx hb dX1_putIntoSlot_22 rfl (lv_at hl 2 rfl) ?_
        refine lv_aload_n hx hb dX1_putIntoSlot_23 rfl (lv_at hl 0 rfl) ?_
        refine va_get (D := D) (ci := 1) (v := .ref aU) (C := RX1) (T := TX1) (N := 4) hx hb hts i_X1 hown hK.1 hP 8 rfl rfl 1 (by decide) (hts _ wd_111) (fun _ h9 => h9) rfl dX1_putIntoSlot_24 ?_
        refine lv_iload_n hx hb dX1_putIntoSlot_27 rfl (lv_at hl 1 rfl) ?_
        refine va_aldq hx hb hK.1 hP 10 2 rfl rfl (inb_lit (by decide)) dX1_putIntoSlot_28 ?_
        refine lv_same (v' := .ref (kQ 1).1) rfl ?_
        refine ucallv (ws' := ((W4 cI aS aL aW aB aF aZ aK aM sr wm wW bh bF bZ bK bM) ++ (HBg cI cZ cS aY aV aU aR (hR kA) kd kf kA kV kQ (va_up kP 1 (sr, wm, wW, bh, bF, bZ, bK, bM))))) (va_runS (As := [.ref aS, .ref ((kQ 1).1)]) (rest := []) S (K1_copyState l D cI cZ cS cJ ((kQ 1).1) ((kQ 1).2.1) ((kQ 1).2.2.1) ((kQ 1).2.2.2.1) ((kQ 1).2.2.2.2.1) ((kQ 1).2.2.2.2.2.1) ((kQ 1).2.2.2.2.2.2.1) ((kQ 1).2.2.2.2.2.2.2) aS aL aW aB aF aZ aK aM ((kP 1).1) ((kP 1).2.1) ((kP 1).2.2.1) ((kP 1).2.2.2.1) ((kP 1).2.2.2.2.1) ((kP 1).2.2.2.2.2.1) ((kP 1).2.2.2.2.2.2.1) ((kP 1).2.2.2.2.2.2.2) sr wm wW bh bF bZ bK bM sr wm wW bh bF bZ bK bM (cp_eq _ _ _ _ _ _ _ _ _ _ _ _ _ _ _ _)) (va_cwS 2 hts (gd_S wd_284 wd_285 wd_26 wd_286) rfl rfl rfl hdn1_copyState ⟨Nat.le_of_ble_eq_true rfl, Nat.le_of_ble_eq_true rfl⟩) (uPreS hK (hP.sub (ws' := (W44 cI ((kQ 1).1) ((kQ 1).2.1) ((kQ 1).2.2.1) ((kQ 1).2.2.2.1) ((kQ 1).2.2.2.2.1) ((kQ 1).2.2.2.2.2.1) ((kQ 1).2.2.2.2.2.2.1) ((kQ 1).2.2.2.2.2.2.2) aS aL aW aB aF aZ aK aM ((kP 1).1) ((kP 1).2.1) ((kP 1).2.2.1) ((kP 1).2.2.2.1) ((kP 1).2.2.2.2.1) ((kP 1).2.2.2.2.2.1) ((kP 1).2.2.2.2.2.2.1) ((kP 1).2.2.2.2.2.2.2) sr wm wW bh bF bZ bK bM)) [68, 69, 70, 71, 72, 73, 74, 75, 0, 1, 2, 3, 4, 5, 6, 7] rfl) (hD.sub (ws' := (W44 cI ((kQ 1).1) ((kQ 1).2.1) ((kQ 1).2.2.1) ((kQ 1).2.2.2.1) ((kQ 1).2.2.2.2.1) ((kQ 1).2.2.2.2.2.1) ((kQ 1).2.2.2.2.2.2.1) ((kQ 1).2.2.2.2.2.2.2) aS aL aW aB aF aZ aK aM ((kP 1).1) ((kP 1).2.1) ((kP 1).2.2.1) ((kP 1).2.2.2.1) ((kP 1).2.2.2.2.1) ((kP 1).2.2.2.2.2.1) ((kP 1).2.2.2.2.2.2.1) ((kP 1).2.2.2.2.2.2.2) sr wm wW bh bF bZ bK bM)) [68, 69, 70, 71, 72, 73, 74, 75, 0, 1, 2, 3, 4, 5, 6, 7] (by decide) rfl)) rfl rfl hl.1 rfl (lv_room (Nat.le_of_ble_eq_true rfl)) dX1_putIntoSlot_29 ⟨Nat.zero_le _, Nat.zero_le _⟩) hS hP hD [68, 69, 70, 71, 72, 73, 74, 75, 0, 1, 2, 3, 4, 5, 6, 7] rfl rfl rfl rfl (fun H locs hP hD hS => ?_)
        refine lv_aload_n hx hb dX1_putIntoSlot_32 rfl (lv_at hl 0 rfl) ?_
        refine va_get (D := D) (ci := 1) (v := .ref aR) (C := RX1) (T := TX1) (N := 4) hx hb hts i_X1 hown hK.1 hP 8 rfl rfl 2 (by decide) (hts _ wd_112) (fun _ h9 => h9) rfl dX1_putIntoSlot_33 ?_
        refine lv_iload_n hx hb dX1_putIntoSlot_36 rfl (lv_at hl 1 rfl) ?_
        refine lv_iconst hx hb dX1_putIntoSlot_37 kc_iconst_1 ?_
        refine va_zast hx hb hK.1 hP hD hS 11 1 rfl rfl (inb_lit (by decide)) dX1_putIntoSlot_38 (fun H locs hP hD hS => ?_)
        have hP : va_P D vwCl ((W4 cI aS aL aW aB aF aZ aK aM sr wm wW bh bF bZ bK bM) ++ (HBg cI cZ cS aY aV aU aR (hR kA) kd (upd kf 1 1) kA kV kQ (va_up kP 1 (sr, wm, wW, bh, bF, bZ, bK, bM)))) H := hP
        have hD : va_D A0 ((W4 cI aS aL aW aB aF aZ aK aM sr wm wW bh bF bZ bK bM) ++ (HBg cI cZ cS aY aV aU aR (hR kA) kd (upd kf 1 1) kA kV kQ (va_up kP 1 (sr, wm, wW, bh, bF, bZ, bK, bM)))) := hD
        exact uretv2 hx hb hr hlocks hP hD hS dX1_putIntoSlot_39
set_option maxHeartbeats 4000000 in
set_option maxRecDepth 100000 in
theorem K1_restoreSlot_0 (l : Launch) (D : va_G) (cI cZ cS cJ : ClassId) (aS aL aW aB aF aZ aK aM : Nat) (sr : Int32) (wm : Int32) (wW : Nat → Int32) (bh : Int32) (bF : Nat → Int32) (bZ : Nat → Int32) (bK : Nat → Int32) (bM : Nat → Int32) (aY aV aU aR : Nat) (kd : Int32) (kf : Nat → Int32) (kA kQ : Nat → SA) (kV kP : Nat → SV) : Met l yX1_restoreSlot wsX1_restoreSlot rm1_restoreSlot (uP D (gT cI cZ cS cJ) ((W4 cI aS aL aW aB aF aZ aK aM sr wm wW bh bF bZ bK bM) ++ (HBg cI cZ cS aY aV aU aR (hR kA) kd kf kA kV kQ kP)) [.ref aY, .int (0 : Int32), .ref aS]) (uQ2 D none (uA ((W4 cI aS aL aW aB aF aZ aK aM sr wm wW bh bF bZ bK bM) ++ (HBg cI cZ cS aY aV aU aR (hR kA) kd kf kA kV kQ kP))) (W4 cI aS aL aW aB aF aZ aK aM (kP 0).1 (kP 0).2.1 (kP 0).2.2.1 (kP 0).2.2.2.1 (kP 0).2.2.2.2.1 (kP 0).2.2.2.2.2.1 (kP 0).2.2.2.2.2.2.1 (kP 0).2.2.2.2.2.2.2 ++ HBg cI cZ cS aY aV aU aR (hR kA) kd kf kA kV kQ kP)) 0 0 (uA ((W4 cI aS aL aW aB aF aZ aK aM sr wm wW bh bF bZ bK bM) ++ (HBg cI cZ cS aY aV aU aR (hR kA) kd kf kA kV kQ kP))) := by
  refine Met.ofW (cc := cX1_restoreSlot) (maxL := 3) (ret := none) (by decide) rfl ?_
  intro p e s m args below meth c s₁ B hml hv
  obtain ⟨ha, hK, hP, hD0⟩ := hv
  have hx := B.exec
  have hb := B.bytes
  have hr := B.returns
  have hlocks := B.notSynchronized
  have hts : ∀ w ∈ lw_all, w.before args s = true := fun w h => atoms_spec (ws := wsX1_restoreSlot) B.pre w (List.mem_cons_of_mem _ h)
  have hown : s.vm.findClass RX1 = some m.cls := findClass_of_methodNamed B.named
  have S : CallFix p m c cX1_restoreSlot 3 s args lw_all RX1 := ⟨hx, hb, hml, hown, hts⟩
  have hD := hD0.own
  generalize uA ((W4 cI aS aL aW aB aF aZ aK aM sr wm wW bh bF bZ bK bM) ++ (HBg cI cZ cS aY aV aU aR (hR kA) kd kf kA kV kQ kP)) = A0 at hD ⊢
  have hS : va_S A0 s.heap s.heap [] := va_S.rf
  have hl := lv_entry ([.ref aY, .int (0 : Int32), .ref aS] : List Value) (n := 3) (Nat.le_of_ble_eq_true rfl)
  refine W.eq (g2 := F0 m 0 ((lg_sl ([.ref aY, .int (0 : Int32), .ref aS] : List Value) ++ List.replicate (3 - (lg_sl ([.ref aY, .int (0 : Int32), .ref aS] : List Value)).length) Slot.unset).toArray) []) (by rw [ha]; exact lg_entry_eq _ _ _) ?_
  generalize (lg_sl ([.ref aY, .int (0 : Int32), .ref aS] : List Value) ++ List.replicate (3 - (lg_sl ([.ref aY, .int (0 : Int32), .ref aS] : List Value)).length) Slot.unset).toArray = ls at hl ⊢
  have hl : lv_has ls 3 [(0, .ref aY), (1, .int (0 : Int32)), (2, .ref aS)] := hl
  show cW p l e wsX1_restoreSlot rm1_restoreSlot s m args below meth c D none A0 (W4 cI aS aL aW aB aF aZ aK aM (kP 0).1 (kP 0).2.1 (kP 0).2.2.1 (kP 0).2.2.2.1 (kP 0).2.2.2.2.1 (kP 0).2.2.2.2.2.1 (kP 0).2.2.2.2.2.2.1 (kP 0).2.2.2.2.2.2.2 ++ HBg cI cZ cS aY aV aU aR (hR kA) kd kf kA kV kQ kP) s.heap [] (F0 m 0 ls [])
  refine lv_iload_n hx hb dX1_restoreSlot_0 rfl (lv_at hl 1 rfl) ?_
  refine lv_if_lt (tgt := 23) hx hb dX1_restoreSlot_1 (by decide) (fun c1 => ?_) (fun c1 => ?_)
  · exact absurd c1 (by decide)
  · skip
    refine lv_iload_n hx hb dX1_restoreSlot_4 rfl (lv_at hl 1 rfl) ?_
    refine lv_aload_n hx hb dX1_restoreSlot_5 rfl (lv_at hl 0 rfl) ?_
    refine va_get (D := D) (ci := 1) (v := .ref aU) (C := RX1) (T := TX1) (N := 4) hx hb hts i_X1 hown hK.1 hP 8 rfl rfl 1 (by decide) (hts _ wd_111) (fun _ h9 => h9) rfl dX1_restoreSlot_6 ?_
    refine va_alen (v := (2 : Int32)) hx hb hK.1 hP 10 2 rfl rfl rfl dX1_restoreSlot_9 ?_
    refine lv_icmp_ge (tgt := 23) hx hb dX1_restoreSlot_10 (by decide) (fun c2 => ?_) (fun c2 => ?_)
    · exact absurd c2 (by decide)
    · skip
      refine lv_aload_n hx hb dX1_restoreSlot_13 rfl (lv_at hl 0 rfl) ?_
      refine va_get (D := D) (ci := 1) (v := .ref aU) (C := RX1) (T := TX1) (N := 4) hx hb hts i_X1 hown hK.1 hP 8 rfl rfl 1 (by decide) (hts _ wd_111) (fun _ h9 => h9) rfl dX1_restoreSlot_14 ?_
      refine lv_iload_n hx hb dX1_restoreSlot_17 rfl (lv_at hl 1 rfl) ?_
      refine va_aldq hx hb hK.1 hP 10 2 rfl rfl (inb_lit (by decide)) dX1_restoreSlot_18 ?_
      refine lv_same (v' := .ref (kQ 0).1) rfl ?_
      refine lv_aload_n hx hb dX1_restoreSlot_19 rfl (lv_at hl 2 rfl) ?_
      refine ucallv (ws' := ((W4 cI aS aL aW aB aF aZ aK aM ((kP 0).1) ((kP 0).2.1) ((kP 0).2.2.1) ((kP 0).2.2.2.1) ((kP 0).2.2.2.2.1) ((kP 0).2.2.2.2.2.1) ((kP 0).2.2.2.2.2.2.1) ((kP 0).2.2.2.2.2.2.2)) ++ (HBg cI cZ cS aY aV aU aR (hR kA) kd kf kA kV kQ kP))) (va_runS (As := [.ref ((kQ 0).1), .ref aS]) (rest := []) S (K1_copyState l D cI cZ cS cJ aS aL aW aB aF aZ aK aM ((kQ 0).1) ((kQ 0).2.1) ((kQ 0).2.2.1) ((kQ 0).2.2.2.1) ((kQ 0).2.2.2.2.1) ((kQ 0).2.2.2.2.2.1) ((kQ 0).2.2.2.2.2.2.1) ((kQ 0).2.2.2.2.2.2.2) sr wm wW bh bF bZ bK bM ((kP 0).1) ((kP 0).2.1) ((kP 0).2.2.1) ((kP 0).2.2.2.1) ((kP 0).2.2.2.2.1) ((kP 0).2.2.2.2.2.1) ((kP 0).2.2.2.2.2.2.1) ((kP 0).2.2.2.2.2.2.2) ((kP 0).1) ((kP 0).2.1) ((kP 0).2.2.1) ((kP 0).2.2.2.1) ((kP 0).2.2.2.2.1) ((kP 0).2.2.2.2.2.1) ((kP 0).2.2.2.2.2.2.1) ((kP 0).2.2.2.2.2.2.2) (cp_eq _ _ _ _ _ _ _ _ _ _ _ _ _ _ _ _)) (va_cwS 2 hts (gd_S wd_284 wd_285 wd_26 wd_286) rfl rfl rfl hdn1_copyState ⟨Nat.le_of_ble_eq_true rfl, Nat.le_of_ble_eq_true rfl⟩) (uPreS hK (hP.sub (ws' := (W44 cI aS aL aW aB aF aZ aK aM ((kQ 0).1) ((kQ 0).2.1) ((kQ 0).2.2.1) ((kQ 0).2.2.2.1) ((kQ 0).2.2.2.2.1) ((kQ 0).2.2.2.2.2.1) ((kQ 0).2.2.2.2.2.2.1) ((kQ 0).2.2.2.2.2.2.2) sr wm wW bh bF bZ bK bM ((kP 0).1) ((kP 0).2.1) ((kP 0).2.2.1) ((kP 0).2.2.2.1) ((kP 0).2.2.2.2.1) ((kP 0).2.2.2.2.2.1) ((kP 0).2.2.2.2.2.2.1) ((kP 0).2.2.2.2.2.2.2))) [0, 1, 2, 3, 4, 5, 6, 7, 60, 61, 62, 63, 64, 65, 66, 67] rfl) (hD.sub (ws' := (W44 cI aS aL aW aB aF aZ aK aM ((kQ 0).1) ((kQ 0).2.1) ((kQ 0).2.2.1) ((kQ 0).2.2.2.1) ((kQ 0).2.2.2.2.1) ((kQ 0).2.2.2.2.2.1) ((kQ 0).2.2.2.2.2.2.1) ((kQ 0).2.2.2.2.2.2.2) sr wm wW bh bF bZ bK bM ((kP 0).1) ((kP 0).2.1) ((kP 0).2.2.1) ((kP 0).2.2.2.1) ((kP 0).2.2.2.2.1) ((kP 0).2.2.2.2.2.1) ((kP 0).2.2.2.2.2.2.1) ((kP 0).2.2.2.2.2.2.2))) [0, 1, 2, 3, 4, 5, 6, 7, 60, 61, 62, 63, 64, 65, 66, 67] (by decide) rfl)) rfl rfl hl.1 rfl (lv_room (Nat.le_of_ble_eq_true rfl)) dX1_restoreSlot_20 ⟨Nat.zero_le _, Nat.zero_le _⟩) hS hP hD [0, 1, 2, 3, 4, 5, 6, 7, 60, 61, 62, 63, 64, 65, 66, 67] rfl rfl rfl rfl (fun H locs hP hD hS => ?_)
      exact uretv2 hx hb hr hlocks hP hD hS dX1_restoreSlot_23
set_option maxHeartbeats 4000000 in
set_option maxRecDepth 100000 in
theorem K1_restoreSlot_1 (l : Launch) (D : va_G) (cI cZ cS cJ : ClassId) (aS aL aW aB aF aZ aK aM : Nat) (sr : Int32) (wm : Int32) (wW : Nat → Int32) (bh : Int32) (bF : Nat → Int32) (bZ : Nat → Int32) (bK : Nat → Int32) (bM : Nat → Int32) (aY aV aU aR : Nat) (kd : Int32) (kf : Nat → Int32) (kA kQ : Nat → SA) (kV kP : Nat → SV) : Met l yX1_restoreSlot wsX1_restoreSlot rm1_restoreSlot (uP D (gT cI cZ cS cJ) ((W4 cI aS aL aW aB aF aZ aK aM sr wm wW bh bF bZ bK bM) ++ (HBg cI cZ cS aY aV aU aR (hR kA) kd kf kA kV kQ kP)) [.ref aY, .int (1 : Int32), .ref aS]) (uQ2 D none (uA ((W4 cI aS aL aW aB aF aZ aK aM sr wm wW bh bF bZ bK bM) ++ (HBg cI cZ cS aY aV aU aR (hR kA) kd kf kA kV kQ kP))) (W4 cI aS aL aW aB aF aZ aK aM (kP 1).1 (kP 1).2.1 (kP 1).2.2.1 (kP 1).2.2.2.1 (kP 1).2.2.2.2.1 (kP 1).2.2.2.2.2.1 (kP 1).2.2.2.2.2.2.1 (kP 1).2.2.2.2.2.2.2 ++ HBg cI cZ cS aY aV aU aR (hR kA) kd kf kA kV kQ kP)) 0 0 (uA ((W4 cI aS aL aW aB aF aZ aK aM sr wm wW bh bF bZ bK bM) ++ (HBg cI cZ cS aY aV aU aR (hR kA) kd kf kA kV kQ kP))) := by
  refine Met.ofW (cc := cX1_restoreSlot) (maxL := 3) (ret := none) (by decide) rfl ?_
  intro p e s m args below meth c s₁ B hml hv
  obtain ⟨ha, hK, hP, hD0⟩ := hv
  have hx := B.exec
  have hb := B.bytes
  have hr := B.returns
  have hlocks := B.notSynchronized
  have hts : ∀ w ∈ lw_all, w.before args s = true := fun w h => atoms_spec (ws := wsX1_restoreSlot) B.pre w (List.mem_cons_of_mem _ h)
  have hown : s.vm.findClass RX1 = some m.cls := findClass_of_methodNamed B.named
  have S : CallFix p m c cX1_restoreSlot 3 s args lw_all RX1 := ⟨hx, hb, hml, hown, hts⟩
  have hD := hD0.own
  generalize uA ((W4 cI aS aL aW aB aF aZ aK aM sr wm wW bh bF bZ bK bM) ++ (HBg cI cZ cS aY aV aU aR (hR kA) kd kf kA kV kQ kP)) = A0 at hD ⊢
  have hS : va_S A0 s.heap s.heap [] := va_S.rf
  have hl := lv_entry ([.ref aY, .int (1 : Int32), .ref aS] : List Value) (n := 3) (Nat.le_of_ble_eq_true rfl)
  refine W.eq (g2 := F0 m 0 ((lg_sl ([.ref aY, .int (1 : Int32), .ref aS] : List Value) ++ List.replicate (3 - (lg_sl ([.ref aY, .int (1 : Int32), .ref aS] : List Value)).length) Slot.unset).toArray) []) (by rw [ha]; exact lg_entry_eq _ _ _) ?_
  generalize (lg_sl ([.ref aY, .int (1 : Int32), .ref aS] : List Value) ++ List.replicate (3 - (lg_sl ([.ref aY, .int (1 : Int32), .ref aS] : List Value)).length) Slot.unset).toArray = ls at hl ⊢
  have hl : lv_has ls 3 [(0, .ref aY), (1, .int (1 : Int32)), (2, .ref aS)] := hl
  show cW p l e wsX1_restoreSlot rm1_restoreSlot s m args below meth c D none A0 (W4 cI aS aL aW aB aF aZ aK aM (kP 1).1 (kP 1).2.1 (kP 1).2.2.1 (kP 1).2.2.2.1 (kP 1).2.2.2.2.1 (kP 1).2.2.2.2.2.1 (kP 1).2.2.2.2.2.2.1 (kP 1).2.2.2.2.2.2.2 ++ HBg cI cZ cS aY aV aU aR (hR kA) kd kf kA kV kQ kP) s.heap [] (F0 m 0 ls [])
  refine lv_iload_n hx hb dX1_restoreSlot_0 rfl (lv_at hl 1 rfl) ?_
  refine lv_if_lt (tgt := 23) hx hb dX1_restoreSlot_1 (by decide) (fun c1 => ?_) (fun c1 => ?_)
  · exact absurd c1 (by decide)
  · skip
    refine lv_iload_n hx hb dX1_restoreSlot_4 rfl (lv_at hl 1 rfl) ?_
    refine lv_aload_n hx hb dX1_restoreSlot_5 rfl (lv_at hl 0 rfl) ?_
    refine va_get (D := D) (ci := 1) (v := .ref aU) (C := RX1) (T := TX1) (N := 4) hx hb hts i_X1 hown hK.1 hP 8 rfl rfl 1 (by decide) (hts _ wd_111) (fun _ h9 => h9) rfl dX1_restoreSlot_6 ?_
    refine va_alen (v := (2 : Int32)) hx hb hK.1 hP 10 2 rfl rfl rfl dX1_restoreSlot_9 ?_
    refine lv_icmp_ge (tgt := 23) hx hb dX1_restoreSlot_10 (by decide) (fun c2 => ?_) (fun c2 => ?_)
    · exact absurd c2 (by decide)
    · skip
      refine lv_aload_n hx hb dX1_restoreSlot_13 rfl (lv_at hl 0 rfl) ?_
      refine va_get (D := D) (ci := 1) (v := .ref aU) (C := RX1) (T := TX1) (N := 4) hx hb hts i_X1 hown hK.1 hP 8 rfl rfl 1 (by decide) (hts _ wd_111) (fun _ h9 => h9) rfl dX1_restoreSlot_14 ?_
      refine lv_iload_n hx hb dX1_restoreSlot_17 rfl (lv_at hl 1 rfl) ?_
      refine va_aldq hx hb hK.1 hP 10 2 rfl rfl (inb_lit (by decide)) dX1_restoreSlot_18 ?_
      refine lv_same (v' := .ref (kQ 1).1) rfl ?_
      refine lv_aload_n hx hb dX1_restoreSlot_19 rfl (lv_at hl 2 rfl) ?_
      refine ucallv (ws' := ((W4 cI aS aL aW aB aF aZ aK aM ((kP 1).1) ((kP 1).2.1) ((kP 1).2.2.1) ((kP 1).2.2.2.1) ((kP 1).2.2.2.2.1) ((kP 1).2.2.2.2.2.1) ((kP 1).2.2.2.2.2.2.1) ((kP 1).2.2.2.2.2.2.2)) ++ (HBg cI cZ cS aY aV aU aR (hR kA) kd kf kA kV kQ kP))) (va_runS (As := [.ref ((kQ 1).1), .ref aS]) (rest := []) S (K1_copyState l D cI cZ cS cJ aS aL aW aB aF aZ aK aM ((kQ 1).1) ((kQ 1).2.1) ((kQ 1).2.2.1) ((kQ 1).2.2.2.1) ((kQ 1).2.2.2.2.1) ((kQ 1).2.2.2.2.2.1) ((kQ 1).2.2.2.2.2.2.1) ((kQ 1).2.2.2.2.2.2.2) sr wm wW bh bF bZ bK bM ((kP 1).1) ((kP 1).2.1) ((kP 1).2.2.1) ((kP 1).2.2.2.1) ((kP 1).2.2.2.2.1) ((kP 1).2.2.2.2.2.1) ((kP 1).2.2.2.2.2.2.1) ((kP 1).2.2.2.2.2.2.2) ((kP 1).1) ((kP 1).2.1) ((kP 1).2.2.1) ((kP 1).2.2.2.1) ((kP 1).2.2.2.2.1) ((kP 1).2.2.2.2.2.1) ((kP 1).2.2.2.2.2.2.1) ((kP 1).2.2.2.2.2.2.2) (cp_eq _ _ _ _ _ _ _ _ _ _ _ _ _ _ _ _)) (va_cwS 2 hts (gd_S wd_284 wd_285 wd_26 wd_286) rfl rfl rfl hdn1_copyState ⟨Nat.le_of_ble_eq_true rfl, Nat.le_of_ble_eq_true rfl⟩) (uPreS hK (hP.sub (ws' := (W44 cI aS aL aW aB aF aZ aK aM ((kQ 1).1) ((kQ 1).2.1) ((kQ 1).2.2.1) ((kQ 1).2.2.2.1) ((kQ 1).2.2.2.2.1) ((kQ 1).2.2.2.2.2.1) ((kQ 1).2.2.2.2.2.2.1) ((kQ 1).2.2.2.2.2.2.2) sr wm wW bh bF bZ bK bM ((kP 1).1) ((kP 1).2.1) ((kP 1).2.2.1) ((kP 1).2.2.2.1) ((kP 1).2.2.2.2.1) ((kP 1).2.2.2.2.2.1) ((kP 1).2.2.2.2.2.2.1) ((kP 1).2.2.2.2.2.2.2))) [0, 1, 2, 3, 4, 5, 6, 7, 68, 69, 70, 71, 72, 73, 74, 75] rfl) (hD.sub (ws' := (W44 cI aS aL aW aB aF aZ aK aM ((kQ 1).1) ((kQ 1).2.1) ((kQ 1).2.2.1) ((kQ 1).2.2.2.1) ((kQ 1).2.2.2.2.1) ((kQ 1).2.2.2.2.2.1) ((kQ 1).2.2.2.2.2.2.1) ((kQ 1).2.2.2.2.2.2.2) sr wm wW bh bF bZ bK bM ((kP 1).1) ((kP 1).2.1) ((kP 1).2.2.1) ((kP 1).2.2.2.1) ((kP 1).2.2.2.2.1) ((kP 1).2.2.2.2.2.1) ((kP 1).2.2.2.2.2.2.1) ((kP 1).2.2.2.2.2.2.2))) [0, 1, 2, 3, 4, 5, 6, 7, 68, 69, 70, 71, 72, 73, 74, 75] (by decide) rfl)) rfl rfl hl.1 rfl (lv_room (Nat.le_of_ble_eq_true rfl)) dX1_restoreSlot_20 ⟨Nat.zero_le _, Nat.zero_le _⟩) hS hP hD [0, 1, 2, 3, 4, 5, 6, 7, 68, 69, 70, 71, 72, 73, 74, 75] rfl rfl rfl rfl (fun H locs hP hD hS => ?_)
      exact uretv2 hx hb hr hlocks hP hD hS dX1_restoreSlot_23
