
/-! ===== the law: a world in pieces, its own rows ===== -/
theorem wP_l {D : va_G} {cl : List vw_C} {a b : va_W} {H : Heap} (h : va_P D cl (a ++ b) H) : va_P D cl a H := fun k q hk => h k q (app_l hk)
theorem wP_r {D : va_G} {cl : List vw_C} {a b : va_W} {H : Heap} (h : va_P D cl (a ++ b) H) : va_P D cl b H := fun k q hk => h _ q (app_r hk)
theorem wD_l {A : Nat → Prop} {a b : va_W} (h : va_D A (a ++ b)) : va_D A a := ⟨fun i j p q hi hj e => h.1 i j p q (app_l hi) (app_l hj) e, fun k q hk => h.2 k q (app_l hk)⟩
theorem wD_r {A : Nat → Prop} {a b : va_W} (h : va_D A (a ++ b)) : va_D A b := ⟨fun i j p q hi hj e => by
  have := h.1 _ _ p q (app_r (X := a) hi) (app_r (X := a) hj) e
  omega, fun k q hk => h.2 _ q (app_r hk)⟩
theorem wD_x {A : Nat → Prop} {a b : va_W} (h : va_D A (a ++ b)) {q : Nat} (h1 : uA a q) (h2 : uA b q) : False := by
  obtain ⟨i, x, hi, e1⟩ := uA_get h1
  obtain ⟨j, y, hj, e2⟩ := uA_get h2
  have h3 := h.1 _ _ x y (app_l hi) (app_r hj) (e1.trans e2.symm)
  have h4 := (List.getElem?_eq_some_iff.mp hi).1
  omega
theorem uA_mem {ws : va_W} {k : Nat} {q : Nat × va_E} (h : ws[k]? = some q) : uA ws q.1 := List.mem_map.mpr ⟨q, List.mem_of_getElem? h, rfl⟩
/-- one piece set anew in place of another, that keeps apart from all that the old one kept apart from -/
theorem wD_re {A : Nat → Prop} {a a' b : va_W} (h : va_D A (a ++ b)) (t : ∀ B : Nat → Prop, va_D B a → va_D B a') : va_D A (a' ++ b) := by
  have h1 := t _ (wD_l h).own
  refine va_D.app (t A (wD_l h)) (wD_r h) (fun i j p q hi hj e => ?_)
  exact wD_x h (h1.2 i p hi) (by rw [e]; exact uA_mem hj)
theorem wD_re2 {A : Nat → Prop} {a b b' : va_W} (h : va_D A (a ++ b)) (e : b'.map (fun x => x.1) = b.map (fun x => x.1)) : va_D A (a ++ b') :=
  h.alike (by rw [List.map_append, List.map_append, e])
theorem set_last {α : Type} (X : List α) (q q' : α) : (X ++ [q]).set X.length q' = X ++ [q'] := by
  rw [List.set_append_right _ _ (Nat.le_refl _), Nat.sub_self]
  rfl
theorem get_last {α : Type} (X : List α) (q : α) : (X ++ [q])[X.length]? = some q := by
  rw [List.getElem?_append_right (Nat.le_refl _), Nat.sub_self]
  rfl
/-- no exception of the three is one of the others -/
def gY (U : State) : Prop := ∀ i j : Nat, i ∈ [1, 2, 3] → j ∈ [1, 2, 3] → i ≠ j → va_Nc (exn i) (exn j) U
theorem gY.moved {u U : State} (hvm : u.vm.Alike U.vm) (h : gY u) : gY U := fun i j hi hj hn => va_Nc.moved hvm (h i j hi hj hn)
/-- a wrapper's start -/
def wP (D : va_G) (tys : List (ClassId × FieldType)) (ws : va_W) (av : List Value) : Array Value → State → Prop := fun v U => xP D tys ws av v U ∧ gY U
theorem wP_blind (D : va_G) (tys : List (ClassId × FieldType)) (ws : va_W) (av : List Value) : FrameBlind (wP D tys ws av) := fun v U g mk h => ⟨xP_blind D tys ws av v U g mk h.1, h.2.moved (u := U) (Vm.Alike.refl U.vm)⟩
section LRows
variable {p : Program} {l : Launch} {e : Env} {R : Room} {s : State} {m : MethodId} {args : Array Value} {below : List Frame} {meth : Method} {c : Code} {H : Heap} {locs : List Loc} {cells slots : Nat} {Q : State → Prop}
variable {cc : ByteArray} {pc : Nat} {ls : Array Slot} {rest st0 : List Value} {D : va_G} {A : Nat → Prop} {tys : List (ClassId × FieldType)} {X X' Y Y' : va_W} {As : List Value} {v : Option Value} {k mc ms : Nat} {b : Addr} {H0 : Heap} {a : Array Value}
theorem uA_sub (hD : va_D A X) : ∀ q, uA X q → A q := fun q h => by
  obtain ⟨k, x, h1, h2⟩ := uA_get h
  rw [← h2]
  exact hD.2 k x h1
theorem wPreS (hK : gK D tys s) (hX : gX s) (hZ : gZ A s s.heap) (hY : gY s) (hS : va_S A s.heap H locs) (hP : va_P D vwCl X H) (hD : va_D A X) : PreS s H (wP D tys X As) As :=
  ⟨wP_blind D tys X _, fun U hU hW => ⟨⟨rfl, hK.warm hW, by rw [hU]; exact hP, hD.weaken (fun _ _ _ _ => trivial), hX.warm hW, by rw [hU]; exact ((hZ.kept hS.2.1).narrow (uA_sub hD)).moved hW.alike⟩, hY.moved hW.alike⟩⟩
theorem xPreV2 {A0 : Nat → Prop} (hK : gK D tys s) (hX : gX s) (hZ : gZ A0 s s.heap) (hS : va_S A0 s.heap H locs) (hP : va_P D vwCl X H) (hD : va_D A0 X) {ci : Nat} {fs : List Value} {q : vw_C} (h0 : X[0]? = some (b, .inr (ci, fs))) (hc : vwCl[ci]? = some q) : PreV s H q.1 b (xP D tys X (.ref b :: As)) As :=
  ⟨xP_blind D tys X _, va_recv hK.1 hP hc h0, fun U hU hW => ⟨rfl, hK.warm hW, by rw [hU]; exact hP, hD.weaken (fun _ _ _ _ => trivial), hX.warm hW, by rw [hU]; exact ((hZ.kept hS.2.1).narrow (uA_sub hD)).moved hW.alike⟩⟩
theorem uPreV2 (hK : gK D tys s) (hP : va_P D vwCl X H) (hD : va_D A X) {ci : Nat} {fs : List Value} {q : vw_C} (h0 : X[0]? = some (b, .inr (ci, fs))) (hc : vwCl[ci]? = some q) : PreV s H q.1 b (uP D tys X (.ref b :: As)) As := uPreV hK hP hD h0 hc
/-- a call that may throw, on the first piece -/
theorem xcallL (hr : vx_Run p l e R s m args below meth c H locs cells slots mc ms (F0 m pc ls st0) rest (xQ D k v (uA X) X' a) (xX D k (uA X) X') (uA X)) (hS : va_S A H0 H locs) (hP : va_P D vwCl (X ++ Y) H) (hD : va_D A (X ++ Y))
    (kx : ∀ (ce : Cell) (q9 : Addr) (H1 : Heap) (locs1 : List Loc), k ≠ 0 → va_P D vwCl (X' ++ Y) H1 → va_S A H0 H1 locs1 → H1[q9]? = some ce → ce.vm = .none → s.vm.findClass (exn k) = some ce.cls → vx_W p l e R s m args below meth c H1 locs1 (cells + mc) (slots + ms) Q (F0 m pc ls rest) q9)
    (kk : ∀ (H1 : Heap) (locs1 : List Loc), k = 0 → va_P D vwCl (X' ++ Y) H1 → va_S A H0 H1 locs1 → W p l e R s m args below meth c H1 locs1 (cells + mc) (slots + ms) Q (F0 m (pc + 3) ls (v.toList ++ rest))) : W p l e R s m args below meth c H locs cells slots Q (F0 m pc ls st0) := by
  intro T hT X0
  have hA := uA_sub (wD_l hD)
  have hy : ∀ (H1 : Heap), (∀ q : Nat, q < H.size → ¬ uA X q → H1[q]? = H[q]?) → va_P D vwCl Y H1 := fun H1 h => (wP_r hP).kept (fun i q hi => h q.1 (wP_r hP i q hi).lt (fun z => wD_x hD z (uA_mem hi)))
  rcases hr T hT X0 with ⟨v', st₀, t, T', L, h0, XX, hL, e1, e2, ⟨hk0, hv, hP1, hF⟩, st⟩ | ⟨q, st₀, t, T', L, E, ce, h0, XX, hL, e1, e2, ⟨hk0, rfl, hP1, hF⟩, hce, hcv, hcl, st⟩
  · cases hv
    obtain ⟨k1, k2, k3⟩ := vx_keep h0 e1 hS (fun q _ h => hA q h) hA hL hF
    obtain ⟨t2, a1, b1⟩ := kk T'.heap (locs ++ L) hk0 (va_P.app (by rw [e1]; exact hP1) (hy _ k2)) k3 T' rfl XX
    exact ⟨t2, st t2 a1, b1⟩
  · obtain ⟨k1, k2, k3⟩ := vx_keep h0 e1 hS (fun q _ h => hA q h) hA hL hF
    obtain ⟨t2, a1, b1⟩ := kx ce q T'.heap (locs ++ L) hk0 (va_P.app (by rw [e1]; exact hP1) (hy _ k2)) k3 (by rw [e1]; exact hce) hcv hcl T' rfl XX
    exact ⟨t2, st.trans a1, b1⟩
/-- a call on the first piece -/
theorem ucallL (hr : va_Run p l e R s m args below meth c H locs cells slots mc ms (F0 m pc ls st0) rest (uQ D v (uA X) X' a) (uA X)) (hS : va_S A H0 H locs) (hP : va_P D vwCl (X ++ Y) H) (hD : va_D A (X ++ Y))
    (kk : ∀ (H1 : Heap) (locs1 : List Loc), va_P D vwCl (X' ++ Y) H1 → va_S A H0 H1 locs1 → W p l e R s m args below meth c H1 locs1 (cells + mc) (slots + ms) Q (F0 m (pc + 3) ls (v.toList ++ rest))) : W p l e R s m args below meth c H locs cells slots Q (F0 m pc ls st0) := by
  intro T hT X0
  have hA := uA_sub (wD_l hD)
  obtain ⟨v', st₀, t, T', L, h0, XX, hL, e1, e2, ⟨hv, hP1, hF⟩, st⟩ := hr T hT X0
  cases hv
  obtain ⟨k1, k2, k3⟩ := vx_keep h0 e1 hS (fun q _ h => hA q h) hA hL hF
  obtain ⟨t2, a1, b1⟩ := kk T'.heap (locs ++ L) (va_P.app (by rw [e1]; exact hP1) ((wP_r hP).kept (fun i q hi => k2 q.1 (wP_r hP i q hi).lt (fun z => wD_x hD z (uA_mem hi))))) k3 T' rfl XX
  exact ⟨t2, st t2 a1, b1⟩
/-- a call on the second piece -/
theorem ucallR (hr : va_Run p l e R s m args below meth c H locs cells slots mc ms (F0 m pc ls st0) rest (uQ D v (uA Y) Y' a) (uA Y)) (hS : va_S A H0 H locs) (hP : va_P D vwCl (X ++ Y) H) (hD : va_D A (X ++ Y))
    (kk : ∀ (H1 : Heap) (locs1 : List Loc), va_P D vwCl (X ++ Y') H1 → va_S A H0 H1 locs1 → W p l e R s m args below meth c H1 locs1 (cells + mc) (slots + ms) Q (F0 m (pc + 3) ls (v.toList ++ rest))) : W p l e R s m args below meth c H locs cells slots Q (F0 m pc ls st0) := by
  intro T hT X0
  have hA := uA_sub (wD_r hD)
  obtain ⟨v', st₀, t, T', L, h0, XX, hL, e1, e2, ⟨hv, hP1, hF⟩, st⟩ := hr T hT X0
  cases hv
  obtain ⟨k1, k2, k3⟩ := vx_keep h0 e1 hS (fun q _ h => hA q h) hA hL hF
  obtain ⟨t2, a1, b1⟩ := kk T'.heap (locs ++ L) (va_P.app ((wP_l hP).kept (fun i q hi => k2 q.1 (wP_l hP i q hi).lt (fun z => wD_x hD (uA_mem hi) z))) (by rw [e1]; exact hP1)) k3 T' rfl XX
  exact ⟨t2, st t2 a1, b1⟩
theorem xcallLi {x : Int32} (hr : vx_Run p l e R s m args below meth c H locs cells slots mc ms (F0 m pc ls st0) rest (xQ D k (some (.int x)) (uA X) X' a) (xX D k (uA X) X') (uA X)) (hS : va_S A H0 H locs) (hP : va_P D vwCl (X ++ Y) H) (hD : va_D A (X ++ Y))
    (kx : ∀ (ce : Cell) (q9 : Addr) (H1 : Heap) (locs1 : List Loc), k ≠ 0 → va_P D vwCl (X' ++ Y) H1 → va_S A H0 H1 locs1 → H1[q9]? = some ce → ce.vm = .none → s.vm.findClass (exn k) = some ce.cls → vx_W p l e R s m args below meth c H1 locs1 (cells + mc) (slots + ms) Q (F0 m pc ls rest) q9)
    (kk : ∀ (H1 : Heap) (locs1 : List Loc), k = 0 → va_P D vwCl (X' ++ Y) H1 → va_S A H0 H1 locs1 → W p l e R s m args below meth c H1 locs1 (cells + mc) (slots + ms) Q (F0 m (pc + 3) ls (.int x :: rest))) : W p l e R s m args below meth c H locs cells slots Q (F0 m pc ls st0) := xcallL hr hS hP hD kx kk
theorem ucallLi {x : Int32} (hr : va_Run p l e R s m args below meth c H locs cells slots mc ms (F0 m pc ls st0) rest (uQ D (some (.int x)) (uA X) X' a) (uA X)) (hS : va_S A H0 H locs) (hP : va_P D vwCl (X ++ Y) H) (hD : va_D A (X ++ Y))
    (kk : ∀ (H1 : Heap) (locs1 : List Loc), va_P D vwCl (X' ++ Y) H1 → va_S A H0 H1 locs1 → W p l e R s m args below meth c H1 locs1 (cells + mc) (slots + ms) Q (F0 m (pc + 3) ls (.int x :: rest))) : W p l e R s m args below meth c H locs cells slots Q (F0 m pc ls st0) := ucallL hr hS hP hD kk
theorem ucallRi {x : Int32} (hr : va_Run p l e R s m args below meth c H locs cells slots mc ms (F0 m pc ls st0) rest (uQ D (some (.int x)) (uA Y) Y' a) (uA Y)) (hS : va_S A H0 H locs) (hP : va_P D vwCl (X ++ Y) H) (hD : va_D A (X ++ Y))
    (kk : ∀ (H1 : Heap) (locs1 : List Loc), va_P D vwCl (X ++ Y') H1 → va_S A H0 H1 locs1 → W p l e R s m args below meth c H1 locs1 (cells + mc) (slots + ms) Q (F0 m (pc + 3) ls (.int x :: rest))) : W p l e R s m args below meth c H locs cells slots Q (F0 m pc ls st0) := ucallR hr hS hP hD kk
theorem ucallRd {x : UInt64} (hr : va_Run p l e R s m args below meth c H locs cells slots mc ms (F0 m pc ls st0) rest (uQ D (some (.double x)) (uA Y) Y' a) (uA Y)) (hS : va_S A H0 H locs) (hP : va_P D vwCl (X ++ Y) H) (hD : va_D A (X ++ Y))
    (kk : ∀ (H1 : Heap) (locs1 : List Loc), va_P D vwCl (X ++ Y') H1 → va_S A H0 H1 locs1 → W p l e R s m args below meth c H1 locs1 (cells + mc) (slots + ms) Q (F0 m (pc + 3) ls (.double x :: rest))) : W p l e R s m args below meth c H locs cells slots Q (F0 m pc ls st0) := ucallR hr hS hP hD kk
/-- two longs that are the same -/
theorem l_lcmp {x y : Int64} (hexec : p.tables.exec = Jvm.exec) (hb : c.code = cc) (hxy : x = y) (hdg : decode cc pc = .ok (.lcmp, 1))
    (kk : W p l e R s m args below meth c H locs cells slots Q (F0 m (pc + 1) ls (.int 0 :: rest))) : W p l e R s m args below meth c H locs cells slots Q (F0 m pc ls (.long y :: .long x :: rest)) := by
  subst hxy
  intro T hT X0
  obtain ⟨t, a1, b1⟩ := kk T hT X0
  refine ⟨t, ?_, b1⟩
  jvm_step X0.here [X0.here.top, hexec, hb, hdg]
  exact a1
/-- the one long of the row, written -/
theorem l_put {cJ : ClassId} {aQ : Nat} {f : Nat → Int64} {x : Int64} {cI cZ cS : ClassId} (hexec : p.tables.exec = Jvm.exec) (hb : c.code = cc) (hK : gK D (gT cI cZ cS cJ) s) (hP : va_P D vwCl (X ++ [(aQ, .inl (cJ, 1, .inr (.inl f)))]) H) (hD : va_D A (X ++ [(aQ, .inl (cJ, 1, .inr (.inl f)))])) (hS : va_S A H0 H locs) (hdg : decode cc pc = .ok (.lastore, 1))
    (kk : ∀ (H1 : Heap) (locs1 : List Loc), va_P D vwCl (X ++ [(aQ, .inl (cJ, 1, .inr (.inl (vp_updL f 0 x))))]) H1 → va_S A H0 H1 locs1 → W p l e R s m args below meth c H1 locs1 cells slots Q (F0 m (pc + 1) ls rest)) : W p l e R s m args below meth c H locs cells slots Q (F0 m pc ls (.long x :: .int 0 :: .ref aQ :: rest)) := by
  refine va_last (tys := gT cI cZ cS cJ) hexec hb hK.1 hP hD hS X.length 3 (get_last _ _) rfl (i := 0) (by unfold vp_in; decide) hdg (fun H1 locs1 h1 h2 h3 => ?_)
  rw [set_last] at h1
  exact kk H1 locs1 h1 h3
end LRows
theorem cast_exn {args : Array Value} {s : State} (hX : gX s) {i : Nat} (hi : i ∈ [1, 2, 3]) : (Cond.castable (exn i) (exn i)).before args s = true := by
  have h : Cond.castable (exn i) (exn i) ∈ gxw := by
    simp only [List.mem_cons, List.not_mem_nil, or_false] at hi
    rcases hi with rfl | rfl | rfl
    · exact List.mem_cons_self
    · exact List.mem_cons_of_mem _ List.mem_cons_self
    · exact List.mem_cons_of_mem _ (List.mem_cons_of_mem _ List.mem_cons_self)
  exact va_Nw.use (gxw_tabs _ h) (hX.2 _ h)
theorem gd_SW {c : Cond} {own : String} {ix : Nat} {y : MethodName} (h1 : Cond.methodLink own ix y ∈ lw_all) (h2 : Cond.static y ∈ lw_all) (h4 : Cond.initialized y.cls ∈ lw_all) (h : c ∈ lw_all) : GoodIn lw_all (va_wsS own ix y (c :: lw_all)) := gd_S h1 h2 h4 h
/-- the row of states turned by one: as far apart as before -/
theorem rot_D {A : Nat → Prop} (cI cZ cS : ClassId) (aC aS aL aW aB aF aZ aK aM aO aT aY aV aU aR : Nat) (kQ : Nat → SA) (sr wm : Int32) (wW : Nat → Int32) (bh : Int32) (bF bZ bK bM : Nat → Int32) (ol : Int32) (oS : Nat → Int32) (kd : Int32) (kf : Nat → Int32) (kA : Nat → SA) (kV kP : Nat → SV)
    (h : va_D A ((W5x cI aC aS aL aW aB aF aZ aK aM aO aT aY sr wm wW bh bF bZ bK bM ol oS) ++ (HB cI cZ cS aY aV aU aR kd kf kA kV kQ kP))) : va_D A ((W5x cI aC aS aL aW aB aF aZ aK aM aO aT aY sr wm wW bh bF bZ bK bM ol oS) ++ (HB cI cZ cS aY aV aU aR kd kf (rotA kA) (rotV kV) kQ kP)) := by
  have h1 := h.alike (ws' := (W5x cI aC aS aL aW aB aF aZ aK aM aO aT aY sr wm wW bh bF bZ bK bM ol oS) ++ (HBg cI cZ cS aY aV aU aR (hR (rotA kA)) kd kf kA kV kQ kP)) rfl
  exact h1.sub ((List.range 11) ++ ([0, 1, 2, 3, 12, 13, 14, 15, 16, 17, 18, 19, 20, 21, 22, 23, 24, 25, 26, 27, 28, 29, 30, 31, 32, 33, 34, 35, 36, 37, 38, 39, 40, 41, 42, 43, 44, 45, 46, 47, 48, 49, 50, 51, 4, 5, 6, 7, 8, 9, 10, 11, 52, 53, 54, 55, 56, 57, 58, 59, 60, 61, 62, 63, 64, 65, 66, 67].map (fun x => x + 11))) (by decide +kernel) rfl
/-- the object's pieces before and behind a call: as far apart -/
theorem tr_D (cI cZ cS : ClassId) (aC aS aL aW aB aF aZ aK aM aO aT aY aV aU aR : Nat) (kQ : Nat → SA) {sr wm : Int32} {wW : Nat → Int32} {bh : Int32} {bF bZ bK bM : Nat → Int32} {ol : Int32} {oS : Nat → Int32} {kd : Int32} {kf : Nat → Int32} {kA : Nat → SA} {kV kP : Nat → SV} {sr' wm' : Int32} {wW' : Nat → Int32} {bh' : Int32} {bF' bZ' bK' bM' : Nat → Int32} {ol' : Int32} {oS' : Nat → Int32} {kd' : Int32} {kf' : Nat → Int32} {kA' : Nat → SA} {kV' kP' : Nat → SV} (hA : kA' = kA ∨ kA' = rotA kA) :
    ∀ A : Nat → Prop, va_D A ((W5x cI aC aS aL aW aB aF aZ aK aM aO aT aY sr wm wW bh bF bZ bK bM ol oS) ++ (HB cI cZ cS aY aV aU aR kd kf kA kV kQ kP)) → va_D A ((W5x cI aC aS aL aW aB aF aZ aK aM aO aT aY sr' wm' wW' bh' bF' bZ' bK' bM' ol' oS') ++ (HB cI cZ cS aY aV aU aR kd' kf' kA' kV' kQ kP')) := by
  intro A h
  rcases hA with rfl | rfl
  · exact h.alike rfl
  · exact (rot_D cI cZ cS aC aS aL aW aB aF aZ aK aM aO aT aY aV aU aR kQ sr wm wW bh bF bZ bK bM ol oS kd kf kA kV kP h).alike rfl
theorem Inv_new : Inv 0 11 iW 0 i0 i0 i0 i0 0 i0 0 i0 (fun _ => iV) (fun _ => iV) iN i0 0 i0 i0 i0 0 := by
  refine ⟨⟨0, 11, fun p => p + 1, fun _ => 0, fun _ => 0, fun _ => 0, fun _ => 0, ⟨by decide, by decide, fun p hp => ⟨Nat.succ_le_succ (Nat.zero_le p), by show p + 1 ≤ 9; omega⟩⟩, ⟨by decide, fun b hb => by omega, fun a b ha => by omega⟩, fun b j hb => by omega, ⟨rfl, fun p hp => ?_⟩, ⟨rfl, fun b hb => by omega⟩, fun b j hb => by omega, ⟨rfl, fun p hp => ?_⟩, ⟨rfl, fun b hb => by omega⟩, fun b j hb => by omega, rfl⟩, ⟨0, by decide, rfl, rfl, fun i hi => by omega⟩, fun i hi => Or.inl ⟨rfl, rfl⟩, 0, fun _ => 0, ⟨by decide, fun i hi => by omega⟩, ⟨by decide, fun i hi => by omega⟩, rfl, rfl⟩
  · rcases (show p = 0 ∨ p = 1 ∨ p = 2 ∨ p = 3 ∨ p = 4 ∨ p = 5 by omega) with rfl | rfl | rfl | rfl | rfl | rfl <;> rfl
  · rcases (show p = 0 ∨ p = 1 ∨ p = 2 ∨ p = 3 ∨ p = 4 ∨ p = 5 by omega) with rfl | rfl | rfl | rfl | rfl | rfl <;> rfl
