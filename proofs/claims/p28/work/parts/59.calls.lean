
/-! ===== the law's wrapper ===== -/
abbrev hhL_call : List (Nat × Nat × Nat × Nat) := [(0, 315, 316, 82), (0, 315, 321, 84), (0, 315, 326, 86)]
abbrev wsL_call : List Cond := .codeWith yL_call cL_call 6 (some .int) hhL_call :: lw_all
set_option maxRecDepth 20000 in
theorem cwL_call : (.codeWith yL_call cL_call 6 (some .int) hhL_call : Cond) ∈ lw_all := in_all 450 (by decide +kernel) (by decide +kernel)
abbrev rmL_call : Room := { frames := 8, cells := 3, slots := 18, locals := 163 }
theorem hdL_call : yL_call.cls ≠ "java/lang/invoke/MethodHandle" ∧ yL_call.cls ≠ "java/lang/invoke/VarHandle" ∧ (parseMethodDescriptor yL_call.desc).map (fun d => d.parameters.length) = some 5 := by decide +kernel
theorem cv_0 (r : Int32) : cv 0 r = r := rfl
theorem cv_1 (r : Int32) : cv 1 r = -11 := rfl
theorem cv_2 (r : Int32) : cv 2 r = -12 := rfl
theorem cv_3 {k : Nat} (r : Int32) (h0 : k ≠ 0) (h1 : ¬ k = 1) (h2 : ¬ k = 2) : cv k r = -13 := by
  unfold cv
  rw [if_neg h0, if_neg h1, if_neg h2]
theorem exn_3 {k : Nat} (h1 : ¬ k = 1) (h2 : ¬ k = 2) : exn k = exn 3 := by
  unfold exn
  rw [if_neg h1, if_neg h2]
  rfl
set_option maxHeartbeats 1000000 in
set_option maxRecDepth 20000 in
theorem KC_weight (l : Launch) (D : va_G) (cI cZ cS cJ : ClassId) (aC : Nat) (X X' : va_W) (fs : List Value) (h0 : X[0]? = some (aC, .inr (5, fs))) (x2 x3 x4 : Int32) (k : Nat) (r : Int32) (hM : vx_Met l yX5_weight wsX5_weight rm5_weight (xP D (gT cI cZ cS cJ) X [.ref aC, .int x2, .int x3]) (xQ D k (some (.int r)) (uA X) X') (xX D k (uA X) X') 2 12 (uA X)) : Met l yL_call wsL_call rmL_call (wP D (gT cI cZ cS cJ) X [.ref aC, .int (0 : Int32), .int x2, .int x3, .int x4]) (uQ D (some (.int (cv k r))) (uA X) X') 3 18 (uA X) := by
  refine va_MetW (cc := cL_call) (maxL := 6) (ret := (some .int)) (hh := hhL_call) (by decide) rfl ?_
  intro p e s m args below meth c s₁ B hml hv
  obtain ⟨⟨ha, hK, hP, hD0, hX, hZ⟩, hY⟩ := hv
  have hx := B.exec
  have hb := B.bytes
  have hr := B.returns
  have hlocks := B.notSynchronized
  have hcw : (Cond.codeWith yL_call cL_call 6 (some .int) hhL_call).before args s = true := atoms_spec (ws := wsL_call) B.pre _ List.mem_cons_self
  have htab : c.exceptionTable.toList = tableOf hhL_call := vx_table (x := yL_call) B hcw
  have hts : ∀ w ∈ lw_all, w.before args s = true := fun w h => atoms_spec (ws := wsL_call) B.pre w (List.mem_cons_of_mem _ h)
  have hown : s.vm.findClass RL = some m.cls := findClass_of_methodNamed B.named
  have S : CallFix p m c cL_call 6 s args lw_all RL := ⟨hx, hb, hml, hown, hts⟩
  have hD := hD0.own
  have hS : va_S (uA X) s.heap s.heap [] := va_S.rf
  have hl := lv_entry ([.ref aC, .int (0 : Int32), .int x2, .int x3, .int x4] : List Value) (n := 6) (Nat.le_of_ble_eq_true rfl)
  refine W.eq (g2 := F0 m 0 ((lg_sl ([.ref aC, .int (0 : Int32), .int x2, .int x3, .int x4] : List Value) ++ List.replicate (6 - (lg_sl ([.ref aC, .int (0 : Int32), .int x2, .int x3, .int x4] : List Value)).length) Slot.unset).toArray) []) (by rw [ha]; exact lg_entry_eq _ _ _) ?_
  generalize (lg_sl ([.ref aC, .int (0 : Int32), .int x2, .int x3, .int x4] : List Value) ++ List.replicate (6 - (lg_sl ([.ref aC, .int (0 : Int32), .int x2, .int x3, .int x4] : List Value)).length) Slot.unset).toArray = ls at hl ⊢
  have hl : lv_has ls 6 [(0, .ref aC), (1, .int (0 : Int32)), (2, .int x2), (3, .int x3), (4, .int x4)] := hl
  refine lv_iload_n hx hb dL_call_0 rfl (lv_at hl 1 rfl) ?_
  refine lv_if_ne (tgt := 13) hx hb dL_call_1 (by decide) (fun h => absurd rfl h) (fun _ => ?_)
  refine lv_aload_n hx hb dL_call_4 rfl (lv_at hl 0 rfl) ?_
  refine lv_iload_n hx hb dL_call_5 rfl (lv_at hl 2 rfl) ?_
  refine lv_iload_n hx hb dL_call_6 rfl (lv_at hl 3 rfl) ?_
  refine xcallW (vx_runV (As := [.int x2, .int x3]) (rest := []) S hM (cwV 2 hts (gd_V wd_454 wd_455 wd_456 wd_22 wd_457) rfl rfl rfl hd5_weight ⟨Nat.le_of_ble_eq_true rfl, Nat.le_of_ble_eq_true rfl⟩) (xPreV2 hK hX hZ hS hP hD (ci := 5) (q := (RX5, TX5, 3)) h0 rfl) rfl rfl hl.1 rfl (lv_room (Nat.le_of_ble_eq_true rfl)) dL_call_7 ⟨Nat.le_of_ble_eq_true rfl, Nat.le_of_ble_eq_true rfl⟩) hS hD (fun ce q9 H locs hk0 hP hS hce hcv hcl => ?_) (fun H locs hk0 hP hS => ?_)
  · by_cases h1 : k = 1
    · subst h1
      rw [cv_1]
      refine vx_catch (own := RL) (name := exn 1) (E := exn 1) hown [] ⟨0, 315, 316, 82⟩ [⟨0, 315, 321, 84⟩, ⟨0, 315, 326, 86⟩] (by rw [htab]; rfl) (fun z hz => absurd hz List.not_mem_nil) (by decide) (by decide) (hts _ wd_451) (cast_exn hX (by decide)) hce hcv hcl ?_
      refine lv_astore (lv' := [(5, .ref q9), (0, .ref aC), (1, .int (0 : Int32)), (2, .int x2), (3, .int x3), (4, .int x4)]) hx hb dL_call_316 hl (by decide) rfl (fun ls hl => ?_)
      refine lv_bipush (v := -11) hx hb dL_call_318 (by decide) ?_
      exact vreti (Nat.le_of_ble_eq_true rfl) (Nat.le_of_ble_eq_true rfl) hx hb hr hlocks hP hS dL_call_320
    by_cases h2 : k = 2
    · subst h2
      rw [cv_2]
      refine vx_catch (own := RL) (name := exn 2) (E := exn 2) hown [⟨0, 315, 316, 82⟩] ⟨0, 315, 321, 84⟩ [⟨0, 315, 326, 86⟩] (by rw [htab]; rfl) (fun z hz => by simp only [List.mem_cons, List.not_mem_nil, or_false] at hz; subst hz; exact Or.inr ⟨by decide, exn 1, (hts _ wd_451), hY 2 1 (by decide) (by decide) (by decide)⟩) (by decide) (by decide) (hts _ wd_452) (cast_exn hX (by decide)) hce hcv hcl ?_
      refine lv_astore (lv' := [(5, .ref q9), (0, .ref aC), (1, .int (0 : Int32)), (2, .int x2), (3, .int x3), (4, .int x4)]) hx hb dL_call_321 hl (by decide) rfl (fun ls hl => ?_)
      refine lv_bipush (v := -12) hx hb dL_call_323 (by decide) ?_
      exact vreti (Nat.le_of_ble_eq_true rfl) (Nat.le_of_ble_eq_true rfl) hx hb hr hlocks hP hS dL_call_325
    rw [cv_3 _ hk0 h1 h2]
    rw [exn_3 h1 h2] at hcl
    refine vx_catch (own := RL) (name := exn 3) (E := exn 3) hown [⟨0, 315, 316, 82⟩, ⟨0, 315, 321, 84⟩] ⟨0, 315, 326, 86⟩ [] (by rw [htab]; rfl) (fun z hz => by simp only [List.mem_cons, List.not_mem_nil, or_false] at hz; rcases hz with rfl | rfl; (exact Or.inr ⟨by decide, exn 1, (hts _ wd_451), hY 3 1 (by decide) (by decide) (by decide)⟩); (exact Or.inr ⟨by decide, exn 2, (hts _ wd_452), hY 3 2 (by decide) (by decide) (by decide)⟩)) (by decide) (by decide) (hts _ wd_453) (cast_exn hX (by decide)) hce hcv hcl ?_
    refine lv_astore (lv' := [(5, .ref q9), (0, .ref aC), (1, .int (0 : Int32)), (2, .int x2), (3, .int x3), (4, .int x4)]) hx hb dL_call_326 hl (by decide) rfl (fun ls hl => ?_)
    refine lv_bipush (v := -13) hx hb dL_call_328 (by decide) ?_
    exact vreti (Nat.le_of_ble_eq_true rfl) (Nat.le_of_ble_eq_true rfl) hx hb hr hlocks hP hS dL_call_330
  · subst hk0
    rw [cv_0]
    refine lv_goto (tgt := 315) hx hb dL_call_10 (by decide) ?_
    exact vreti (Nat.le_of_ble_eq_true rfl) (Nat.le_of_ble_eq_true rfl) hx hb hr hlocks hP hS dL_call_315
def FC_weight (st : ST) (x2 x3 x4 : Int32) : Option (Int32 × ST) := bd3 (F_weight st x2 x3) (fun k r st' => some (cv k r, st'))
theorem KT_weight (l : Launch) (hfl : l.stackTraces = false) (D : va_G) (cI cZ cS cJ : ClassId) (a : AD) (st : ST) (x2 x3 x4 : Int32) (r : Int32) (st' : ST) (hF : FC_weight st x2 x3 x4 = some (r, st')) : Met l yL_call wsL_call rmL_call (wP D (gT cI cZ cS cJ) (WS cI cZ cS a st) [.ref a.1, .int (0 : Int32), .int x2, .int x3, .int x4]) (uQ D (some (.int r)) (uA (WS cI cZ cS a st)) (WS cI cZ cS a st')) 3 18 (uA (WS cI cZ cS a st)) := by
  obtain ⟨k, r0, s1, h, e⟩ := bd3_at hF
  cases e
  exact KC_weight l D cI cZ cS cJ a.1 _ _ _ (WS_0 cI cZ cS a st) x2 x3 x4 k r0 (KS_weight l hfl D cI cZ cS cJ a st x2 x3 k r0 _ h)
set_option maxHeartbeats 1000000 in
set_option maxRecDepth 20000 in
theorem KC_modulus (l : Launch) (D : va_G) (cI cZ cS cJ : ClassId) (aC : Nat) (X X' : va_W) (fs : List Value) (h0 : X[0]? = some (aC, .inr (5, fs))) (x2 x3 x4 : Int32) (k : Nat) (r : Int32) (hM : vx_Met l yX5_modulus wsX5_modulus rm5_modulus (xP D (gT cI cZ cS cJ) X [.ref aC, .int x2]) (xQ D k (some (.int r)) (uA X) X') (xX D k (uA X) X') 1 6 (uA X)) : Met l yL_call wsL_call rmL_call (wP D (gT cI cZ cS cJ) X [.ref aC, .int (1 : Int32), .int x2, .int x3, .int x4]) (uQ D (some (.int (cv k r))) (uA X) X') 3 18 (uA X) := by
  refine va_MetW (cc := cL_call) (maxL := 6) (ret := (some .int)) (hh := hhL_call) (by decide) rfl ?_
  intro p e s m args below meth c s₁ B hml hv
  obtain ⟨⟨ha, hK, hP, hD0, hX, hZ⟩, hY⟩ := hv
  have hx := B.exec
  have hb := B.bytes
  have hr := B.returns
  have hlocks := B.notSynchronized
  have hcw : (Cond.codeWith yL_call cL_call 6 (some .int) hhL_call).before args s = true := atoms_spec (ws := wsL_call) B.pre _ List.mem_cons_self
  have htab : c.exceptionTable.toList = tableOf hhL_call := vx_table (x := yL_call) B hcw
  have hts : ∀ w ∈ lw_all, w.before args s = true := fun w h => atoms_spec (ws := wsL_call) B.pre w (List.mem_cons_of_mem _ h)
  have hown : s.vm.findClass RL = some m.cls := findClass_of_methodNamed B.named
  have S : CallFix p m c cL_call 6 s args lw_all RL := ⟨hx, hb, hml, hown, hts⟩
  have hD := hD0.own
  have hS : va_S (uA X) s.heap s.heap [] := va_S.rf
  have hl := lv_entry ([.ref aC, .int (1 : Int32), .int x2, .int x3, .int x4] : List Value) (n := 6) (Nat.le_of_ble_eq_true rfl)
  refine W.eq (g2 := F0 m 0 ((lg_sl ([.ref aC, .int (1 : Int32), .int x2, .int x3, .int x4] : List Value) ++ List.replicate (6 - (lg_sl ([.ref aC, .int (1 : Int32), .int x2, .int x3, .int x4] : List Value)).length) Slot.unset).toArray) []) (by rw [ha]; exact lg_entry_eq _ _ _) ?_
  generalize (lg_sl ([.ref aC, .int (1 : Int32), .int x2, .int x3, .int x4] : List Value) ++ List.replicate (6 - (lg_sl ([.ref aC, .int (1 : Int32), .int x2, .int x3, .int x4] : List Value)).length) Slot.unset).toArray = ls at hl ⊢
  have hl : lv_has ls 6 [(0, .ref aC), (1, .int (1 : Int32)), (2, .int x2), (3, .int x3), (4, .int x4)] := hl
  refine lv_iload_n hx hb dL_call_0 rfl (lv_at hl 1 rfl) ?_
  refine lv_if_ne (tgt := 13) hx hb dL_call_1 (by decide) (fun _ => ?_) (fun h => absurd h (by decide))
  refine lv_iload_n hx hb dL_call_13 rfl (lv_at hl 1 rfl) ?_
  refine lv_iconst (v := 1) hx hb dL_call_14 (by decide) ?_
  refine lv_icmp_ne (tgt := 26) hx hb dL_call_15 (by decide) (fun h => absurd rfl h) (fun _ => ?_)
  refine lv_aload_n hx hb dL_call_18 rfl (lv_at hl 0 rfl) ?_
  refine lv_iload_n hx hb dL_call_19 rfl (lv_at hl 2 rfl) ?_
  refine xcallW (vx_runV (As := [.int x2]) (rest := []) S hM (cwV 1 hts (gd_V wd_467 wd_468 wd_469 wd_22 wd_470) rfl rfl rfl hd5_modulus ⟨Nat.le_of_ble_eq_true rfl, Nat.le_of_ble_eq_true rfl⟩) (xPreV2 hK hX hZ hS hP hD (ci := 5) (q := (RX5, TX5, 3)) h0 rfl) rfl rfl hl.1 rfl (lv_room (Nat.le_of_ble_eq_true rfl)) dL_call_20 ⟨Nat.le_of_ble_eq_true rfl, Nat.le_of_ble_eq_true rfl⟩) hS hD (fun ce q9 H locs hk0 hP hS hce hcv hcl => ?_) (fun H locs hk0 hP hS => ?_)
  · by_cases h1 : k = 1
    · subst h1
      rw [cv_1]
      refine vx_catch (own := RL) (name := exn 1) (E := exn 1) hown [] ⟨0, 315, 316, 82⟩ [⟨0, 315, 321, 84⟩, ⟨0, 315, 326, 86⟩] (by rw [htab]; rfl) (fun z hz => absurd hz List.not_mem_nil) (by decide) (by decide) (hts _ wd_451) (cast_exn hX (by decide)) hce hcv hcl ?_
      refine lv_astore (lv' := [(5, .ref q9), (0, .ref aC), (1, .int (1 : Int32)), (2, .int x2), (3, .int x3), (4, .int x4)]) hx hb dL_call_316 hl (by decide) rfl (fun ls hl => ?_)
      refine lv_bipush (v := -11) hx hb dL_call_318 (by decide) ?_
      exact vreti (Nat.le_of_ble_eq_true rfl) (Nat.le_of_ble_eq_true rfl) hx hb hr hlocks hP hS dL_call_320
    by_cases h2 : k = 2
    · subst h2
      rw [cv_2]
      refine vx_catch (own := RL) (name := exn 2) (E := exn 2) hown [⟨0, 315, 316, 82⟩] ⟨0, 315, 321, 84⟩ [⟨0, 315, 326, 86⟩] (by rw [htab]; rfl) (fun z hz => by simp only [List.mem_cons, List.not_mem_nil, or_false] at hz; subst hz; exact Or.inr ⟨by decide, exn 1, (hts _ wd_451), hY 2 1 (by decide) (by decide) (by decide)⟩) (by decide) (by decide) (hts _ wd_452) (cast_exn hX (by decide)) hce hcv hcl ?_
      refine lv_astore (lv' := [(5, .ref q9), (0, .ref aC), (1, .int (1 : Int32)), (2, .int x2), (3, .int x3), (4, .int x4)]) hx hb dL_call_321 hl (by decide) rfl (fun ls hl => ?_)
      refine lv_bipush (v := -12) hx hb dL_call_323 (by decide) ?_
      exact vreti (Nat.le_of_ble_eq_true rfl) (Nat.le_of_ble_eq_true rfl) hx hb hr hlocks hP hS dL_call_325
    rw [cv_3 _ hk0 h1 h2]
    rw [exn_3 h1 h2] at hcl
    refine vx_catch (own := RL) (name := exn 3) (E := exn 3) hown [⟨0, 315, 316, 82⟩, ⟨0, 315, 321, 84⟩] ⟨0, 315, 326, 86⟩ [] (by rw [htab]; rfl) (fun z hz => by simp only [List.mem_cons, List.not_mem_nil, or_false] at hz; rcases hz with rfl | rfl; (exact Or.inr ⟨by decide, exn 1, (hts _ wd_451), hY 3 1 (by decide) (by decide) (by decide)⟩); (exact Or.inr ⟨by decide, exn 2, (hts _ wd_452), hY 3 2 (by decide) (by decide) (by decide)⟩)) (by decide) (by decide) (hts _ wd_453) (cast_exn hX (by decide)) hce hcv hcl ?_
    refine lv_astore (lv' := [(5, .ref q9), (0, .ref aC), (1, .int (1 : Int32)), (2, .int x2), (3, .int x3), (4, .int x4)]) hx hb dL_call_326 hl (by decide) rfl (fun ls hl => ?_)
    refine lv_bipush (v := -13) hx hb dL_call_328 (by decide) ?_
    exact vreti (Nat.le_of_ble_eq_true rfl) (Nat.le_of_ble_eq_true rfl) hx hb hr hlocks hP hS dL_call_330
  · subst hk0
    rw [cv_0]
    refine lv_goto (tgt := 315) hx hb dL_call_23 (by decide) ?_
    exact vreti (Nat.le_of_ble_eq_true rfl) (Nat.le_of_ble_eq_true rfl) hx hb hr hlocks hP hS dL_call_315
def FC_modulus (st : ST) (x2 x3 x4 : Int32) : Option (Int32 × ST) := bd3 (F_modulus st x2) (fun k r st' => some (cv k r, st'))
theorem KT_modulus (l : Launch) (hfl : l.stackTraces = false) (D : va_G) (cI cZ cS cJ : ClassId) (a : AD) (st : ST) (x2 x3 x4 : Int32) (r : Int32) (st' : ST) (hF : FC_modulus st x2 x3 x4 = some (r, st')) : Met l yL_call wsL_call rmL_call (wP D (gT cI cZ cS cJ) (WS cI cZ cS a st) [.ref a.1, .int (1 : Int32), .int x2, .int x3, .int x4]) (uQ D (some (.int r)) (uA (WS cI cZ cS a st)) (WS cI cZ cS a st')) 3 18 (uA (WS cI cZ cS a st)) := by
  obtain ⟨k, r0, s1, h, e⟩ := bd3_at hF
  cases e
  exact KC_modulus l D cI cZ cS cJ a.1 _ _ _ (WS_0 cI cZ cS a st) x2 x3 x4 k r0 (KS_modulus l hfl D cI cZ cS cJ a st x2 k r0 _ h)
set_option maxHeartbeats 1000000 in
set_option maxRecDepth 20000 in
theorem KC_book (l : Launch) (D : va_G) (cI cZ cS cJ : ClassId) (aC : Nat) (X X' : va_W) (fs : List Value) (h0 : X[0]? = some (aC, .inr (5, fs))) (x2 x3 x4 : Int32) (k : Nat) (r : Int32) (hM : vx_Met l yX5_book wsX5_book rm5_book (xP D (gT cI cZ cS cJ) X [.ref aC, .int x2, .int x3]) (xQ D k (some (.int r)) (uA X) X') (xX D k (uA X) X') 1 6 (uA X)) : Met l yL_call wsL_call rmL_call (wP D (gT cI cZ cS cJ) X [.ref aC, .int (2 : Int32), .int x2, .int x3, .int x4]) (uQ D (some (.int (cv k r))) (uA X) X') 3 18 (uA X) := by
  refine va_MetW (cc := cL_call) (maxL := 6) (ret := (some .int)) (hh := hhL_call) (by decide) rfl ?_
  intro p e s m args below meth c s₁ B hml hv
  obtain ⟨⟨ha, hK, hP, hD0, hX, hZ⟩, hY⟩ := hv
  have hx := B.exec
  have hb := B.bytes
  have hr := B.returns
  have hlocks := B.notSynchronized
  have hcw : (Cond.codeWith yL_call cL_call 6 (some .int) hhL_call).before args s = true := atoms_spec (ws := wsL_call) B.pre _ List.mem_cons_self
  have htab : c.exceptionTable.toList = tableOf hhL_call := vx_table (x := yL_call) B hcw
  have hts : ∀ w ∈ lw_all, w.before args s = true := fun w h => atoms_spec (ws := wsL_call) B.pre w (List.mem_cons_of_mem _ h)
  have hown : s.vm.findClass RL = some m.cls := findClass_of_methodNamed B.named
  have S : CallFix p m c cL_call 6 s args lw_all RL := ⟨hx, hb, hml, hown, hts⟩
  have hD := hD0.own
  have hS : va_S (uA X) s.heap s.heap [] := va_S.rf
  have hl := lv_entry ([.ref aC, .int (2 : Int32), .int x2, .int x3, .int x4] : List Value) (n := 6) (Nat.le_of_ble_eq_true rfl)
  refine W.eq (g2 := F0 m 0 ((lg_sl ([.ref aC, .int (2 : Int32), .int x2, .int x3, .int x4] : List Value) ++ List.replicate (6 - (lg_sl ([.ref aC, .int (2 : Int32), .int x2, .int x3, .int x4] : List Value)).length) Slot.unset).toArray) []) (by rw [ha]; exact lg_entry_eq _ _ _) ?_
  generalize (lg_sl ([.ref aC, .int (2 : Int32), .int x2, .int x3, .int x4] : List Value) ++ List.replicate (6 - (lg_sl ([.ref aC, .int (2 : Int32), .int x2, .int x3, .int x4] : List Value)).length) Slot.unset).toArray = ls at hl ⊢
  have hl : lv_has ls 6 [(0, .ref aC), (1, .int (2 : Int32)), (2, .int x2), (3, .int x3), (4, .int x4)] := hl
  refine lv_iload_n hx hb dL_call_0 rfl (lv_at hl 1 rfl) ?_
  refine lv_if_ne (tgt := 13) hx hb dL_call_1 (by decide) (fun _ => ?_) (fun h => absurd h (by decide))
  refine lv_iload_n hx hb dL_call_13 rfl (lv_at hl 1 rfl) ?_
  refine lv_iconst (v := 1) hx hb dL_call_14 (by decide) ?_
  refine lv_icmp_ne (tgt := 26) hx hb dL_call_15 (by decide) (fun _ => ?_) (fun h => absurd h (by decide))
  refine lv_iload_n hx hb dL_call_26 rfl (lv_at hl 1 rfl) ?_
  refine lv_iconst (v := 2) hx hb dL_call_27 (by decide) ?_
  refine lv_icmp_ne (tgt := 40) hx hb dL_call_28 (by decide) (fun h => absurd rfl h) (fun _ => ?_)
  refine lv_aload_n hx hb dL_call_31 rfl (lv_at hl 0 rfl) ?_
  refine lv_iload_n hx hb dL_call_32 rfl (lv_at hl 2 rfl) ?_
  refine lv_iload_n hx hb dL_call_33 rfl (lv_at hl 3 rfl) ?_
  refine xcallW (vx_runV (As := [.int x2, .int x3]) (rest := []) S hM (cwV 2 hts (gd_V wd_149 wd_150 wd_151 wd_22 wd_152) rfl rfl rfl hd5_book ⟨Nat.le_of_ble_eq_true rfl, Nat.le_of_ble_eq_true rfl⟩) (xPreV2 hK hX hZ hS hP hD (ci := 5) (q := (RX5, TX5, 3)) h0 rfl) rfl rfl hl.1 rfl (lv_room (Nat.le_of_ble_eq_true rfl)) dL_call_34 ⟨Nat.le_of_ble_eq_true rfl, Nat.le_of_ble_eq_true rfl⟩) hS hD (fun ce q9 H locs hk0 hP hS hce hcv hcl => ?_) (fun H locs hk0 hP hS => ?_)
  · by_cases h1 : k = 1
    · subst h1
      rw [cv_1]
      refine vx_catch (own := RL) (name := exn 1) (E := exn 1) hown [] ⟨0, 315, 316, 82⟩ [⟨0, 315, 321, 84⟩, ⟨0, 315, 326, 86⟩] (by rw [htab]; rfl) (fun z hz => absurd hz List.not_mem_nil) (by decide) (by decide) (hts _ wd_451) (cast_exn hX (by decide)) hce hcv hcl ?_
      refine lv_astore (lv' := [(5, .ref q9), (0, .ref aC), (1, .int (2 : Int32)), (2, .int x2), (3, .int x3), (4, .int x4)]) hx hb dL_call_316 hl (by decide) rfl (fun ls hl => ?_)
      refine lv_bipush (v := -11) hx hb dL_call_318 (by decide) ?_
      exact vreti (Nat.le_of_ble_eq_true rfl) (Nat.le_of_ble_eq_true rfl) hx hb hr hlocks hP hS dL_call_320
    by_cases h2 : k = 2
    · subst h2
      rw [cv_2]
      refine vx_catch (own := RL) (name := exn 2) (E := exn 2) hown [⟨0, 315, 316, 82⟩] ⟨0, 315, 321, 84⟩ [⟨0, 315, 326, 86⟩] (by rw [htab]; rfl) (fun z hz => by simp only [List.mem_cons, List.not_mem_nil, or_false] at hz; subst hz; exact Or.inr ⟨by decide, exn 1, (hts _ wd_451), hY 2 1 (by decide) (by decide) (by decide)⟩) (by decide) (by decide) (hts _ wd_452) (cast_exn hX (by decide)) hce hcv hcl ?_
      refine lv_astore (lv' := [(5, .ref q9), (0, .ref aC), (1, .int (2 : Int32)), (2, .int x2), (3, .int x3), (4, .int x4)]) hx hb dL_call_321 hl (by decide) rfl (fun ls hl => ?_)
      refine lv_bipush (v := -12) hx hb dL_call_323 (by decide) ?_
      exact vreti (Nat.le_of_ble_eq_true rfl) (Nat.le_of_ble_eq_true rfl) hx hb hr hlocks hP hS dL_call_325
    rw [cv_3 _ hk0 h1 h2]
    rw [exn_3 h1 h2] at hcl
    refine vx_catch (own := RL) (name := exn 3) (E := exn 3) hown [⟨0, 315, 316, 82⟩, ⟨0, 315, 321, 84⟩] ⟨0, 315, 326, 86⟩ [] (by rw [htab]; rfl) (fun z hz => by simp only [List.mem_cons, List.not_mem_nil, or_false] at hz; rcases hz with rfl | rfl; (exact Or.inr ⟨by decide, exn 1, (hts _ wd_451), hY 3 1 (by decide) (by decide) (by decide)⟩); (exact Or.inr ⟨by decide, exn 2, (hts _ wd_452), hY 3 2 (by decide) (by decide) (by decide)⟩)) (by decide) (by decide) (hts _ wd_453) (cast_exn hX (by decide)) hce hcv hcl ?_
    refine lv_astore (lv' := [(5, .ref q9), (0, .ref aC), (1, .int (2 : Int32)), (2, .int x2), (3, .int x3), (4, .int x4)]) hx hb dL_call_326 hl (by decide) rfl (fun ls hl => ?_)
    refine lv_bipush (v := -13) hx hb dL_call_328 (by decide) ?_
    exact vreti (Nat.le_of_ble_eq_true rfl) (Nat.le_of_ble_eq_true rfl) hx hb hr hlocks hP hS dL_call_330
  · subst hk0
    rw [cv_0]
    refine lv_goto (tgt := 315) hx hb dL_call_37 (by decide) ?_
    exact vreti (Nat.le_of_ble_eq_true rfl) (Nat.le_of_ble_eq_true rfl) hx hb hr hlocks hP hS dL_call_315
def FC_book (st : ST) (x2 x3 x4 : Int32) : Option (Int32 × ST) := bd3 (F_book st x2 x3) (fun k r st' => some (cv k r, st'))
theorem KT_book (l : Launch) (hfl : l.stackTraces = false) (D : va_G) (cI cZ cS cJ : ClassId) (a : AD) (st : ST) (x2 x3 x4 : Int32) (r : Int32) (st' : ST) (hF : FC_book st x2 x3 x4 = some (r, st')) : Met l yL_call wsL_call rmL_call (wP D (gT cI cZ cS cJ) (WS cI cZ cS a st) [.ref a.1, .int (2 : Int32), .int x2, .int x3, .int x4]) (uQ D (some (.int r)) (uA (WS cI cZ cS a st)) (WS cI cZ cS a st')) 3 18 (uA (WS cI cZ cS a st)) := by
  obtain ⟨k, r0, s1, h, e⟩ := bd3_at hF
  cases e
  exact KC_book l D cI cZ cS cJ a.1 _ _ _ (WS_0 cI cZ cS a st) x2 x3 x4 k r0 (KS_book l hfl D cI cZ cS cJ a st x2 x3 k r0 _ h)
set_option maxHeartbeats 1000000 in
set_option maxRecDepth 20000 in
theorem KC_write (l : Launch) (D : va_G) (cI cZ cS cJ : ClassId) (aC : Nat) (X X' : va_W) (fs : List Value) (h0 : X[0]? = some (aC, .inr (5, fs))) (x2 x3 x4 : Int32) (k : Nat) (r : Int32) (hM : vx_Met l yX5_write wsX5_write rm5_write (xP D (gT cI cZ cS cJ) X [.ref aC, .int x2, .int x3]) (xQ D k (some (.int r)) (uA X) X') (xX D k (uA X) X') 1 6 (uA X)) : Met l yL_call wsL_call rmL_call (wP D (gT cI cZ cS cJ) X [.ref aC, .int (3 : Int32), .int x2, .int x3, .int x4]) (uQ D (some (.int (cv k r))) (uA X) X') 3 18 (uA X) := by
  refine va_MetW (cc := cL_call) (maxL := 6) (ret := (some .int)) (hh := hhL_call) (by decide) rfl ?_
  intro p e s m args below meth c s₁ B hml hv
  obtain ⟨⟨ha, hK, hP, hD0, hX, hZ⟩, hY⟩ := hv
  have hx := B.exec
  have hb := B.bytes
  have hr := B.returns
  have hlocks := B.notSynchronized
  have hcw : (Cond.codeWith yL_call cL_call 6 (some .int) hhL_call).before args s = true := atoms_spec (ws := wsL_call) B.pre _ List.mem_cons_self
  have htab : c.exceptionTable.toList = tableOf hhL_call := vx_table (x := yL_call) B hcw
  have hts : ∀ w ∈ lw_all, w.before args s = true := fun w h => atoms_spec (ws := wsL_call) B.pre w (List.mem_cons_of_mem _ h)
  have hown : s.vm.findClass RL = some m.cls := findClass_of_methodNamed B.named
  have S : CallFix p m c cL_call 6 s args lw_all RL := ⟨hx, hb, hml, hown, hts⟩
  have hD := hD0.own
  have hS : va_S (uA X) s.heap s.heap [] := va_S.rf
  have hl := lv_entry ([.ref aC, .int (3 : Int32), .int x2, .int x3, .int x4] : List Value) (n := 6) (Nat.le_of_ble_eq_true rfl)
  refine W.eq (g2 := F0 m 0 ((lg_sl ([.ref aC, .int (3 : Int32), .int x2, .int x3, .int x4] : List Value) ++ List.replicate (6 - (lg_sl ([.ref aC, .int (3 : Int32), .int x2, .int x3, .int x4] : List Value)).length) Slot.unset).toArray) []) (by rw [ha]; exact lg_entry_eq _ _ _) ?_
  generalize (lg_sl ([.ref aC, .int (3 : Int32), .int x2, .int x3, .int x4] : List Value) ++ List.replicate (6 - (lg_sl ([.ref aC, .int (3 : Int32), .int x2, .int x3, .int x4] : List Value)).length) Slot.unset).toArray = ls at hl ⊢
  have hl : lv_has ls 6 [(0, .ref aC), (1, .int (3 : Int32)), (2, .int x2), (3, .int x3), (4, .int x4)] := hl
  refine lv_iload_n hx hb dL_call_0 rfl (lv_at hl 1 rfl) ?_
  refine lv_if_ne (tgt := 13) hx hb dL_call_1 (by decide) (fun _ => ?_) (fun h => absurd h (by decide))
  refine lv_iload_n hx hb dL_call_13 rfl (lv_at hl 1 rfl) ?_
  refine lv_iconst (v := 1) hx hb dL_call_14 (by decide) ?_
  refine lv_icmp_ne (tgt := 26) hx hb dL_call_15 (by decide) (fun _ => ?_) (fun h => absurd h (by decide))
  refine lv_iload_n hx hb dL_call_26 rfl (lv_at hl 1 rfl) ?_
  refine lv_iconst (v := 2) hx hb dL_call_27 (by decide) ?_
  refine lv_icmp_ne (tgt := 40) hx hb dL_call_28 (by decide) (fun _ => ?_) (fun h => absurd h (by decide))
  refine lv_iload_n hx hb dL_call_40 rfl (lv_at hl 1 rfl) ?_
  refine lv_iconst (v := 3) hx hb dL_call_41 (by decide) ?_
  refine lv_icmp_ne (tgt := 54) hx hb dL_call_42 (by decide) (fun h => absurd rfl h) (fun _ => ?_)
  refine lv_aload_n hx hb dL_call_45 rfl (lv_at hl 0 rfl) ?_
  refine lv_iload_n hx hb dL_call_46 rfl (lv_at hl 2 rfl) ?_
  refine lv_iload_n hx hb dL_call_47 rfl (lv_at hl 3 rfl) ?_
  refine xcallW (vx_runV (As := [.int x2, .int x3]) (rest := []) S hM (cwV 2 hts (gd_V wd_311 wd_312 wd_313 wd_22 wd_314) rfl rfl rfl hd5_write ⟨Nat.le_of_ble_eq_true rfl, Nat.le_of_ble_eq_true rfl⟩) (xPreV2 hK hX hZ hS hP hD (ci := 5) (q := (RX5, TX5, 3)) h0 rfl) rfl rfl hl.1 rfl (lv_room (Nat.le_of_ble_eq_true rfl)) dL_call_48 ⟨Nat.le_of_ble_eq_true rfl, Nat.le_of_ble_eq_true rfl⟩) hS hD (fun ce q9 H locs hk0 hP hS hce hcv hcl => ?_) (fun H locs hk0 hP hS => ?_)
  · by_cases h1 : k = 1
    · subst h1
      rw [cv_1]
      refine vx_catch (own := RL) (name := exn 1) (E := exn 1) hown [] ⟨0, 315, 316, 82⟩ [⟨0, 315, 321, 84⟩, ⟨0, 315, 326, 86⟩] (by rw [htab]; rfl) (fun z hz => absurd hz List.not_mem_nil) (by decide) (by decide) (hts _ wd_451) (cast_exn hX (by decide)) hce hcv hcl ?_
      refine lv_astore (lv' := [(5, .ref q9), (0, .ref aC), (1, .int (3 : Int32)), (2, .int x2), (3, .int x3), (4, .int x4)]) hx hb dL_call_316 hl (by decide) rfl (fun ls hl => ?_)
      refine lv_bipush (v := -11) hx hb dL_call_318 (by decide) ?_
      exact vreti (Nat.le_of_ble_eq_true rfl) (Nat.le_of_ble_eq_true rfl) hx hb hr hlocks hP hS dL_call_320
    by_cases h2 : k = 2
    · subst h2
      rw [cv_2]
      refine vx_catch (own := RL) (name := exn 2) (E := exn 2) hown [⟨0, 315, 316, 82⟩] ⟨0, 315, 321, 84⟩ [⟨0, 315, 326, 86⟩] (by rw [htab]; rfl) (fun z hz => by simp only [List.mem_cons, List.not_mem_nil, or_false] at hz; subst hz; exact Or.inr ⟨by decide, exn 1, (hts _ wd_451), hY 2 1 (by decide) (by decide) (by decide)⟩) (by decide) (by decide) (hts _ wd_452) (cast_exn hX (by decide)) hce hcv hcl ?_
      refine lv_astore (lv' := [(5, .ref q9), (0, .ref aC), (1, .int (3 : Int32)), (2, .int x2), (3, .int x3), (4, .int x4)]) hx hb dL_call_321 hl (by decide) rfl (fun ls hl => ?_)
      refine lv_bipush (v := -12) hx hb dL_call_323 (by decide) ?_
      exact vreti (Nat.le_of_ble_eq_true rfl) (Nat.le_of_ble_eq_true rfl) hx hb hr hlocks hP hS dL_call_325
    rw [cv_3 _ hk0 h1 h2]
    rw [exn_3 h1 h2] at hcl
    refine vx_catch (own := RL) (name := exn 3) (E := exn 3) hown [⟨0, 315, 316, 82⟩, ⟨0, 315, 321, 84⟩] ⟨0, 315, 326, 86⟩ [] (by rw [htab]; rfl) (fun z hz => by simp only [List.mem_cons, List.not_mem_nil, or_false] at hz; rcases hz with rfl | rfl; (exact Or.inr ⟨by decide, exn 1, (hts _ wd_451), hY 3 1 (by decide) (by decide) (by decide)⟩); (exact Or.inr ⟨by decide, exn 2, (hts _ wd_452), hY 3 2 (by decide) (by decide) (by decide)⟩)) (by decide) (by decide) (hts _ wd_453) (cast_exn hX (by decide)) hce hcv hcl ?_
    refine lv_astore (lv' := [(5, .ref q9), (0, .ref aC), (1, .int (3 : Int32)), (2, .int x2), (3, .int x3), (4, .int x4)]) hx hb dL_call_326 hl (by decide) rfl (fun ls hl => ?_)
    refine lv_bipush (v := -13) hx hb dL_call_328 (by decide) ?_
    exact vreti (Nat.le_of_ble_eq_true rfl) (Nat.le_of_ble_eq_true rfl) hx hb hr hlocks hP hS dL_call_330
  · subst hk0
    rw [cv_0]
    refine lv_goto (tgt := 315) hx hb dL_call_51 (by decide) ?_
    exact vreti (Nat.le_of_ble_eq_true rfl) (Nat.le_of_ble_eq_true rfl) hx hb hr hlocks hP hS dL_call_315
def FC_write (st : ST) (x2 x3 x4 : Int32) : Option (Int32 × ST) := bd3 (F_write st x2 x3) (fun k r st' => some (cv k r, st'))
theorem KT_write (l : Launch) (hfl : l.stackTraces = false) (D : va_G) (cI cZ cS cJ : ClassId) (a : AD) (st : ST) (x2 x3 x4 : Int32) (r : Int32) (st' : ST) (hF : FC_write st x2 x3 x4 = some (r, st')) : Met l yL_call wsL_call rmL_call (wP D (gT cI cZ cS cJ) (WS cI cZ cS a st) [.ref a.1, .int (3 : Int32), .int x2, .int x3, .int x4]) (uQ D (some (.int r)) (uA (WS cI cZ cS a st)) (WS cI cZ cS a st')) 3 18 (uA (WS cI cZ cS a st)) := by
  obtain ⟨k, r0, s1, h, e⟩ := bd3_at hF
  cases e
  exact KC_write l D cI cZ cS cJ a.1 _ _ _ (WS_0 cI cZ cS a st) x2 x3 x4 k r0 (KS_write l hfl D cI cZ cS cJ a st x2 x3 k r0 _ h)
set_option maxHeartbeats 1000000 in
set_option maxRecDepth 20000 in
theorem KC_cash (l : Launch) (D : va_G) (cI cZ cS cJ : ClassId) (aC : Nat) (X X' : va_W) (fs : List Value) (h0 : X[0]? = some (aC, .inr (5, fs))) (x2 x3 x4 : Int32) (k : Nat) (r : Int32) (hM : vx_Met l yX5_cash wsX5_cash rm5_cash (xP D (gT cI cZ cS cJ) X [.ref aC, .int x2, .int x3]) (xQ D k (some (.int r)) (uA X) X') (xX D k (uA X) X') 2 12 (uA X)) : Met l yL_call wsL_call rmL_call (wP D (gT cI cZ cS cJ) X [.ref aC, .int (4 : Int32), .int x2, .int x3, .int x4]) (uQ D (some (.int (cv k r))) (uA X) X') 3 18 (uA X) := by
  refine va_MetW (cc := cL_call) (maxL := 6) (ret := (some .int)) (hh := hhL_call) (by decide) rfl ?_
  intro p e s m args below meth c s₁ B hml hv
  obtain ⟨⟨ha, hK, hP, hD0, hX, hZ⟩, hY⟩ := hv
  have hx := B.exec
  have hb := B.bytes
  have hr := B.returns
  have hlocks := B.notSynchronized
  have hcw : (Cond.codeWith yL_call cL_call 6 (some .int) hhL_call).before args s = true := atoms_spec (ws := wsL_call) B.pre _ List.mem_cons_self
  have htab : c.exceptionTable.toList = tableOf hhL_call := vx_table (x := yL_call) B hcw
  have hts : ∀ w ∈ lw_all, w.before args s = true := fun w h => atoms_spec (ws := wsL_call) B.pre w (List.mem_cons_of_mem _ h)
  have hown : s.vm.findClass RL = some m.cls := findClass_of_methodNamed B.named
  have S : CallFix p m c cL_call 6 s args lw_all RL := ⟨hx, hb, hml, hown, hts⟩
  have hD := hD0.own
  have hS : va_S (uA X) s.heap s.heap [] := va_S.rf
  have hl := lv_entry ([.ref aC, .int (4 : Int32), .int x2, .int x3, .int x4] : List Value) (n := 6) (Nat.le_of_ble_eq_true rfl)
  refine W.eq (g2 := F0 m 0 ((lg_sl ([.ref aC, .int (4 : Int32), .int x2, .int x3, .int x4] : List Value) ++ List.replicate (6 - (lg_sl ([.ref aC, .int (4 : Int32), .int x2, .int x3, .int x4] : List Value)).length) Slot.unset).toArray) []) (by rw [ha]; exact lg_entry_eq _ _ _) ?_
  generalize (lg_sl ([.ref aC, .int (4 : Int32), .int x2, .int x3, .int x4] : List Value) ++ List.replicate (6 - (lg_sl ([.ref aC, .int (4 : Int32), .int x2, .int x3, .int x4] : List Value)).length) Slot.unset).toArray = ls at hl ⊢
  have hl : lv_has ls 6 [(0, .ref aC), (1, .int (4 : Int32)), (2, .int x2), (3, .int x3), (4, .int x4)] := hl
  refine lv_iload_n hx hb dL_call_0 rfl (lv_at hl 1 rfl) ?_
  refine lv_if_ne (tgt := 13) hx hb dL_call_1 (by decide) (fun _ => ?_) (fun h => absurd h (by decide))
  refine lv_iload_n hx hb dL_call_13 rfl (lv_at hl 1 rfl) ?_
  refine lv_iconst (v := 1) hx hb dL_call_14 (by decide) ?_
  refine lv_icmp_ne (tgt := 26) hx hb dL_call_15 (by decide) (fun _ => ?_) (fun h => absurd h (by decide))
  refine lv_iload_n hx hb dL_call_26 rfl (lv_at hl 1 rfl) ?_
  refine lv_iconst (v := 2) hx hb dL_call_27 (by decide) ?_
  refine lv_icmp_ne (tgt := 40) hx hb dL_call_28 (by decide) (fun _ => ?_) (fun h => absurd h (by decide))
  refine lv_iload_n hx hb dL_call_40 rfl (lv_at hl 1 rfl) ?_
  refine lv_iconst (v := 3) hx hb dL_call_41 (by decide) ?_
  refine lv_icmp_ne (tgt := 54) hx hb dL_call_42 (by decide) (fun _ => ?_) (fun h => absurd h (by decide))
  refine lv_iload_n hx hb dL_call_54 rfl (lv_at hl 1 rfl) ?_
  refine lv_iconst (v := 4) hx hb dL_call_55 (by decide) ?_
  refine lv_icmp_ne (tgt := 68) hx hb dL_call_56 (by decide) (fun h => absurd rfl h) (fun _ => ?_)
  refine lv_aload_n hx hb dL_call_59 rfl (lv_at hl 0 rfl) ?_
  refine lv_iload_n hx hb dL_call_60 rfl (lv_at hl 2 rfl) ?_
  refine lv_iload_n hx hb dL_call_61 rfl (lv_at hl 3 rfl) ?_
  refine xcallW (vx_runV (As := [.int x2, .int x3]) (rest := []) S hM (cwV 2 hts (gd_V wd_343 wd_344 wd_345 wd_22 wd_346) rfl rfl rfl hd5_cash ⟨Nat.le_of_ble_eq_true rfl, Nat.le_of_ble_eq_true rfl⟩) (xPreV2 hK hX hZ hS hP hD (ci := 5) (q := (RX5, TX5, 3)) h0 rfl) rfl rfl hl.1 rfl (lv_room (Nat.le_of_ble_eq_true rfl)) dL_call_62 ⟨Nat.le_of_ble_eq_true rfl, Nat.le_of_ble_eq_true rfl⟩) hS hD (fun ce q9 H locs hk0 hP hS hce hcv hcl => ?_) (fun H locs hk0 hP hS => ?_)
  · by_cases h1 : k = 1
    · subst h1
      rw [cv_1]
      refine vx_catch (own := RL) (name := exn 1) (E := exn 1) hown [] ⟨0, 315, 316, 82⟩ [⟨0, 315, 321, 84⟩, ⟨0, 315, 326, 86⟩] (by rw [htab]; rfl) (fun z hz => absurd hz List.not_mem_nil) (by decide) (by decide) (hts _ wd_451) (cast_exn hX (by decide)) hce hcv hcl ?_
      refine lv_astore (lv' := [(5, .ref q9), (0, .ref aC), (1, .int (4 : Int32)), (2, .int x2), (3, .int x3), (4, .int x4)]) hx hb dL_call_316 hl (by decide) rfl (fun ls hl => ?_)
      refine lv_bipush (v := -11) hx hb dL_call_318 (by decide) ?_
      exact vreti (Nat.le_of_ble_eq_true rfl) (Nat.le_of_ble_eq_true rfl) hx hb hr hlocks hP hS dL_call_320
    by_cases h2 : k = 2
    · subst h2
      rw [cv_2]
      refine vx_catch (own := RL) (name := exn 2) (E := exn 2) hown [⟨0, 315, 316, 82⟩] ⟨0, 315, 321, 84⟩ [⟨0, 315, 326, 86⟩] (by rw [htab]; rfl) (fun z hz => by simp only [List.mem_cons, List.not_mem_nil, or_false] at hz; subst hz; exact Or.inr ⟨by decide, exn 1, (hts _ wd_451), hY 2 1 (by decide) (by decide) (by decide)⟩) (by decide) (by decide) (hts _ wd_452) (cast_exn hX (by decide)) hce hcv hcl ?_
      refine lv_astore (lv' := [(5, .ref q9), (0, .ref aC), (1, .int (4 : Int32)), (2, .int x2), (3, .int x3), (4, .int x4)]) hx hb dL_call_321 hl (by decide) rfl (fun ls hl => ?_)
      refine lv_bipush (v := -12) hx hb dL_call_323 (by decide) ?_
      exact vreti (Nat.le_of_ble_eq_true rfl) (Nat.le_of_ble_eq_true rfl) hx hb hr hlocks hP hS dL_call_325
    rw [cv_3 _ hk0 h1 h2]
    rw [exn_3 h1 h2] at hcl
    refine vx_catch (own := RL) (name := exn 3) (E := exn 3) hown [⟨0, 315, 316, 82⟩, ⟨0, 315, 321, 84⟩] ⟨0, 315, 326, 86⟩ [] (by rw [htab]; rfl) (fun z hz => by simp only [List.mem_cons, List.not_mem_nil, or_false] at hz; rcases hz with rfl | rfl; (exact Or.inr ⟨by decide, exn 1, (hts _ wd_451), hY 3 1 (by decide) (by decide) (by decide)⟩); (exact Or.inr ⟨by decide, exn 2, (hts _ wd_452), hY 3 2 (by decide) (by decide) (by decide)⟩)) (by decide) (by decide) (hts _ wd_453) (cast_exn hX (by decide)) hce hcv hcl ?_
    refine lv_astore (lv' := [(5, .ref q9), (0, .ref aC), (1, .int (4 : Int32)), (2, .int x2), (3, .int x3), (4, .int x4)]) hx hb dL_call_326 hl (by decide) rfl (fun ls hl => ?_)
    refine lv_bipush (v := -13) hx hb dL_call_328 (by decide) ?_
    exact vreti (Nat.le_of_ble_eq_true rfl) (Nat.le_of_ble_eq_true rfl) hx hb hr hlocks hP hS dL_call_330
  · subst hk0
    rw [cv_0]
    refine lv_goto (tgt := 315) hx hb dL_call_65 (by decide) ?_
    exact vreti (Nat.le_of_ble_eq_true rfl) (Nat.le_of_ble_eq_true rfl) hx hb hr hlocks hP hS dL_call_315
def FC_cash (st : ST) (x2 x3 x4 : Int32) : Option (Int32 × ST) := bd3 (F_cash st x2 x3) (fun k r st' => some (cv k r, st'))
theorem KT_cash (l : Launch) (hfl : l.stackTraces = false) (D : va_G) (cI cZ cS cJ : ClassId) (a : AD) (st : ST) (x2 x3 x4 : Int32) (r : Int32) (st' : ST) (hF : FC_cash st x2 x3 x4 = some (r, st')) : Met l yL_call wsL_call rmL_call (wP D (gT cI cZ cS cJ) (WS cI cZ cS a st) [.ref a.1, .int (4 : Int32), .int x2, .int x3, .int x4]) (uQ D (some (.int r)) (uA (WS cI cZ cS a st)) (WS cI cZ cS a st')) 3 18 (uA (WS cI cZ cS a st)) := by
  obtain ⟨k, r0, s1, h, e⟩ := bd3_at hF
  cases e
  exact KC_cash l D cI cZ cS cJ a.1 _ _ _ (WS_0 cI cZ cS a st) x2 x3 x4 k r0 (KS_cash l hfl D cI cZ cS cJ a st x2 x3 k r0 _ h)
set_option maxHeartbeats 1000000 in
set_option maxRecDepth 20000 in
theorem KC_voidRun (l : Launch) (D : va_G) (cI cZ cS cJ : ClassId) (aC : Nat) (X X' : va_W) (fs : List Value) (h0 : X[0]? = some (aC, .inr (5, fs))) (x2 x3 x4 : Int32) (k : Nat) (r : Int32) (hM : vx_Met l yX5_voidRun wsX5_voidRun rm5_voidRun (xP D (gT cI cZ cS cJ) X [.ref aC, .int x2, .int x3]) (xQ D k (some (.int r)) (uA X) X') (xX D k (uA X) X') 1 6 (uA X)) : Met l yL_call wsL_call rmL_call (wP D (gT cI cZ cS cJ) X [.ref aC, .int (5 : Int32), .int x2, .int x3, .int x4]) (uQ D (some (.int (cv k r))) (uA X) X') 3 18 (uA X) := by
  refine va_MetW (cc := cL_call) (maxL := 6) (ret := (some .int)) (hh := hhL_call) (by decide) rfl ?_
  intro p e s m args below meth c s₁ B hml hv
  obtain ⟨⟨ha, hK, hP, hD0, hX, hZ⟩, hY⟩ := hv
  have hx := B.exec
  have hb := B.bytes
  have hr := B.returns
  have hlocks := B.notSynchronized
  have hcw : (Cond.codeWith yL_call cL_call 6 (some .int) hhL_call).before args s = true := atoms_spec (ws := wsL_call) B.pre _ List.mem_cons_self
  have htab : c.exceptionTable.toList = tableOf hhL_call := vx_table (x := yL_call) B hcw
  have hts : ∀ w ∈ lw_all, w.before args s = true := fun w h => atoms_spec (ws := wsL_call) B.pre w (List.mem_cons_of_mem _ h)
  have hown : s.vm.findClass RL = some m.cls := findClass_of_methodNamed B.named
  have S : CallFix p m c cL_call 6 s args lw_all RL := ⟨hx, hb, hml, hown, hts⟩
  have hD := hD0.own
  have hS : va_S (uA X) s.heap s.heap [] := va_S.rf
  have hl := lv_entry ([.ref aC, .int (5 : Int32), .int x2, .int x3, .int x4] : List Value) (n := 6) (Nat.le_of_ble_eq_true rfl)
  refine W.eq (g2 := F0 m 0 ((lg_sl ([.ref aC, .int (5 : Int32), .int x2, .int x3, .int x4] : List Value) ++ List.replicate (6 - (lg_sl ([.ref aC, .int (5 : Int32), .int x2, .int x3, .int x4] : List Value)).length) Slot.unset).toArray) []) (by rw [ha]; exact lg_entry_eq _ _ _) ?_
  generalize (lg_sl ([.ref aC, .int (5 : Int32), .int x2, .int x3, .int x4] : List Value) ++ List.replicate (6 - (lg_sl ([.ref aC, .int (5 : Int32), .int x2, .int x3, .int x4] : List Value)).length) Slot.unset).toArray = ls at hl ⊢
  have hl : lv_has ls 6 [(0, .ref aC), (1, .int (5 : Int32)), (2, .int x2), (3, .int x3), (4, .int x4)] := hl
  refine lv_iload_n hx hb dL_call_0 rfl (lv_at hl 1 rfl) ?_
  refine lv_if_ne (tgt := 13) hx hb dL_call_1 (by decide) (fun _ => ?_) (fun h => absurd h (by decide))
  refine lv_iload_n hx hb dL_call_13 rfl (lv_at hl 1 rfl) ?_
  refine lv_iconst (v := 1) hx hb dL_call_14 (by decide) ?_
  refine lv_icmp_ne (tgt := 26) hx hb dL_call_15 (by decide) (fun _ => ?_) (fun h => absurd h (by decide))
  refine lv_iload_n hx hb dL_call_26 rfl (lv_at hl 1 rfl) ?_
  refine lv_iconst (v := 2) hx hb dL_call_27 (by decide) ?_
  refine lv_icmp_ne (tgt := 40) hx hb dL_call_28 (by decide) (fun _ => ?_) (fun h => absurd h (by decide))
  refine lv_iload_n hx hb dL_call_40 rfl (lv_at hl 1 rfl) ?_
  refine lv_iconst (v := 3) hx hb dL_call_41 (by decide) ?_
  refine lv_icmp_ne (tgt := 54) hx hb dL_call_42 (by decide) (fun _ => ?_) (fun h => absurd h (by decide))
  refine lv_iload_n hx hb dL_call_54 rfl (lv_at hl 1 rfl) ?_
  refine lv_iconst (v := 4) hx hb dL_call_55 (by decide) ?_
  refine lv_icmp_ne (tgt := 68) hx hb dL_call_56 (by decide) (fun _ => ?_) (fun h => absurd h (by decide))
  refine lv_iload_n hx hb dL_call_68 rfl (lv_at hl 1 rfl) ?_
  refine lv_iconst (v := 5) hx hb dL_call_69 (by decide) ?_
  refine lv_icmp_ne (tgt := 82) hx hb dL_call_70 (by decide) (fun h => absurd rfl h) (fun _ => ?_)
  refine lv_aload_n hx hb dL_call_73 rfl (lv_at hl 0 rfl) ?_
  refine lv_iload_n hx hb dL_call_74 rfl (lv_at hl 2 rfl) ?_
  refine lv_iload_n hx hb dL_call_75 rfl (lv_at hl 3 rfl) ?_
  refine xcallW (vx_runV (As := [.int x2, .int x3]) (rest := []) S hM (cwV 2 hts (gd_V wd_472 wd_473 wd_474 wd_22 wd_475) rfl rfl rfl hd5_voidRun ⟨Nat.le_of_ble_eq_true rfl, Nat.le_of_ble_eq_true rfl⟩) (xPreV2 hK hX hZ hS hP hD (ci := 5) (q := (RX5, TX5, 3)) h0 rfl) rfl rfl hl.1 rfl (lv_room (Nat.le_of_ble_eq_true rfl)) dL_call_76 ⟨Nat.le_of_ble_eq_true rfl, Nat.le_of_ble_eq_true rfl⟩) hS hD (fun ce q9 H locs hk0 hP hS hce hcv hcl => ?_) (fun H locs hk0 hP hS => ?_)
  · by_cases h1 : k = 1
    · subst h1
      rw [cv_1]
      refine vx_catch (own := RL) (name := exn 1) (E := exn 1) hown [] ⟨0, 315, 316, 82⟩ [⟨0, 315, 321, 84⟩, ⟨0, 315, 326, 86⟩] (by rw [htab]; rfl) (fun z hz => absurd hz List.not_mem_nil) (by decide) (by decide) (hts _ wd_451) (cast_exn hX (by decide)) hce hcv hcl ?_
      refine lv_astore (lv' := [(5, .ref q9), (0, .ref aC), (1, .int (5 : Int32)), (2, .int x2), (3, .int x3), (4, .int x4)]) hx hb dL_call_316 hl (by decide) rfl (fun ls hl => ?_)
      refine lv_bipush (v := -11) hx hb dL_call_318 (by decide) ?_
      exact vreti (Nat.le_of_ble_eq_true rfl) (Nat.le_of_ble_eq_true rfl) hx hb hr hlocks hP hS dL_call_320
    by_cases h2 : k = 2
    · subst h2
      rw [cv_2]
      refine vx_catch (own := RL) (name := exn 2) (E := exn 2) hown [⟨0, 315, 316, 82⟩] ⟨0, 315, 321, 84⟩ [⟨0, 315, 326, 86⟩] (by rw [htab]; rfl) (fun z hz => by simp only [List.mem_cons, List.not_mem_nil, or_false] at hz; subst hz; exact Or.inr ⟨by decide, exn 1, (hts _ wd_451), hY 2 1 (by decide) (by decide) (by decide)⟩) (by decide) (by decide) (hts _ wd_452) (cast_exn hX (by decide)) hce hcv hcl ?_
      refine lv_astore (lv' := [(5, .ref q9), (0, .ref aC), (1, .int (5 : Int32)), (2, .int x2), (3, .int x3), (4, .int x4)]) hx hb dL_call_321 hl (by decide) rfl (fun ls hl => ?_)
      refine lv_bipush (v := -12) hx hb dL_call_323 (by decide) ?_
      exact vreti (Nat.le_of_ble_eq_true rfl) (Nat.le_of_ble_eq_true rfl) hx hb hr hlocks hP hS dL_call_325
    rw [cv_3 _ hk0 h1 h2]
    rw [exn_3 h1 h2] at hcl
    refine vx_catch (own := RL) (name := exn 3) (E := exn 3) hown [⟨0, 315, 316, 82⟩, ⟨0, 315, 321, 84⟩] ⟨0, 315, 326, 86⟩ [] (by rw [htab]; rfl) (fun z hz => by simp only [List.mem_cons, List.not_mem_nil, or_false] at hz; rcases hz with rfl | rfl; (exact Or.inr ⟨by decide, exn 1, (hts _ wd_451), hY 3 1 (by decide) (by decide) (by decide)⟩); (exact Or.inr ⟨by decide, exn 2, (hts _ wd_452), hY 3 2 (by decide) (by decide) (by decide)⟩)) (by decide) (by decide) (hts _ wd_453) (cast_exn hX (by decide)) hce hcv hcl ?_
    refine lv_astore (lv' := [(5, .ref q9), (0, .ref aC), (1, .int (5 : Int32)), (2, .int x2), (3, .int x3), (4, .int x4)]) hx hb dL_call_326 hl (by decide) rfl (fun ls hl => ?_)
    refine lv_bipush (v := -13) hx hb dL_call_328 (by decide) ?_
    exact vreti (Nat.le_of_ble_eq_true rfl) (Nat.le_of_ble_eq_true rfl) hx hb hr hlocks hP hS dL_call_330
  · subst hk0
    rw [cv_0]
    refine lv_goto (tgt := 315) hx hb dL_call_79 (by decide) ?_
    exact vreti (Nat.le_of_ble_eq_true rfl) (Nat.le_of_ble_eq_true rfl) hx hb hr hlocks hP hS dL_call_315
def FC_voidRun (st : ST) (x2 x3 x4 : Int32) : Option (Int32 × ST) := bd3 (F_voidRun st x2 x3) (fun k r st' => some (cv k r, st'))
theorem KT_voidRun (l : Launch) (hfl : l.stackTraces = false) (D : va_G) (cI cZ cS cJ : ClassId) (a : AD) (st : ST) (x2 x3 x4 : Int32) (r : Int32) (st' : ST) (hF : FC_voidRun st x2 x3 x4 = some (r, st')) : Met l yL_call wsL_call rmL_call (wP D (gT cI cZ cS cJ) (WS cI cZ cS a st) [.ref a.1, .int (5 : Int32), .int x2, .int x3, .int x4]) (uQ D (some (.int r)) (uA (WS cI cZ cS a st)) (WS cI cZ cS a st')) 3 18 (uA (WS cI cZ cS a st)) := by
  obtain ⟨k, r0, s1, h, e⟩ := bd3_at hF
  cases e
  exact KC_voidRun l D cI cZ cS cJ a.1 _ _ _ (WS_0 cI cZ cS a st) x2 x3 x4 k r0 (KS_voidRun l hfl D cI cZ cS cJ a st x2 x3 k r0 _ h)
set_option maxHeartbeats 1000000 in
set_option maxRecDepth 20000 in
theorem KC_append (l : Launch) (D : va_G) (cI cZ cS cJ : ClassId) (aC : Nat) (X X' : va_W) (fs : List Value) (h0 : X[0]? = some (aC, .inr (5, fs))) (x2 x3 x4 : Int32) (k : Nat) (r : Int32) (hM : vx_Met l yX5_append wsX5_append rm5_append (xP D (gT cI cZ cS cJ) X [.ref aC, .int x2]) (xQ D k (some (.int r)) (uA X) X') (xX D k (uA X) X') 1 6 (uA X)) : Met l yL_call wsL_call rmL_call (wP D (gT cI cZ cS cJ) X [.ref aC, .int (6 : Int32), .int x2, .int x3, .int x4]) (uQ D (some (.int (cv k r))) (uA X) X') 3 18 (uA X) := by
  refine va_MetW (cc := cL_call) (maxL := 6) (ret := (some .int)) (hh := hhL_call) (by decide) rfl ?_
  intro p e s m args below meth c s₁ B hml hv
  obtain ⟨⟨ha, hK, hP, hD0, hX, hZ⟩, hY⟩ := hv
  have hx := B.exec
  have hb := B.bytes
  have hr := B.returns
  have hlocks := B.notSynchronized
  have hcw : (Cond.codeWith yL_call cL_call 6 (some .int) hhL_call).before args s = true := atoms_spec (ws := wsL_call) B.pre _ List.mem_cons_self
  have htab : c.exceptionTable.toList = tableOf hhL_call := vx_table (x := yL_call) B hcw
  have hts : ∀ w ∈ lw_all, w.before args s = true := fun w h => atoms_spec (ws := wsL_call) B.pre w (List.mem_cons_of_mem _ h)
  have hown : s.vm.findClass RL = some m.cls := findClass_of_methodNamed B.named
  have S : CallFix p m c cL_call 6 s args lw_all RL := ⟨hx, hb, hml, hown, hts⟩
  have hD := hD0.own
  have hS : va_S (uA X) s.heap s.heap [] := va_S.rf
  have hl := lv_entry ([.ref aC, .int (6 : Int32), .int x2, .int x3, .int x4] : List Value) (n := 6) (Nat.le_of_ble_eq_true rfl)
  refine W.eq (g2 := F0 m 0 ((lg_sl ([.ref aC, .int (6 : Int32), .int x2, .int x3, .int x4] : List Value) ++ List.replicate (6 - (lg_sl ([.ref aC, .int (6 : Int32), .int x2, .int x3, .int x4] : List Value)).length) Slot.unset).toArray) []) (by rw [ha]; exact lg_entry_eq _ _ _) ?_
  generalize (lg_sl ([.ref aC, .int (6 : Int32), .int x2, .int x3, .int x4] : List Value) ++ List.replicate (6 - (lg_sl ([.ref aC, .int (6 : Int32), .int x2, .int x3, .int x4] : List Value)).length) Slot.unset).toArray = ls at hl ⊢
  have hl : lv_has ls 6 [(0, .ref aC), (1, .int (6 : Int32)), (2, .int x2), (3, .int x3), (4, .int x4)] := hl
  refine lv_iload_n hx hb dL_call_0 rfl (lv_at hl 1 rfl) ?_
  refine lv_if_ne (tgt := 13) hx hb dL_call_1 (by decide) (fun _ => ?_) (fun h => absurd h (by decide))
  refine lv_iload_n hx hb dL_call_13 rfl (lv_at hl 1 rfl) ?_
  refine lv_iconst (v := 1) hx hb dL_call_14 (by decide) ?_
  refine lv_icmp_ne (tgt := 26) hx hb dL_call_15 (by decide) (fun _ => ?_) (fun h => absurd h (by decide))
  refine lv_iload_n hx hb dL_call_26 rfl (lv_at hl 1 rfl) ?_
  refine lv_iconst (v := 2) hx hb dL_call_27 (by decide) ?_
  refine lv_icmp_ne (tgt := 40) hx hb dL_call_28 (by decide) (fun _ => ?_) (fun h => absurd h (by decide))
  refine lv_iload_n hx hb dL_call_40 rfl (lv_at hl 1 rfl) ?_
  refine lv_iconst (v := 3) hx hb dL_call_41 (by decide) ?_
  refine lv_icmp_ne (tgt := 54) hx hb dL_call_42 (by decide) (fun _ => ?_) (fun h => absurd h (by decide))
  refine lv_iload_n hx hb dL_call_54 rfl (lv_at hl 1 rfl) ?_
  refine lv_iconst (v := 4) hx hb dL_call_55 (by decide) ?_
  refine lv_icmp_ne (tgt := 68) hx hb dL_call_56 (by decide) (fun _ => ?_) (fun h => absurd h (by decide))
  refine lv_iload_n hx hb dL_call_68 rfl (lv_at hl 1 rfl) ?_
  refine lv_iconst (v := 5) hx hb dL_call_69 (by decide) ?_
  refine lv_icmp_ne (tgt := 82) hx hb dL_call_70 (by decide) (fun _ => ?_) (fun h => absurd h (by decide))
  refine lv_iload_n hx hb dL_call_82 rfl (lv_at hl 1 rfl) ?_
  refine lv_bipush (v := 6) hx hb dL_call_83 (by decide) ?_
  refine lv_icmp_ne (tgt := 96) hx hb dL_call_85 (by decide) (fun h => absurd rfl h) (fun _ => ?_)
  refine lv_aload_n hx hb dL_call_88 rfl (lv_at hl 0 rfl) ?_
  refine lv_iload_n hx hb dL_call_89 rfl (lv_at hl 2 rfl) ?_
  refine xcallW (vx_runV (As := [.int x2]) (rest := []) S hM (cwV 1 hts (gd_V wd_493 wd_494 wd_495 wd_22 wd_496) rfl rfl rfl hd5_append ⟨Nat.le_of_ble_eq_true rfl, Nat.le_of_ble_eq_true rfl⟩) (xPreV2 hK hX hZ hS hP hD (ci := 5) (q := (RX5, TX5, 3)) h0 rfl) rfl rfl hl.1 rfl (lv_room (Nat.le_of_ble_eq_true rfl)) dL_call_90 ⟨Nat.le_of_ble_eq_true rfl, Nat.le_of_ble_eq_true rfl⟩) hS hD (fun ce q9 H locs hk0 hP hS hce hcv hcl => ?_) (fun H locs hk0 hP hS => ?_)
  · by_cases h1 : k = 1
    · subst h1
      rw [cv_1]
      refine vx_catch (own := RL) (name := exn 1) (E := exn 1) hown [] ⟨0, 315, 316, 82⟩ [⟨0, 315, 321, 84⟩, ⟨0, 315, 326, 86⟩] (by rw [htab]; rfl) (fun z hz => absurd hz List.not_mem_nil) (by decide) (by decide) (hts _ wd_451) (cast_exn hX (by decide)) hce hcv hcl ?_
      refine lv_astore (lv' := [(5, .ref q9), (0, .ref aC), (1, .int (6 : Int32)), (2, .int x2), (3, .int x3), (4, .int x4)]) hx hb dL_call_316 hl (by decide) rfl (fun ls hl => ?_)
      refine lv_bipush (v := -11) hx hb dL_call_318 (by decide) ?_
      exact vreti (Nat.le_of_ble_eq_true rfl) (Nat.le_of_ble_eq_true rfl) hx hb hr hlocks hP hS dL_call_320
    by_cases h2 : k = 2
    · subst h2
      rw [cv_2]
      refine vx_catch (own := RL) (name := exn 2) (E := exn 2) hown [⟨0, 315, 316, 82⟩] ⟨0, 315, 321, 84⟩ [⟨0, 315, 326, 86⟩] (by rw [htab]; rfl) (fun z hz => by simp only [List.mem_cons, List.not_mem_nil, or_false] at hz; subst hz; exact Or.inr ⟨by decide, exn 1, (hts _ wd_451), hY 2 1 (by decide) (by decide) (by decide)⟩) (by decide) (by decide) (hts _ wd_452) (cast_exn hX (by decide)) hce hcv hcl ?_
      refine lv_astore (lv' := [(5, .ref q9), (0, .ref aC), (1, .int (6 : Int32)), (2, .int x2), (3, .int x3), (4, .int x4)]) hx hb dL_call_321 hl (by decide) rfl (fun ls hl => ?_)
      refine lv_bipush (v := -12) hx hb dL_call_323 (by decide) ?_
      exact vreti (Nat.le_of_ble_eq_true rfl) (Nat.le_of_ble_eq_true rfl) hx hb hr hlocks hP hS dL_call_325
    rw [cv_3 _ hk0 h1 h2]
    rw [exn_3 h1 h2] at hcl
    refine vx_catch (own := RL) (name := exn 3) (E := exn 3) hown [⟨0, 315, 316, 82⟩, ⟨0, 315, 321, 84⟩] ⟨0, 315, 326, 86⟩ [] (by rw [htab]; rfl) (fun z hz => by simp only [List.mem_cons, List.not_mem_nil, or_false] at hz; rcases hz with rfl | rfl; (exact Or.inr ⟨by decide, exn 1, (hts _ wd_451), hY 3 1 (by decide) (by decide) (by decide)⟩); (exact Or.inr ⟨by decide, exn 2, (hts _ wd_452), hY 3 2 (by decide) (by decide) (by decide)⟩)) (by decide) (by decide) (hts _ wd_453) (cast_exn hX (by decide)) hce hcv hcl ?_
    refine lv_astore (lv' := [(5, .ref q9), (0, .ref aC), (1, .int (6 : Int32)), (2, .int x2), (3, .int x3), (4, .int x4)]) hx hb dL_call_326 hl (by decide) rfl (fun ls hl => ?_)
    refine lv_bipush (v := -13) hx hb dL_call_328 (by decide) ?_
    exact vreti (Nat.le_of_ble_eq_true rfl) (Nat.le_of_ble_eq_true rfl) hx hb hr hlocks hP hS dL_call_330
  · subst hk0
    rw [cv_0]
    refine lv_goto (tgt := 315) hx hb dL_call_93 (by decide) ?_
    exact vreti (Nat.le_of_ble_eq_true rfl) (Nat.le_of_ble_eq_true rfl) hx hb hr hlocks hP hS dL_call_315
def FC_append (st : ST) (x2 x3 x4 : Int32) : Option (Int32 × ST) := bd3 (F_append st x2) (fun k r st' => some (cv k r, st'))
theorem KT_append (l : Launch) (hfl : l.stackTraces = false) (D : va_G) (cI cZ cS cJ : ClassId) (a : AD) (st : ST) (x2 x3 x4 : Int32) (r : Int32) (st' : ST) (hF : FC_append st x2 x3 x4 = some (r, st')) : Met l yL_call wsL_call rmL_call (wP D (gT cI cZ cS cJ) (WS cI cZ cS a st) [.ref a.1, .int (6 : Int32), .int x2, .int x3, .int x4]) (uQ D (some (.int r)) (uA (WS cI cZ cS a st)) (WS cI cZ cS a st')) 3 18 (uA (WS cI cZ cS a st)) := by
  obtain ⟨k, r0, s1, h, e⟩ := bd3_at hF
  cases e
  exact KC_append l D cI cZ cS cJ a.1 _ _ _ (WS_0 cI cZ cS a st) x2 x3 x4 k r0 (KS_append l hfl D cI cZ cS cJ a st x2 k r0 _ h)
set_option maxHeartbeats 1000000 in
set_option maxRecDepth 20000 in
theorem KC_execute (l : Launch) (D : va_G) (cI cZ cS cJ : ClassId) (aC : Nat) (X X' : va_W) (fs : List Value) (h0 : X[0]? = some (aC, .inr (5, fs))) (x2 x3 x4 : Int32) (k : Nat) (r : Int32) (hM : vx_Met l yX5_execute wsX5_execute rm5_execute (xP D (gT cI cZ cS cJ) X [.ref aC]) (xQ D k (some (.int r)) (uA X) X') (xX D k (uA X) X') 1 6 (uA X)) : Met l yL_call wsL_call rmL_call (wP D (gT cI cZ cS cJ) X [.ref aC, .int (7 : Int32), .int x2, .int x3, .int x4]) (uQ D (some (.int (cv k r))) (uA X) X') 3 18 (uA X) := by
  refine va_MetW (cc := cL_call) (maxL := 6) (ret := (some .int)) (hh := hhL_call) (by decide) rfl ?_
  intro p e s m args below meth c s₁ B hml hv
  obtain ⟨⟨ha, hK, hP, hD0, hX, hZ⟩, hY⟩ := hv
  have hx := B.exec
  have hb := B.bytes
  have hr := B.returns
  have hlocks := B.notSynchronized
  have hcw : (Cond.codeWith yL_call cL_call 6 (some .int) hhL_call).before args s = true := atoms_spec (ws := wsL_call) B.pre _ List.mem_cons_self
  have htab : c.exceptionTable.toList = tableOf hhL_call := vx_table (x := yL_call) B hcw
  have hts : ∀ w ∈ lw_all, w.before args s = true := fun w h => atoms_spec (ws := wsL_call) B.pre w (List.mem_cons_of_mem _ h)
  have hown : s.vm.findClass RL = some m.cls := findClass_of_methodNamed B.named
  have S : CallFix p m c cL_call 6 s args lw_all RL := ⟨hx, hb, hml, hown, hts⟩
  have hD := hD0.own
  have hS : va_S (uA X) s.heap s.heap [] := va_S.rf
  have hl := lv_entry ([.ref aC, .int (7 : Int32), .int x2, .int x3, .int x4] : List Value) (n := 6) (Nat.le_of_ble_eq_true rfl)
  refine W.eq (g2 := F0 m 0 ((lg_sl ([.ref aC, .int (7 : Int32), .int x2, .int x3, .int x4] : List Value) ++ List.replicate (6 - (lg_sl ([.ref aC, .int (7 : Int32), .int x2, .int x3, .int x4] : List Value)).length) Slot.unset).toArray) []) (by rw [ha]; exact lg_entry_eq _ _ _) ?_
  generalize (lg_sl ([.ref aC, .int (7 : Int32), .int x2, .int x3, .int x4] : List Value) ++ List.replicate (6 - (lg_sl ([.ref aC, .int (7 : Int32), .int x2, .int x3, .int x4] : List Value)).length) Slot.unset).toArray = ls at hl ⊢
  have hl : lv_has ls 6 [(0, .ref aC), (1, .int (7 : Int32)), (2, .int x2), (3, .int x3), (4, .int x4)] := hl
  refine lv_iload_n hx hb dL_call_0 rfl (lv_at hl 1 rfl) ?_
  refine lv_if_ne (tgt := 13) hx hb dL_call_1 (by decide) (fun _ => ?_) (fun h => absurd h (by decide))
  refine lv_iload_n hx hb dL_call_13 rfl (lv_at hl 1 rfl) ?_
  refine lv_iconst (v := 1) hx hb dL_call_14 (by decide) ?_
  refine lv_icmp_ne (tgt := 26) hx hb dL_call_15 (by decide) (fun _ => ?_) (fun h => absurd h (by decide))
  refine lv_iload_n hx hb dL_call_26 rfl (lv_at hl 1 rfl) ?_
  refine lv_iconst (v := 2) hx hb dL_call_27 (by decide) ?_
  refine lv_icmp_ne (tgt := 40) hx hb dL_call_28 (by decide) (fun _ => ?_) (fun h => absurd h (by decide))
  refine lv_iload_n hx hb dL_call_40 rfl (lv_at hl 1 rfl) ?_
  refine lv_iconst (v := 3) hx hb dL_call_41 (by decide) ?_
  refine lv_icmp_ne (tgt := 54) hx hb dL_call_42 (by decide) (fun _ => ?_) (fun h => absurd h (by decide))
  refine lv_iload_n hx hb dL_call_54 rfl (lv_at hl 1 rfl) ?_
  refine lv_iconst (v := 4) hx hb dL_call_55 (by decide) ?_
  refine lv_icmp_ne (tgt := 68) hx hb dL_call_56 (by decide) (fun _ => ?_) (fun h => absurd h (by decide))
  refine lv_iload_n hx hb dL_call_68 rfl (lv_at hl 1 rfl) ?_
  refine lv_iconst (v := 5) hx hb dL_call_69 (by decide) ?_
  refine lv_icmp_ne (tgt := 82) hx hb dL_call_70 (by decide) (fun _ => ?_) (fun h => absurd h (by decide))
  refine lv_iload_n hx hb dL_call_82 rfl (lv_at hl 1 rfl) ?_
  refine lv_bipush (v := 6) hx hb dL_call_83 (by decide) ?_
  refine lv_icmp_ne (tgt := 96) hx hb dL_call_85 (by decide) (fun _ => ?_) (fun h => absurd h (by decide))
  refine lv_iload_n hx hb dL_call_96 rfl (lv_at hl 1 rfl) ?_
  refine lv_bipush (v := 7) hx hb dL_call_97 (by decide) ?_
  refine lv_icmp_ne (tgt := 109) hx hb dL_call_99 (by decide) (fun h => absurd rfl h) (fun _ => ?_)
  refine lv_aload_n hx hb dL_call_102 rfl (lv_at hl 0 rfl) ?_
  refine xcallW (vx_runV (As := []) (rest := []) S hM (cwV 0 hts (gd_V wd_507 wd_508 wd_509 wd_22 wd_510) rfl rfl rfl hd5_execute ⟨Nat.le_of_ble_eq_true rfl, Nat.le_of_ble_eq_true rfl⟩) (xPreV2 hK hX hZ hS hP hD (ci := 5) (q := (RX5, TX5, 3)) h0 rfl) rfl rfl hl.1 rfl (lv_room (Nat.le_of_ble_eq_true rfl)) dL_call_103 ⟨Nat.le_of_ble_eq_true rfl, Nat.le_of_ble_eq_true rfl⟩) hS hD (fun ce q9 H locs hk0 hP hS hce hcv hcl => ?_) (fun H locs hk0 hP hS => ?_)
  · by_cases h1 : k = 1
    · subst h1
      rw [cv_1]
      refine vx_catch (own := RL) (name := exn 1) (E := exn 1) hown [] ⟨0, 315, 316, 82⟩ [⟨0, 315, 321, 84⟩, ⟨0, 315, 326, 86⟩] (by rw [htab]; rfl) (fun z hz => absurd hz List.not_mem_nil) (by decide) (by decide) (hts _ wd_451) (cast_exn hX (by decide)) hce hcv hcl ?_
      refine lv_astore (lv' := [(5, .ref q9), (0, .ref aC), (1, .int (7 : Int32)), (2, .int x2), (3, .int x3), (4, .int x4)]) hx hb dL_call_316 hl (by decide) rfl (fun ls hl => ?_)
      refine lv_bipush (v := -11) hx hb dL_call_318 (by decide) ?_
      exact vreti (Nat.le_of_ble_eq_true rfl) (Nat.le_of_ble_eq_true rfl) hx hb hr hlocks hP hS dL_call_320
    by_cases h2 : k = 2
    · subst h2
      rw [cv_2]
      refine vx_catch (own := RL) (name := exn 2) (E := exn 2) hown [⟨0, 315, 316, 82⟩] ⟨0, 315, 321, 84⟩ [⟨0, 315, 326, 86⟩] (by rw [htab]; rfl) (fun z hz => by simp only [List.mem_cons, List.not_mem_nil, or_false] at hz; subst hz; exact Or.inr ⟨by decide, exn 1, (hts _ wd_451), hY 2 1 (by decide) (by decide) (by decide)⟩) (by decide) (by decide) (hts _ wd_452) (cast_exn hX (by decide)) hce hcv hcl ?_
      refine lv_astore (lv' := [(5, .ref q9), (0, .ref aC), (1, .int (7 : Int32)), (2, .int x2), (3, .int x3), (4, .int x4)]) hx hb dL_call_321 hl (by decide) rfl (fun ls hl => ?_)
      refine lv_bipush (v := -12) hx hb dL_call_323 (by decide) ?_
      exact vreti (Nat.le_of_ble_eq_true rfl) (Nat.le_of_ble_eq_true rfl) hx hb hr hlocks hP hS dL_call_325
    rw [cv_3 _ hk0 h1 h2]
    rw [exn_3 h1 h2] at hcl
    refine vx_catch (own := RL) (name := exn 3) (E := exn 3) hown [⟨0, 315, 316, 82⟩, ⟨0, 315, 321, 84⟩] ⟨0, 315, 326, 86⟩ [] (by rw [htab]; rfl) (fun z hz => by simp only [List.mem_cons, List.not_mem_nil, or_false] at hz; rcases hz with rfl | rfl; (exact Or.inr ⟨by decide, exn 1, (hts _ wd_451), hY 3 1 (by decide) (by decide) (by decide)⟩); (exact Or.inr ⟨by decide, exn 2, (hts _ wd_452), hY 3 2 (by decide) (by decide) (by decide)⟩)) (by decide) (by decide) (hts _ wd_453) (cast_exn hX (by decide)) hce hcv hcl ?_
    refine lv_astore (lv' := [(5, .ref q9), (0, .ref aC), (1, .int (7 : Int32)), (2, .int x2), (3, .int x3), (4, .int x4)]) hx hb dL_call_326 hl (by decide) rfl (fun ls hl => ?_)
    refine lv_bipush (v := -13) hx hb dL_call_328 (by decide) ?_
    exact vreti (Nat.le_of_ble_eq_true rfl) (Nat.le_of_ble_eq_true rfl) hx hb hr hlocks hP hS dL_call_330
  · subst hk0
    rw [cv_0]
    refine lv_goto (tgt := 315) hx hb dL_call_106 (by decide) ?_
    exact vreti (Nat.le_of_ble_eq_true rfl) (Nat.le_of_ble_eq_true rfl) hx hb hr hlocks hP hS dL_call_315
def FC_execute (st : ST) (x2 x3 x4 : Int32) : Option (Int32 × ST) := bd3 (F_execute st) (fun k r st' => some (cv k r, st'))
theorem KT_execute (l : Launch) (hfl : l.stackTraces = false) (D : va_G) (cI cZ cS cJ : ClassId) (a : AD) (st : ST) (x2 x3 x4 : Int32) (r : Int32) (st' : ST) (hF : FC_execute st x2 x3 x4 = some (r, st')) : Met l yL_call wsL_call rmL_call (wP D (gT cI cZ cS cJ) (WS cI cZ cS a st) [.ref a.1, .int (7 : Int32), .int x2, .int x3, .int x4]) (uQ D (some (.int r)) (uA (WS cI cZ cS a st)) (WS cI cZ cS a st')) 3 18 (uA (WS cI cZ cS a st)) := by
  obtain ⟨k, r0, s1, h, e⟩ := bd3_at hF
  cases e
  exact KC_execute l D cI cZ cS cJ a.1 _ _ _ (WS_0 cI cZ cS a st) x2 x3 x4 k r0 (KS_execute l hfl D cI cZ cS cJ a st k r0 _ h)
set_option maxHeartbeats 1000000 in
set_option maxRecDepth 20000 in
theorem KC_undo (l : Launch) (D : va_G) (cI cZ cS cJ : ClassId) (aC : Nat) (X X' : va_W) (fs : List Value) (h0 : X[0]? = some (aC, .inr (5, fs))) (x2 x3 x4 : Int32) (k : Nat) (r : Int32) (hM : vx_Met l yX5_undo wsX5_undo rm5_undo (xP D (gT cI cZ cS cJ) X [.ref aC]) (xQ D k (some (.int r)) (uA X) X') (xX D k (uA X) X') 1 6 (uA X)) : Met l yL_call wsL_call rmL_call (wP D (gT cI cZ cS cJ) X [.ref aC, .int (8 : Int32), .int x2, .int x3, .int x4]) (uQ D (some (.int (cv k r))) (uA X) X') 3 18 (uA X) := by
  refine va_MetW (cc := cL_call) (maxL := 6) (ret := (some .int)) (hh := hhL_call) (by decide) rfl ?_
  intro p e s m args below meth c s₁ B hml hv
  obtain ⟨⟨ha, hK, hP, hD0, hX, hZ⟩, hY⟩ := hv
  have hx := B.exec
  have hb := B.bytes
  have hr := B.returns
  have hlocks := B.notSynchronized
  have hcw : (Cond.codeWith yL_call cL_call 6 (some .int) hhL_call).before args s = true := atoms_spec (ws := wsL_call) B.pre _ List.mem_cons_self
  have htab : c.exceptionTable.toList = tableOf hhL_call := vx_table (x := yL_call) B hcw
  have hts : ∀ w ∈ lw_all, w.before args s = true := fun w h => atoms_spec (ws := wsL_call) B.pre w (List.mem_cons_of_mem _ h)
  have hown : s.vm.findClass RL = some m.cls := findClass_of_methodNamed B.named
  have S : CallFix p m c cL_call 6 s args lw_all RL := ⟨hx, hb, hml, hown, hts⟩
  have hD := hD0.own
  have hS : va_S (uA X) s.heap s.heap [] := va_S.rf
  have hl := lv_entry ([.ref aC, .int (8 : Int32), .int x2, .int x3, .int x4] : List Value) (n := 6) (Nat.le_of_ble_eq_true rfl)
  refine W.eq (g2 := F0 m 0 ((lg_sl ([.ref aC, .int (8 : Int32), .int x2, .int x3, .int x4] : List Value) ++ List.replicate (6 - (lg_sl ([.ref aC, .int (8 : Int32), .int x2, .int x3, .int x4] : List Value)).length) Slot.unset).toArray) []) (by rw [ha]; exact lg_entry_eq _ _ _) ?_
  generalize (lg_sl ([.ref aC, .int (8 : Int32), .int x2, .int x3, .int x4] : List Value) ++ List.replicate (6 - (lg_sl ([.ref aC, .int (8 : Int32), .int x2, .int x3, .int x4] : List Value)).length) Slot.unset).toArray = ls at hl ⊢
  have hl : lv_has ls 6 [(0, .ref aC), (1, .int (8 : Int32)), (2, .int x2), (3, .int x3), (4, .int x4)] := hl
  refine lv_iload_n hx hb dL_call_0 rfl (lv_at hl 1 rfl) ?_
  refine lv_if_ne (tgt := 13) hx hb dL_call_1 (by decide) (fun _ => ?_) (fun h => absurd h (by decide))
  refine lv_iload_n hx hb dL_call_13 rfl (lv_at hl 1 rfl) ?_
  refine lv_iconst (v := 1) hx hb dL_call_14 (by decide) ?_
  refine lv_icmp_ne (tgt := 26) hx hb dL_call_15 (by decide) (fun _ => ?_) (fun h => absurd h (by decide))
  refine lv_iload_n hx hb dL_call_26 rfl (lv_at hl 1 rfl) ?_
  refine lv_iconst (v := 2) hx hb dL_call_27 (by decide) ?_
  refine lv_icmp_ne (tgt := 40) hx hb dL_call_28 (by decide) (fun _ => ?_) (fun h => absurd h (by decide))
  refine lv_iload_n hx hb dL_call_40 rfl (lv_at hl 1 rfl) ?_
  refine lv_iconst (v := 3) hx hb dL_call_41 (by decide) ?_
  refine lv_icmp_ne (tgt := 54) hx hb dL_call_42 (by decide) (fun _ => ?_) (fun h => absurd h (by decide))
  refine lv_iload_n hx hb dL_call_54 rfl (lv_at hl 1 rfl) ?_
  refine lv_iconst (v := 4) hx hb dL_call_55 (by decide) ?_
  refine lv_icmp_ne (tgt := 68) hx hb dL_call_56 (by decide) (fun _ => ?_) (fun h => absurd h (by decide))
  refine lv_iload_n hx hb dL_call_68 rfl (lv_at hl 1 rfl) ?_
  refine lv_iconst (v := 5) hx hb dL_call_69 (by decide) ?_
  refine lv_icmp_ne (tgt := 82) hx hb dL_call_70 (by decide) (fun _ => ?_) (fun h => absurd h (by decide))
  refine lv_iload_n hx hb dL_call_82 rfl (lv_at hl 1 rfl) ?_
  refine lv_bipush (v := 6) hx hb dL_call_83 (by decide) ?_
  refine lv_icmp_ne (tgt := 96) hx hb dL_call_85 (by decide) (fun _ => ?_) (fun h => absurd h (by decide))
  refine lv_iload_n hx hb dL_call_96 rfl (lv_at hl 1 rfl) ?_
  refine lv_bipush (v := 7) hx hb dL_call_97 (by decide) ?_
  refine lv_icmp_ne (tgt := 109) hx hb dL_call_99 (by decide) (fun _ => ?_) (fun h => absurd h (by decide))
  refine lv_iload_n hx hb dL_call_109 rfl (lv_at hl 1 rfl) ?_
  refine lv_bipush (v := 8) hx hb dL_call_110 (by decide) ?_
  refine lv_icmp_ne (tgt := 122) hx hb dL_call_112 (by decide) (fun h => absurd rfl h) (fun _ => ?_)
  refine lv_aload_n hx hb dL_call_115 rfl (lv_at hl 0 rfl) ?_
  refine xcallW (vx_runV (As := []) (rest := []) S hM (cwV 0 hts (gd_V wd_375 wd_376 wd_377 wd_22 wd_378) rfl rfl rfl hd5_undo ⟨Nat.le_of_ble_eq_true rfl, Nat.le_of_ble_eq_true rfl⟩) (xPreV2 hK hX hZ hS hP hD (ci := 5) (q := (RX5, TX5, 3)) h0 rfl) rfl rfl hl.1 rfl (lv_room (Nat.le_of_ble_eq_true rfl)) dL_call_116 ⟨Nat.le_of_ble_eq_true rfl, Nat.le_of_ble_eq_true rfl⟩) hS hD (fun ce q9 H locs hk0 hP hS hce hcv hcl => ?_) (fun H locs hk0 hP hS => ?_)
  · by_cases h1 : k = 1
    · subst h1
      rw [cv_1]
      refine vx_catch (own := RL) (name := exn 1) (E := exn 1) hown [] ⟨0, 315, 316, 82⟩ [⟨0, 315, 321, 84⟩, ⟨0, 315, 326, 86⟩] (by rw [htab]; rfl) (fun z hz => absurd hz List.not_mem_nil) (by decide) (by decide) (hts _ wd_451) (cast_exn hX (by decide)) hce hcv hcl ?_
      refine lv_astore (lv' := [(5, .ref q9), (0, .ref aC), (1, .int (8 : Int32)), (2, .int x2), (3, .int x3), (4, .int x4)]) hx hb dL_call_316 hl (by decide) rfl (fun ls hl => ?_)
      refine lv_bipush (v := -11) hx hb dL_call_318 (by decide) ?_
      exact vreti (Nat.le_of_ble_eq_true rfl) (Nat.le_of_ble_eq_true rfl) hx hb hr hlocks hP hS dL_call_320
    by_cases h2 : k = 2
    · subst h2
      rw [cv_2]
      refine vx_catch (own := RL) (name := exn 2) (E := exn 2) hown [⟨0, 315, 316, 82⟩] ⟨0, 315, 321, 84⟩ [⟨0, 315, 326, 86⟩] (by rw [htab]; rfl) (fun z hz => by simp only [List.mem_cons, List.not_mem_nil, or_false] at hz; subst hz; exact Or.inr ⟨by decide, exn 1, (hts _ wd_451), hY 2 1 (by decide) (by decide) (by decide)⟩) (by decide) (by decide) (hts _ wd_452) (cast_exn hX (by decide)) hce hcv hcl ?_
      refine lv_astore (lv' := [(5, .ref q9), (0, .ref aC), (1, .int (8 : Int32)), (2, .int x2), (3, .int x3), (4, .int x4)]) hx hb dL_call_321 hl (by decide) rfl (fun ls hl => ?_)
      refine lv_bipush (v := -12) hx hb dL_call_323 (by decide) ?_
      exact vreti (Nat.le_of_ble_eq_true rfl) (Nat.le_of_ble_eq_true rfl) hx hb hr hlocks hP hS dL_call_325
    rw [cv_3 _ hk0 h1 h2]
    rw [exn_3 h1 h2] at hcl
    refine vx_catch (own := RL) (name := exn 3) (E := exn 3) hown [⟨0, 315, 316, 82⟩, ⟨0, 315, 321, 84⟩] ⟨0, 315, 326, 86⟩ [] (by rw [htab]; rfl) (fun z hz => by simp only [List.mem_cons, List.not_mem_nil, or_false] at hz; rcases hz with rfl | rfl; (exact Or.inr ⟨by decide, exn 1, (hts _ wd_451), hY 3 1 (by decide) (by decide) (by decide)⟩); (exact Or.inr ⟨by decide, exn 2, (hts _ wd_452), hY 3 2 (by decide) (by decide) (by decide)⟩)) (by decide) (by decide) (hts _ wd_453) (cast_exn hX (by decide)) hce hcv hcl ?_
    refine lv_astore (lv' := [(5, .ref q9), (0, .ref aC), (1, .int (8 : Int32)), (2, .int x2), (3, .int x3), (4, .int x4)]) hx hb dL_call_326 hl (by decide) rfl (fun ls hl => ?_)
    refine lv_bipush (v := -13) hx hb dL_call_328 (by decide) ?_
    exact vreti (Nat.le_of_ble_eq_true rfl) (Nat.le_of_ble_eq_true rfl) hx hb hr hlocks hP hS dL_call_330
  · subst hk0
    rw [cv_0]
    refine lv_goto (tgt := 315) hx hb dL_call_119 (by decide) ?_
    exact vreti (Nat.le_of_ble_eq_true rfl) (Nat.le_of_ble_eq_true rfl) hx hb hr hlocks hP hS dL_call_315
def FC_undo (st : ST) (x2 x3 x4 : Int32) : Option (Int32 × ST) := bd3 (F_undo st) (fun k r st' => some (cv k r, st'))
theorem KT_undo (l : Launch) (hfl : l.stackTraces = false) (D : va_G) (cI cZ cS cJ : ClassId) (a : AD) (st : ST) (x2 x3 x4 : Int32) (r : Int32) (st' : ST) (hF : FC_undo st x2 x3 x4 = some (r, st')) : Met l yL_call wsL_call rmL_call (wP D (gT cI cZ cS cJ) (WS cI cZ cS a st) [.ref a.1, .int (8 : Int32), .int x2, .int x3, .int x4]) (uQ D (some (.int r)) (uA (WS cI cZ cS a st)) (WS cI cZ cS a st')) 3 18 (uA (WS cI cZ cS a st)) := by
  obtain ⟨k, r0, s1, h, e⟩ := bd3_at hF
  cases e
  exact KC_undo l D cI cZ cS cJ a.1 _ _ _ (WS_0 cI cZ cS a st) x2 x3 x4 k r0 (KS_undo l hfl D cI cZ cS cJ a st k r0 _ h)
set_option maxHeartbeats 1000000 in
set_option maxRecDepth 20000 in
theorem KC_keep (l : Launch) (D : va_G) (cI cZ cS cJ : ClassId) (aC : Nat) (X X' : va_W) (fs : List Value) (h0 : X[0]? = some (aC, .inr (5, fs))) (x2 x3 x4 : Int32) (k : Nat) (r : Int32) (hM : vx_Met l yX5_keep wsX5_keep rm5_keep (xP D (gT cI cZ cS cJ) X [.ref aC, .int x2]) (xQ D k (some (.int r)) (uA X) X') (xX D k (uA X) X') 1 6 (uA X)) : Met l yL_call wsL_call rmL_call (wP D (gT cI cZ cS cJ) X [.ref aC, .int (9 : Int32), .int x2, .int x3, .int x4]) (uQ D (some (.int (cv k r))) (uA X) X') 3 18 (uA X) := by
  refine va_MetW (cc := cL_call) (maxL := 6) (ret := (some .int)) (hh := hhL_call) (by decide) rfl ?_
  intro p e s m args below meth c s₁ B hml hv
  obtain ⟨⟨ha, hK, hP, hD0, hX, hZ⟩, hY⟩ := hv
  have hx := B.exec
  have hb := B.bytes
  have hr := B.returns
  have hlocks := B.notSynchronized
  have hcw : (Cond.codeWith yL_call cL_call 6 (some .int) hhL_call).before args s = true := atoms_spec (ws := wsL_call) B.pre _ List.mem_cons_self
  have htab : c.exceptionTable.toList = tableOf hhL_call := vx_table (x := yL_call) B hcw
  have hts : ∀ w ∈ lw_all, w.before args s = true := fun w h => atoms_spec (ws := wsL_call) B.pre w (List.mem_cons_of_mem _ h)
  have hown : s.vm.findClass RL = some m.cls := findClass_of_methodNamed B.named
  have S : CallFix p m c cL_call 6 s args lw_all RL := ⟨hx, hb, hml, hown, hts⟩
  have hD := hD0.own
  have hS : va_S (uA X) s.heap s.heap [] := va_S.rf
  have hl := lv_entry ([.ref aC, .int (9 : Int32), .int x2, .int x3, .int x4] : List Value) (n := 6) (Nat.le_of_ble_eq_true rfl)
  refine W.eq (g2 := F0 m 0 ((lg_sl ([.ref aC, .int (9 : Int32), .int x2, .int x3, .int x4] : List Value) ++ List.replicate (6 - (lg_sl ([.ref aC, .int (9 : Int32), .int x2, .int x3, .int x4] : List Value)).length) Slot.unset).toArray) []) (by rw [ha]; exact lg_entry_eq _ _ _) ?_
  generalize (lg_sl ([.ref aC, .int (9 : Int32), .int x2, .int x3, .int x4] : List Value) ++ List.replicate (6 - (lg_sl ([.ref aC, .int (9 : Int32), .int x2, .int x3, .int x4] : List Value)).length) Slot.unset).toArray = ls at hl ⊢
  have hl : lv_has ls 6 [(0, .ref aC), (1, .int (9 : Int32)), (2, .int x2), (3, .int x3), (4, .int x4)] := hl
  refine lv_iload_n hx hb dL_call_0 rfl (lv_at hl 1 rfl) ?_
  refine lv_if_ne (tgt := 13) hx hb dL_call_1 (by decide) (fun _ => ?_) (fun h => absurd h (by decide))
  refine lv_iload_n hx hb dL_call_13 rfl (lv_at hl 1 rfl) ?_
  refine lv_iconst (v := 1) hx hb dL_call_14 (by decide) ?_
  refine lv_icmp_ne (tgt := 26) hx hb dL_call_15 (by decide) (fun _ => ?_) (fun h => absurd h (by decide))
  refine lv_iload_n hx hb dL_call_26 rfl (lv_at hl 1 rfl) ?_
  refine lv_iconst (v := 2) hx hb dL_call_27 (by decide) ?_
  refine lv_icmp_ne (tgt := 40) hx hb dL_call_28 (by decide) (fun _ => ?_) (fun h => absurd h (by decide))
  refine lv_iload_n hx hb dL_call_40 rfl (lv_at hl 1 rfl) ?_
  refine lv_iconst (v := 3) hx hb dL_call_41 (by decide) ?_
  refine lv_icmp_ne (tgt := 54) hx hb dL_call_42 (by decide) (fun _ => ?_) (fun h => absurd h (by decide))
  refine lv_iload_n hx hb dL_call_54 rfl (lv_at hl 1 rfl) ?_
  refine lv_iconst (v := 4) hx hb dL_call_55 (by decide) ?_
  refine lv_icmp_ne (tgt := 68) hx hb dL_call_56 (by decide) (fun _ => ?_) (fun h => absurd h (by decide))
  refine lv_iload_n hx hb dL_call_68 rfl (lv_at hl 1 rfl) ?_
  refine lv_iconst (v := 5) hx hb dL_call_69 (by decide) ?_
  refine lv_icmp_ne (tgt := 82) hx hb dL_call_70 (by decide) (fun _ => ?_) (fun h => absurd h (by decide))
  refine lv_iload_n hx hb dL_call_82 rfl (lv_at hl 1 rfl) ?_
  refine lv_bipush (v := 6) hx hb dL_call_83 (by decide) ?_
  refine lv_icmp_ne (tgt := 96) hx hb dL_call_85 (by decide) (fun _ => ?_) (fun h => absurd h (by decide))
  refine lv_iload_n hx hb dL_call_96 rfl (lv_at hl 1 rfl) ?_
  refine lv_bipush (v := 7) hx hb dL_call_97 (by decide) ?_
  refine lv_icmp_ne (tgt := 109) hx hb dL_call_99 (by decide) (fun _ => ?_) (fun h => absurd h (by decide))
  refine lv_iload_n hx hb dL_call_109 rfl (lv_at hl 1 rfl) ?_
  refine lv_bipush (v := 8) hx hb dL_call_110 (by decide) ?_
  refine lv_icmp_ne (tgt := 122) hx hb dL_call_112 (by decide) (fun _ => ?_) (fun h => absurd h (by decide))
  refine lv_iload_n hx hb dL_call_122 rfl (lv_at hl 1 rfl) ?_
  refine lv_bipush (v := 9) hx hb dL_call_123 (by decide) ?_
  refine lv_icmp_ne (tgt := 136) hx hb dL_call_125 (by decide) (fun h => absurd rfl h) (fun _ => ?_)
  refine lv_aload_n hx hb dL_call_128 rfl (lv_at hl 0 rfl) ?_
  refine lv_iload_n hx hb dL_call_129 rfl (lv_at hl 2 rfl) ?_
  refine xcallW (vx_runV (As := [.int x2]) (rest := []) S hM (cwV 1 hts (gd_V wd_384 wd_385 wd_386 wd_22 wd_387) rfl rfl rfl hd5_keep ⟨Nat.le_of_ble_eq_true rfl, Nat.le_of_ble_eq_true rfl⟩) (xPreV2 hK hX hZ hS hP hD (ci := 5) (q := (RX5, TX5, 3)) h0 rfl) rfl rfl hl.1 rfl (lv_room (Nat.le_of_ble_eq_true rfl)) dL_call_130 ⟨Nat.le_of_ble_eq_true rfl, Nat.le_of_ble_eq_true rfl⟩) hS hD (fun ce q9 H locs hk0 hP hS hce hcv hcl => ?_) (fun H locs hk0 hP hS => ?_)
  · by_cases h1 : k = 1
    · subst h1
      rw [cv_1]
      refine vx_catch (own := RL) (name := exn 1) (E := exn 1) hown [] ⟨0, 315, 316, 82⟩ [⟨0, 315, 321, 84⟩, ⟨0, 315, 326, 86⟩] (by rw [htab]; rfl) (fun z hz => absurd hz List.not_mem_nil) (by decide) (by decide) (hts _ wd_451) (cast_exn hX (by decide)) hce hcv hcl ?_
      refine lv_astore (lv' := [(5, .ref q9), (0, .ref aC), (1, .int (9 : Int32)), (2, .int x2), (3, .int x3), (4, .int x4)]) hx hb dL_call_316 hl (by decide) rfl (fun ls hl => ?_)
      refine lv_bipush (v := -11) hx hb dL_call_318 (by decide) ?_
      exact vreti (Nat.le_of_ble_eq_true rfl) (Nat.le_of_ble_eq_true rfl) hx hb hr hlocks hP hS dL_call_320
    by_cases h2 : k = 2
    · subst h2
      rw [cv_2]
      refine vx_catch (own := RL) (name := exn 2) (E := exn 2) hown [⟨0, 315, 316, 82⟩] ⟨0, 315, 321, 84⟩ [⟨0, 315, 326, 86⟩] (by rw [htab]; rfl) (fun z hz => by simp only [List.mem_cons, List.not_mem_nil, or_false] at hz; subst hz; exact Or.inr ⟨by decide, exn 1, (hts _ wd_451), hY 2 1 (by decide) (by decide) (by decide)⟩) (by decide) (by decide) (hts _ wd_452) (cast_exn hX (by decide)) hce hcv hcl ?_
      refine lv_astore (lv' := [(5, .ref q9), (0, .ref aC), (1, .int (9 : Int32)), (2, .int x2), (3, .int x3), (4, .int x4)]) hx hb dL_call_321 hl (by decide) rfl (fun ls hl => ?_)
      refine lv_bipush (v := -12) hx hb dL_call_323 (by decide) ?_
      exact vreti (Nat.le_of_ble_eq_true rfl) (Nat.le_of_ble_eq_true rfl) hx hb hr hlocks hP hS dL_call_325
    rw [cv_3 _ hk0 h1 h2]
    rw [exn_3 h1 h2] at hcl
    refine vx_catch (own := RL) (name := exn 3) (E := exn 3) hown [⟨0, 315, 316, 82⟩, ⟨0, 315, 321, 84⟩] ⟨0, 315, 326, 86⟩ [] (by rw [htab]; rfl) (fun z hz => by simp only [List.mem_cons, List.not_mem_nil, or_false] at hz; rcases hz with rfl | rfl; (exact Or.inr ⟨by decide, exn 1, (hts _ wd_451), hY 3 1 (by decide) (by decide) (by decide)⟩); (exact Or.inr ⟨by decide, exn 2, (hts _ wd_452), hY 3 2 (by decide) (by decide) (by decide)⟩)) (by decide) (by decide) (hts _ wd_453) (cast_exn hX (by decide)) hce hcv hcl ?_
    refine lv_astore (lv' := [(5, .ref q9), (0, .ref aC), (1, .int (9 : Int32)), (2, .int x2), (3, .int x3), (4, .int x4)]) hx hb dL_call_326 hl (by decide) rfl (fun ls hl => ?_)
    refine lv_bipush (v := -13) hx hb dL_call_328 (by decide) ?_
    exact vreti (Nat.le_of_ble_eq_true rfl) (Nat.le_of_ble_eq_true rfl) hx hb hr hlocks hP hS dL_call_330
  · subst hk0
    rw [cv_0]
    refine lv_goto (tgt := 315) hx hb dL_call_133 (by decide) ?_
    exact vreti (Nat.le_of_ble_eq_true rfl) (Nat.le_of_ble_eq_true rfl) hx hb hr hlocks hP hS dL_call_315
def FC_keep (st : ST) (x2 x3 x4 : Int32) : Option (Int32 × ST) := bd3 (F_keep st x2) (fun k r st' => some (cv k r, st'))
theorem KT_keep (l : Launch) (hfl : l.stackTraces = false) (D : va_G) (cI cZ cS cJ : ClassId) (a : AD) (st : ST) (x2 x3 x4 : Int32) (r : Int32) (st' : ST) (hF : FC_keep st x2 x3 x4 = some (r, st')) : Met l yL_call wsL_call rmL_call (wP D (gT cI cZ cS cJ) (WS cI cZ cS a st) [.ref a.1, .int (9 : Int32), .int x2, .int x3, .int x4]) (uQ D (some (.int r)) (uA (WS cI cZ cS a st)) (WS cI cZ cS a st')) 3 18 (uA (WS cI cZ cS a st)) := by
  obtain ⟨k, r0, s1, h, e⟩ := bd3_at hF
  cases e
  exact KC_keep l D cI cZ cS cJ a.1 _ _ _ (WS_0 cI cZ cS a st) x2 x3 x4 k r0 (KS_keep l hfl D cI cZ cS cJ a st x2 k r0 _ h)
set_option maxHeartbeats 1000000 in
set_option maxRecDepth 20000 in
theorem KC_goBack (l : Launch) (D : va_G) (cI cZ cS cJ : ClassId) (aC : Nat) (X X' : va_W) (fs : List Value) (h0 : X[0]? = some (aC, .inr (5, fs))) (x2 x3 x4 : Int32) (k : Nat) (r : Int32) (hM : vx_Met l yX5_goBack wsX5_goBack rm5_goBack (xP D (gT cI cZ cS cJ) X [.ref aC, .int x2]) (xQ D k (some (.int r)) (uA X) X') (xX D k (uA X) X') 2 12 (uA X)) : Met l yL_call wsL_call rmL_call (wP D (gT cI cZ cS cJ) X [.ref aC, .int (10 : Int32), .int x2, .int x3, .int x4]) (uQ D (some (.int (cv k r))) (uA X) X') 3 18 (uA X) := by
  refine va_MetW (cc := cL_call) (maxL := 6) (ret := (some .int)) (hh := hhL_call) (by decide) rfl ?_
  intro p e s m args below meth c s₁ B hml hv
  obtain ⟨⟨ha, hK, hP, hD0, hX, hZ⟩, hY⟩ := hv
  have hx := B.exec
  have hb := B.bytes
  have hr := B.returns
  have hlocks := B.notSynchronized
  have hcw : (Cond.codeWith yL_call cL_call 6 (some .int) hhL_call).before args s = true := atoms_spec (ws := wsL_call) B.pre _ List.mem_cons_self
  have htab : c.exceptionTable.toList = tableOf hhL_call := vx_table (x := yL_call) B hcw
  have hts : ∀ w ∈ lw_all, w.before args s = true := fun w h => atoms_spec (ws := wsL_call) B.pre w (List.mem_cons_of_mem _ h)
  have hown : s.vm.findClass RL = some m.cls := findClass_of_methodNamed B.named
  have S : CallFix p m c cL_call 6 s args lw_all RL := ⟨hx, hb, hml, hown, hts⟩
  have hD := hD0.own
  have hS : va_S (uA X) s.heap s.heap [] := va_S.rf
  have hl := lv_entry ([.ref aC, .int (10 : Int32), .int x2, .int x3, .int x4] : List Value) (n := 6) (Nat.le_of_ble_eq_true rfl)
  refine W.eq (g2 := F0 m 0 ((lg_sl ([.ref aC, .int (10 : Int32), .int x2, .int x3, .int x4] : List Value) ++ List.replicate (6 - (lg_sl ([.ref aC, .int (10 : Int32), .int x2, .int x3, .int x4] : List Value)).length) Slot.unset).toArray) []) (by rw [ha]; exact lg_entry_eq _ _ _) ?_
  generalize (lg_sl ([.ref aC, .int (10 : Int32), .int x2, .int x3, .int x4] : List Value) ++ List.replicate (6 - (lg_sl ([.ref aC, .int (10 : Int32), .int x2, .int x3, .int x4] : List Value)).length) Slot.unset).toArray = ls at hl ⊢
  have hl : lv_has ls 6 [(0, .ref aC), (1, .int (10 : Int32)), (2, .int x2), (3, .int x3), (4, .int x4)] := hl
  refine lv_iload_n hx hb dL_call_0 rfl (lv_at hl 1 rfl) ?_
  refine lv_if_ne (tgt := 13) hx hb dL_call_1 (by decide) (fun _ => ?_) (fun h => absurd h (by decide))
  refine lv_iload_n hx hb dL_call_13 rfl (lv_at hl 1 rfl) ?_
  refine lv_iconst (v := 1) hx hb dL_call_14 (by decide) ?_
  refine lv_icmp_ne (tgt := 26) hx hb dL_call_15 (by decide) (fun _ => ?_) (fun h => absurd h (by decide))
  refine lv_iload_n hx hb dL_call_26 rfl (lv_at hl 1 rfl) ?_
  refine lv_iconst (v := 2) hx hb dL_call_27 (by decide) ?_
  refine lv_icmp_ne (tgt := 40) hx hb dL_call_28 (by decide) (fun _ => ?_) (fun h => absurd h (by decide))
  refine lv_iload_n hx hb dL_call_40 rfl (lv_at hl 1 rfl) ?_
  refine lv_iconst (v := 3) hx hb dL_call_41 (by decide) ?_
  refine lv_icmp_ne (tgt := 54) hx hb dL_call_42 (by decide) (fun _ => ?_) (fun h => absurd h (by decide))
  refine lv_iload_n hx hb dL_call_54 rfl (lv_at hl 1 rfl) ?_
  refine lv_iconst (v := 4) hx hb dL_call_55 (by decide) ?_
  refine lv_icmp_ne (tgt := 68) hx hb dL_call_56 (by decide) (fun _ => ?_) (fun h => absurd h (by decide))
  refine lv_iload_n hx hb dL_call_68 rfl (lv_at hl 1 rfl) ?_
  refine lv_iconst (v := 5) hx hb dL_call_69 (by decide) ?_
  refine lv_icmp_ne (tgt := 82) hx hb dL_call_70 (by decide) (fun _ => ?_) (fun h => absurd h (by decide))
  refine lv_iload_n hx hb dL_call_82 rfl (lv_at hl 1 rfl) ?_
  refine lv_bipush (v := 6) hx hb dL_call_83 (by decide) ?_
  refine lv_icmp_ne (tgt := 96) hx hb dL_call_85 (by decide) (fun _ => ?_) (fun h => absurd h (by decide))
  refine lv_iload_n hx hb dL_call_96 rfl (lv_at hl 1 rfl) ?_
  refine lv_bipush (v := 7) hx hb dL_call_97 (by decide) ?_
  refine lv_icmp_ne (tgt := 109) hx hb dL_call_99 (by decide) (fun _ => ?_) (fun h => absurd h (by decide))
  refine lv_iload_n hx hb dL_call_109 rfl (lv_at hl 1 rfl) ?_
  refine lv_bipush (v := 8) hx hb dL_call_110 (by decide) ?_
  refine lv_icmp_ne (tgt := 122) hx hb dL_call_112 (by decide) (fun _ => ?_) (fun h => absurd h (by decide))
  refine lv_iload_n hx hb dL_call_122 rfl (lv_at hl 1 rfl) ?_
  refine lv_bipush (v := 9) hx hb dL_call_123 (by decide) ?_
  refine lv_icmp_ne (tgt := 136) hx hb dL_call_125 (by decide) (fun _ => ?_) (fun h => absurd h (by decide))
  refine lv_iload_n hx hb dL_call_136 rfl (lv_at hl 1 rfl) ?_
  refine lv_bipush (v := 10) hx hb dL_call_137 (by decide) ?_
  refine lv_icmp_ne (tgt := 150) hx hb dL_call_139 (by decide) (fun h => absurd rfl h) (fun _ => ?_)
  refine lv_aload_n hx hb dL_call_142 rfl (lv_at hl 0 rfl) ?_
  refine lv_iload_n hx hb dL_call_143 rfl (lv_at hl 2 rfl) ?_
  refine xcallW (vx_runV (As := [.int x2]) (rest := []) S hM (cwV 1 hts (gd_V wd_396 wd_397 wd_398 wd_22 wd_399) rfl rfl rfl hd5_goBack ⟨Nat.le_of_ble_eq_true rfl, Nat.le_of_ble_eq_true rfl⟩) (xPreV2 hK hX hZ hS hP hD (ci := 5) (q := (RX5, TX5, 3)) h0 rfl) rfl rfl hl.1 rfl (lv_room (Nat.le_of_ble_eq_true rfl)) dL_call_144 ⟨Nat.le_of_ble_eq_true rfl, Nat.le_of_ble_eq_true rfl⟩) hS hD (fun ce q9 H locs hk0 hP hS hce hcv hcl => ?_) (fun H locs hk0 hP hS => ?_)
  · by_cases h1 : k = 1
    · subst h1
      rw [cv_1]
      refine vx_catch (own := RL) (name := exn 1) (E := exn 1) hown [] ⟨0, 315, 316, 82⟩ [⟨0, 315, 321, 84⟩, ⟨0, 315, 326, 86⟩] (by rw [htab]; rfl) (fun z hz => absurd hz List.not_mem_nil) (by decide) (by decide) (hts _ wd_451) (cast_exn hX (by decide)) hce hcv hcl ?_
      refine lv_astore (lv' := [(5, .ref q9), (0, .ref aC), (1, .int (10 : Int32)), (2, .int x2), (3, .int x3), (4, .int x4)]) hx hb dL_call_316 hl (by decide) rfl (fun ls hl => ?_)
      refine lv_bipush (v := -11) hx hb dL_call_318 (by decide) ?_
      exact vreti (Nat.le_of_ble_eq_true rfl) (Nat.le_of_ble_eq_true rfl) hx hb hr hlocks hP hS dL_call_320
    by_cases h2 : k = 2
    · subst h2
      rw [cv_2]
      refine vx_catch (own := RL) (name := exn 2) (E := exn 2) hown [⟨0, 315, 316, 82⟩] ⟨0, 315, 321, 84⟩ [⟨0, 315, 326, 86⟩] (by rw [htab]; rfl) (fun z hz => by simp only [List.mem_cons, List.not_mem_nil, or_false] at hz; subst hz; exact Or.inr ⟨by decide, exn 1, (hts _ wd_451), hY 2 1 (by decide) (by decide) (by decide)⟩) (by decide) (by decide) (hts _ wd_452) (cast_exn hX (by decide)) hce hcv hcl ?_
      refine lv_astore (lv' := [(5, .ref q9), (0, .ref aC), (1, .int (10 : Int32)), (2, .int x2), (3, .int x3), (4, .int x4)]) hx hb dL_call_321 hl (by decide) rfl (fun ls hl => ?_)
      refine lv_bipush (v := -12) hx hb dL_call_323 (by decide) ?_
      exact vreti (Nat.le_of_ble_eq_true rfl) (Nat.le_of_ble_eq_true rfl) hx hb hr hlocks hP hS dL_call_325
    rw [cv_3 _ hk0 h1 h2]
    rw [exn_3 h1 h2] at hcl
    refine vx_catch (own := RL) (name := exn 3) (E := exn 3) hown [⟨0, 315, 316, 82⟩, ⟨0, 315, 321, 84⟩] ⟨0, 315, 326, 86⟩ [] (by rw [htab]; rfl) (fun z hz => by simp only [List.mem_cons, List.not_mem_nil, or_false] at hz; rcases hz with rfl | rfl; (exact Or.inr ⟨by decide, exn 1, (hts _ wd_451), hY 3 1 (by decide) (by decide) (by decide)⟩); (exact Or.inr ⟨by decide, exn 2, (hts _ wd_452), hY 3 2 (by decide) (by decide) (by decide)⟩)) (by decide) (by decide) (hts _ wd_453) (cast_exn hX (by decide)) hce hcv hcl ?_
    refine lv_astore (lv' := [(5, .ref q9), (0, .ref aC), (1, .int (10 : Int32)), (2, .int x2), (3, .int x3), (4, .int x4)]) hx hb dL_call_326 hl (by decide) rfl (fun ls hl => ?_)
    refine lv_bipush (v := -13) hx hb dL_call_328 (by decide) ?_
    exact vreti (Nat.le_of_ble_eq_true rfl) (Nat.le_of_ble_eq_true rfl) hx hb hr hlocks hP hS dL_call_330
  · subst hk0
    rw [cv_0]
    refine lv_goto (tgt := 315) hx hb dL_call_147 (by decide) ?_
    exact vreti (Nat.le_of_ble_eq_true rfl) (Nat.le_of_ble_eq_true rfl) hx hb hr hlocks hP hS dL_call_315
def FC_goBack (st : ST) (x2 x3 x4 : Int32) : Option (Int32 × ST) := bd3 (F_goBack st x2) (fun k r st' => some (cv k r, st'))
theorem KT_goBack (l : Launch) (hfl : l.stackTraces = false) (D : va_G) (cI cZ cS cJ : ClassId) (a : AD) (st : ST) (x2 x3 x4 : Int32) (r : Int32) (st' : ST) (hF : FC_goBack st x2 x3 x4 = some (r, st')) : Met l yL_call wsL_call rmL_call (wP D (gT cI cZ cS cJ) (WS cI cZ cS a st) [.ref a.1, .int (10 : Int32), .int x2, .int x3, .int x4]) (uQ D (some (.int r)) (uA (WS cI cZ cS a st)) (WS cI cZ cS a st')) 3 18 (uA (WS cI cZ cS a st)) := by
  obtain ⟨k, r0, s1, h, e⟩ := bd3_at hF
  cases e
  exact KC_goBack l D cI cZ cS cJ a.1 _ _ _ (WS_0 cI cZ cS a st) x2 x3 x4 k r0 (KS_goBack l hfl D cI cZ cS cJ a st x2 k r0 _ h)
set_option maxHeartbeats 1000000 in
set_option maxRecDepth 20000 in
theorem KC_letter (l : Launch) (D : va_G) (cI cZ cS cJ : ClassId) (aC : Nat) (X X' : va_W) (fs : List Value) (h0 : X[0]? = some (aC, .inr (5, fs))) (x2 x3 x4 : Int32) (k : Nat) (r : Int32) (hM : vx_Met l yX5_letter wsX5_letter rm5_letter (xP D (gT cI cZ cS cJ) X [.ref aC, .int x2]) (xQ D k (some (.int r)) (uA X) X') (xX D k (uA X) X') 1 6 (uA X)) : Met l yL_call wsL_call rmL_call (wP D (gT cI cZ cS cJ) X [.ref aC, .int (11 : Int32), .int x2, .int x3, .int x4]) (uQ D (some (.int (cv k r))) (uA X) X') 3 18 (uA X) := by
  refine va_MetW (cc := cL_call) (maxL := 6) (ret := (some .int)) (hh := hhL_call) (by decide) rfl ?_
  intro p e s m args below meth c s₁ B hml hv
  obtain ⟨⟨ha, hK, hP, hD0, hX, hZ⟩, hY⟩ := hv
  have hx := B.exec
  have hb := B.bytes
  have hr := B.returns
  have hlocks := B.notSynchronized
  have hcw : (Cond.codeWith yL_call cL_call 6 (some .int) hhL_call).before args s = true := atoms_spec (ws := wsL_call) B.pre _ List.mem_cons_self
  have htab : c.exceptionTable.toList = tableOf hhL_call := vx_table (x := yL_call) B hcw
  have hts : ∀ w ∈ lw_all, w.before args s = true := fun w h => atoms_spec (ws := wsL_call) B.pre w (List.mem_cons_of_mem _ h)
  have hown : s.vm.findClass RL = some m.cls := findClass_of_methodNamed B.named
  have S : CallFix p m c cL_call 6 s args lw_all RL := ⟨hx, hb, hml, hown, hts⟩
  have hD := hD0.own
  have hS : va_S (uA X) s.heap s.heap [] := va_S.rf
  have hl := lv_entry ([.ref aC, .int (11 : Int32), .int x2, .int x3, .int x4] : List Value) (n := 6) (Nat.le_of_ble_eq_true rfl)
  refine W.eq (g2 := F0 m 0 ((lg_sl ([.ref aC, .int (11 : Int32), .int x2, .int x3, .int x4] : List Value) ++ List.replicate (6 - (lg_sl ([.ref aC, .int (11 : Int32), .int x2, .int x3, .int x4] : List Value)).length) Slot.unset).toArray) []) (by rw [ha]; exact lg_entry_eq _ _ _) ?_
  generalize (lg_sl ([.ref aC, .int (11 : Int32), .int x2, .int x3, .int x4] : List Value) ++ List.replicate (6 - (lg_sl ([.ref aC, .int (11 : Int32), .int x2, .int x3, .int x4] : List Value)).length) Slot.unset).toArray = ls at hl ⊢
  have hl : lv_has ls 6 [(0, .ref aC), (1, .int (11 : Int32)), (2, .int x2), (3, .int x3), (4, .int x4)] := hl
  refine lv_iload_n hx hb dL_call_0 rfl (lv_at hl 1 rfl) ?_
  refine lv_if_ne (tgt := 13) hx hb dL_call_1 (by decide) (fun _ => ?_) (fun h => absurd h (by decide))
  refine lv_iload_n hx hb dL_call_13 rfl (lv_at hl 1 rfl) ?_
  refine lv_iconst (v := 1) hx hb dL_call_14 (by decide) ?_
  refine lv_icmp_ne (tgt := 26) hx hb dL_call_15 (by decide) (fun _ => ?_) (fun h => absurd h (by decide))
  refine lv_iload_n hx hb dL_call_26 rfl (lv_at hl 1 rfl) ?_
  refine lv_iconst (v := 2) hx hb dL_call_27 (by decide) ?_
  refine lv_icmp_ne (tgt := 40) hx hb dL_call_28 (by decide) (fun _ => ?_) (fun h => absurd h (by decide))
  refine lv_iload_n hx hb dL_call_40 rfl (lv_at hl 1 rfl) ?_
  refine lv_iconst (v := 3) hx hb dL_call_41 (by decide) ?_
  refine lv_icmp_ne (tgt := 54) hx hb dL_call_42 (by decide) (fun _ => ?_) (fun h => absurd h (by decide))
  refine lv_iload_n hx hb dL_call_54 rfl (lv_at hl 1 rfl) ?_
  refine lv_iconst (v := 4) hx hb dL_call_55 (by decide) ?_
  refine lv_icmp_ne (tgt := 68) hx hb dL_call_56 (by decide) (fun _ => ?_) (fun h => absurd h (by decide))
  refine lv_iload_n hx hb dL_call_68 rfl (lv_at hl 1 rfl) ?_
  refine lv_iconst (v := 5) hx hb dL_call_69 (by decide) ?_
  refine lv_icmp_ne (tgt := 82) hx hb dL_call_70 (by decide) (fun _ => ?_) (fun h => absurd h (by decide))
  refine lv_iload_n hx hb dL_call_82 rfl (lv_at hl 1 rfl) ?_
  refine lv_bipush (v := 6) hx hb dL_call_83 (by decide) ?_
  refine lv_icmp_ne (tgt := 96) hx hb dL_call_85 (by decide) (fun _ => ?_) (fun h => absurd h (by decide))
  refine lv_iload_n hx hb dL_call_96 rfl (lv_at hl 1 rfl) ?_
  refine lv_bipush (v := 7) hx hb dL_call_97 (by decide) ?_
  refine lv_icmp_ne (tgt := 109) hx hb dL_call_99 (by decide) (fun _ => ?_) (fun h => absurd h (by decide))
  refine lv_iload_n hx hb dL_call_109 rfl (lv_at hl 1 rfl) ?_
  refine lv_bipush (v := 8) hx hb dL_call_110 (by decide) ?_
  refine lv_icmp_ne (tgt := 122) hx hb dL_call_112 (by decide) (fun _ => ?_) (fun h => absurd h (by decide))
  refine lv_iload_n hx hb dL_call_122 rfl (lv_at hl 1 rfl) ?_
  refine lv_bipush (v := 9) hx hb dL_call_123 (by decide) ?_
  refine lv_icmp_ne (tgt := 136) hx hb dL_call_125 (by decide) (fun _ => ?_) (fun h => absurd h (by decide))
  refine lv_iload_n hx hb dL_call_136 rfl (lv_at hl 1 rfl) ?_
  refine lv_bipush (v := 10) hx hb dL_call_137 (by decide) ?_
  refine lv_icmp_ne (tgt := 150) hx hb dL_call_139 (by decide) (fun _ => ?_) (fun h => absurd h (by decide))
  refine lv_iload_n hx hb dL_call_150 rfl (lv_at hl 1 rfl) ?_
  refine lv_bipush (v := 11) hx hb dL_call_151 (by decide) ?_
  refine lv_icmp_ne (tgt := 164) hx hb dL_call_153 (by decide) (fun h => absurd rfl h) (fun _ => ?_)
  refine lv_aload_n hx hb dL_call_156 rfl (lv_at hl 0 rfl) ?_
  refine lv_iload_n hx hb dL_call_157 rfl (lv_at hl 2 rfl) ?_
  refine xcallW (vx_runV (As := [.int x2]) (rest := []) S hM (cwV 1 hts (gd_V wd_409 wd_410 wd_411 wd_22 wd_412) rfl rfl rfl hd5_letter ⟨Nat.le_of_ble_eq_true rfl, Nat.le_of_ble_eq_true rfl⟩) (xPreV2 hK hX hZ hS hP hD (ci := 5) (q := (RX5, TX5, 3)) h0 rfl) rfl rfl hl.1 rfl (lv_room (Nat.le_of_ble_eq_true rfl)) dL_call_158 ⟨Nat.le_of_ble_eq_true rfl, Nat.le_of_ble_eq_true rfl⟩) hS hD (fun ce q9 H locs hk0 hP hS hce hcv hcl => ?_) (fun H locs hk0 hP hS => ?_)
  · by_cases h1 : k = 1
    · subst h1
      rw [cv_1]
      refine vx_catch (own := RL) (name := exn 1) (E := exn 1) hown [] ⟨0, 315, 316, 82⟩ [⟨0, 315, 321, 84⟩, ⟨0, 315, 326, 86⟩] (by rw [htab]; rfl) (fun z hz => absurd hz List.not_mem_nil) (by decide) (by decide) (hts _ wd_451) (cast_exn hX (by decide)) hce hcv hcl ?_
      refine lv_astore (lv' := [(5, .ref q9), (0, .ref aC), (1, .int (11 : Int32)), (2, .int x2), (3, .int x3), (4, .int x4)]) hx hb dL_call_316 hl (by decide) rfl (fun ls hl => ?_)
      refine lv_bipush (v := -11) hx hb dL_call_318 (by decide) ?_
      exact vreti (Nat.le_of_ble_eq_true rfl) (Nat.le_of_ble_eq_true rfl) hx hb hr hlocks hP hS dL_call_320
    by_cases h2 : k = 2
    · subst h2
      rw [cv_2]
      refine vx_catch (own := RL) (name := exn 2) (E := exn 2) hown [⟨0, 315, 316, 82⟩] ⟨0, 315, 321, 84⟩ [⟨0, 315, 326, 86⟩] (by rw [htab]; rfl) (fun z hz => by simp only [List.mem_cons, List.not_mem_nil, or_false] at hz; subst hz; exact Or.inr ⟨by decide, exn 1, (hts _ wd_451), hY 2 1 (by decide) (by decide) (by decide)⟩) (by decide) (by decide) (hts _ wd_452) (cast_exn hX (by decide)) hce hcv hcl ?_
      refine lv_astore (lv' := [(5, .ref q9), (0, .ref aC), (1, .int (11 : Int32)), (2, .int x2), (3, .int x3), (4, .int x4)]) hx hb dL_call_321 hl (by decide) rfl (fun ls hl => ?_)
      refine lv_bipush (v := -12) hx hb dL_call_323 (by decide) ?_
      exact vreti (Nat.le_of_ble_eq_true rfl) (Nat.le_of_ble_eq_true rfl) hx hb hr hlocks hP hS dL_call_325
    rw [cv_3 _ hk0 h1 h2]
    rw [exn_3 h1 h2] at hcl
    refine vx_catch (own := RL) (name := exn 3) (E := exn 3) hown [⟨0, 315, 316, 82⟩, ⟨0, 315, 321, 84⟩] ⟨0, 315, 326, 86⟩ [] (by rw [htab]; rfl) (fun z hz => by simp only [List.mem_cons, List.not_mem_nil, or_false] at hz; rcases hz with rfl | rfl; (exact Or.inr ⟨by decide, exn 1, (hts _ wd_451), hY 3 1 (by decide) (by decide) (by decide)⟩); (exact Or.inr ⟨by decide, exn 2, (hts _ wd_452), hY 3 2 (by decide) (by decide) (by decide)⟩)) (by decide) (by decide) (hts _ wd_453) (cast_exn hX (by decide)) hce hcv hcl ?_
    refine lv_astore (lv' := [(5, .ref q9), (0, .ref aC), (1, .int (11 : Int32)), (2, .int x2), (3, .int x3), (4, .int x4)]) hx hb dL_call_326 hl (by decide) rfl (fun ls hl => ?_)
    refine lv_bipush (v := -13) hx hb dL_call_328 (by decide) ?_
    exact vreti (Nat.le_of_ble_eq_true rfl) (Nat.le_of_ble_eq_true rfl) hx hb hr hlocks hP hS dL_call_330
  · subst hk0
    rw [cv_0]
    refine lv_goto (tgt := 315) hx hb dL_call_161 (by decide) ?_
    exact vreti (Nat.le_of_ble_eq_true rfl) (Nat.le_of_ble_eq_true rfl) hx hb hr hlocks hP hS dL_call_315
def FC_letter (st : ST) (x2 x3 x4 : Int32) : Option Int32 := bd2 (F_letter st x2) (fun k r => some (cv k r))
theorem KT_letter (l : Launch) (hfl : l.stackTraces = false) (D : va_G) (cI cZ cS cJ : ClassId) (a : AD) (st : ST) (x2 x3 x4 : Int32) (r : Int32) (hF : FC_letter st x2 x3 x4 = some (r)) : Met l yL_call wsL_call rmL_call (wP D (gT cI cZ cS cJ) (WS cI cZ cS a st) [.ref a.1, .int (11 : Int32), .int x2, .int x3, .int x4]) (uQ D (some (.int r)) (uA (WS cI cZ cS a st)) (WS cI cZ cS a st)) 3 18 (uA (WS cI cZ cS a st)) := by
  obtain ⟨k, r0, h, e⟩ := bd2_at hF
  cases e
  exact KC_letter l D cI cZ cS cJ a.1 _ _ _ (WS_0 cI cZ cS a st) x2 x3 x4 k r0 (KS_letter l hfl D cI cZ cS cJ a st x2 k r0 h)
set_option maxHeartbeats 1000000 in
set_option maxRecDepth 20000 in
theorem KC_cheque (l : Launch) (D : va_G) (cI cZ cS cJ : ClassId) (aC : Nat) (X X' : va_W) (fs : List Value) (h0 : X[0]? = some (aC, .inr (5, fs))) (x2 x3 x4 : Int32) (k : Nat) (r : Int32) (hM : vx_Met l yX5_cheque wsX5_cheque rm5_cheque (xP D (gT cI cZ cS cJ) X [.ref aC, .int x2, .int x3]) (xQ D k (some (.int r)) (uA X) X') (xX D k (uA X) X') 1 6 (uA X)) : Met l yL_call wsL_call rmL_call (wP D (gT cI cZ cS cJ) X [.ref aC, .int (12 : Int32), .int x2, .int x3, .int x4]) (uQ D (some (.int (cv k r))) (uA X) X') 3 18 (uA X) := by
  refine va_MetW (cc := cL_call) (maxL := 6) (ret := (some .int)) (hh := hhL_call) (by decide) rfl ?_
  intro p e s m args below meth c s₁ B hml hv
  obtain ⟨⟨ha, hK, hP, hD0, hX, hZ⟩, hY⟩ := hv
  have hx := B.exec
  have hb := B.bytes
  have hr := B.returns
  have hlocks := B.notSynchronized
  have hcw : (Cond.codeWith yL_call cL_call 6 (some .int) hhL_call).before args s = true := atoms_spec (ws := wsL_call) B.pre _ List.mem_cons_self
  have htab : c.exceptionTable.toList = tableOf hhL_call := vx_table (x := yL_call) B hcw
  have hts : ∀ w ∈ lw_all, w.before args s = true := fun w h => atoms_spec (ws := wsL_call) B.pre w (List.mem_cons_of_mem _ h)
  have hown : s.vm.findClass RL = some m.cls := findClass_of_methodNamed B.named
  have S : CallFix p m c cL_call 6 s args lw_all RL := ⟨hx, hb, hml, hown, hts⟩
  have hD := hD0.own
  have hS : va_S (uA X) s.heap s.heap [] := va_S.rf
  have hl := lv_entry ([.ref aC, .int (12 : Int32), .int x2, .int x3, .int x4] : List Value) (n := 6) (Nat.le_of_ble_eq_true rfl)
  refine W.eq (g2 := F0 m 0 ((lg_sl ([.ref aC, .int (12 : Int32), .int x2, .int x3, .int x4] : List Value) ++ List.replicate (6 - (lg_sl ([.ref aC, .int (12 : Int32), .int x2, .int x3, .int x4] : List Value)).length) Slot.unset).toArray) []) (by rw [ha]; exact lg_entry_eq _ _ _) ?_
  generalize (lg_sl ([.ref aC, .int (12 : Int32), .int x2, .int x3, .int x4] : List Value) ++ List.replicate (6 - (lg_sl ([.ref aC, .int (12 : Int32), .int x2, .int x3, .int x4] : List Value)).length) Slot.unset).toArray = ls at hl ⊢
  have hl : lv_has ls 6 [(0, .ref aC), (1, .int (12 : Int32)), (2, .int x2), (3, .int x3), (4, .int x4)] := hl
  refine lv_iload_n hx hb dL_call_0 rfl (lv_at hl 1 rfl) ?_
  refine lv_if_ne (tgt := 13) hx hb dL_call_1 (by decide) (fun _ => ?_) (fun h => absurd h (by decide))
  refine lv_iload_n hx hb dL_call_13 rfl (lv_at hl 1 rfl) ?_
  refine lv_iconst (v := 1) hx hb dL_call_14 (by decide) ?_
  refine lv_icmp_ne (tgt := 26) hx hb dL_call_15 (by decide) (fun _ => ?_) (fun h => absurd h (by decide))
  refine lv_iload_n hx hb dL_call_26 rfl (lv_at hl 1 rfl) ?_
  refine lv_iconst (v := 2) hx hb dL_call_27 (by decide) ?_
  refine lv_icmp_ne (tgt := 40) hx hb dL_call_28 (by decide) (fun _ => ?_) (fun h => absurd h (by decide))
  refine lv_iload_n hx hb dL_call_40 rfl (lv_at hl 1 rfl) ?_
  refine lv_iconst (v := 3) hx hb dL_call_41 (by decide) ?_
  refine lv_icmp_ne (tgt := 54) hx hb dL_call_42 (by decide) (fun _ => ?_) (fun h => absurd h (by decide))
  refine lv_iload_n hx hb dL_call_54 rfl (lv_at hl 1 rfl) ?_
  refine lv_iconst (v := 4) hx hb dL_call_55 (by decide) ?_
  refine lv_icmp_ne (tgt := 68) hx hb dL_call_56 (by decide) (fun _ => ?_) (fun h => absurd h (by decide))
  refine lv_iload_n hx hb dL_call_68 rfl (lv_at hl 1 rfl) ?_
  refine lv_iconst (v := 5) hx hb dL_call_69 (by decide) ?_
  refine lv_icmp_ne (tgt := 82) hx hb dL_call_70 (by decide) (fun _ => ?_) (fun h => absurd h (by decide))
  refine lv_iload_n hx hb dL_call_82 rfl (lv_at hl 1 rfl) ?_
  refine lv_bipush (v := 6) hx hb dL_call_83 (by decide) ?_
  refine lv_icmp_ne (tgt := 96) hx hb dL_call_85 (by decide) (fun _ => ?_) (fun h => absurd h (by decide))
  refine lv_iload_n hx hb dL_call_96 rfl (lv_at hl 1 rfl) ?_
  refine lv_bipush (v := 7) hx hb dL_call_97 (by decide) ?_
  refine lv_icmp_ne (tgt := 109) hx hb dL_call_99 (by decide) (fun _ => ?_) (fun h => absurd h (by decide))
  refine lv_iload_n hx hb dL_call_109 rfl (lv_at hl 1 rfl) ?_
  refine lv_bipush (v := 8) hx hb dL_call_110 (by decide) ?_
  refine lv_icmp_ne (tgt := 122) hx hb dL_call_112 (by decide) (fun _ => ?_) (fun h => absurd h (by decide))
  refine lv_iload_n hx hb dL_call_122 rfl (lv_at hl 1 rfl) ?_
  refine lv_bipush (v := 9) hx hb dL_call_123 (by decide) ?_
  refine lv_icmp_ne (tgt := 136) hx hb dL_call_125 (by decide) (fun _ => ?_) (fun h => absurd h (by decide))
  refine lv_iload_n hx hb dL_call_136 rfl (lv_at hl 1 rfl) ?_
  refine lv_bipush (v := 10) hx hb dL_call_137 (by decide) ?_
  refine lv_icmp_ne (tgt := 150) hx hb dL_call_139 (by decide) (fun _ => ?_) (fun h => absurd h (by decide))
  refine lv_iload_n hx hb dL_call_150 rfl (lv_at hl 1 rfl) ?_
  refine lv_bipush (v := 11) hx hb dL_call_151 (by decide) ?_
  refine lv_icmp_ne (tgt := 164) hx hb dL_call_153 (by decide) (fun _ => ?_) (fun h => absurd h (by decide))
  refine lv_iload_n hx hb dL_call_164 rfl (lv_at hl 1 rfl) ?_
  refine lv_bipush (v := 12) hx hb dL_call_165 (by decide) ?_
  refine lv_icmp_ne (tgt := 179) hx hb dL_call_167 (by decide) (fun h => absurd rfl h) (fun _ => ?_)
  refine lv_aload_n hx hb dL_call_170 rfl (lv_at hl 0 rfl) ?_
  refine lv_iload_n hx hb dL_call_171 rfl (lv_at hl 2 rfl) ?_
  refine lv_iload_n hx hb dL_call_172 rfl (lv_at hl 3 rfl) ?_
  refine xcallW (vx_runV (As := [.int x2, .int x3]) (rest := []) S hM (cwV 2 hts (gd_V wd_572 wd_573 wd_574 wd_22 wd_575) rfl rfl rfl hd5_cheque ⟨Nat.le_of_ble_eq_true rfl, Nat.le_of_ble_eq_true rfl⟩) (xPreV2 hK hX hZ hS hP hD (ci := 5) (q := (RX5, TX5, 3)) h0 rfl) rfl rfl hl.1 rfl (lv_room (Nat.le_of_ble_eq_true rfl)) dL_call_173 ⟨Nat.le_of_ble_eq_true rfl, Nat.le_of_ble_eq_true rfl⟩) hS hD (fun ce q9 H locs hk0 hP hS hce hcv hcl => ?_) (fun H locs hk0 hP hS => ?_)
  · by_cases h1 : k = 1
    · subst h1
      rw [cv_1]
      refine vx_catch (own := RL) (name := exn 1) (E := exn 1) hown [] ⟨0, 315, 316, 82⟩ [⟨0, 315, 321, 84⟩, ⟨0, 315, 326, 86⟩] (by rw [htab]; rfl) (fun z hz => absurd hz List.not_mem_nil) (by decide) (by decide) (hts _ wd_451) (cast_exn hX (by decide)) hce hcv hcl ?_
      refine lv_astore (lv' := [(5, .ref q9), (0, .ref aC), (1, .int (12 : Int32)), (2, .int x2), (3, .int x3), (4, .int x4)]) hx hb dL_call_316 hl (by decide) rfl (fun ls hl => ?_)
      refine lv_bipush (v := -11) hx hb dL_call_318 (by decide) ?_
      exact vreti (Nat.le_of_ble_eq_true rfl) (Nat.le_of_ble_eq_true rfl) hx hb hr hlocks hP hS dL_call_320
    by_cases h2 : k = 2
    · subst h2
      rw [cv_2]
      refine vx_catch (own := RL) (name := exn 2) (E := exn 2) hown [⟨0, 315, 316, 82⟩] ⟨0, 315, 321, 84⟩ [⟨0, 315, 326, 86⟩] (by rw [htab]; rfl) (fun z hz => by simp only [List.mem_cons, List.not_mem_nil, or_false] at hz; subst hz; exact Or.inr ⟨by decide, exn 1, (hts _ wd_451), hY 2 1 (by decide) (by decide) (by decide)⟩) (by decide) (by decide) (hts _ wd_452) (cast_exn hX (by decide)) hce hcv hcl ?_
      refine lv_astore (lv' := [(5, .ref q9), (0, .ref aC), (1, .int (12 : Int32)), (2, .int x2), (3, .int x3), (4, .int x4)]) hx hb dL_call_321 hl (by decide) rfl (fun ls hl => ?_)
      refine lv_bipush (v := -12) hx hb dL_call_323 (by decide) ?_
      exact vreti (Nat.le_of_ble_eq_true rfl) (Nat.le_of_ble_eq_true rfl) hx hb hr hlocks hP hS dL_call_325
    rw [cv_3 _ hk0 h1 h2]
    rw [exn_3 h1 h2] at hcl
    refine vx_catch (own := RL) (name := exn 3) (E := exn 3) hown [⟨0, 315, 316, 82⟩, ⟨0, 315, 321, 84⟩] ⟨0, 315, 326, 86⟩ [] (by rw [htab]; rfl) (fun z hz => by simp only [List.mem_cons, List.not_mem_nil, or_false] at hz; rcases hz with rfl | rfl; (exact Or.inr ⟨by decide, exn 1, (hts _ wd_451), hY 3 1 (by decide) (by decide) (by decide)⟩); (exact Or.inr ⟨by decide, exn 2, (hts _ wd_452), hY 3 2 (by decide) (by decide) (by decide)⟩)) (by decide) (by decide) (hts _ wd_453) (cast_exn hX (by decide)) hce hcv hcl ?_
    refine lv_astore (lv' := [(5, .ref q9), (0, .ref aC), (1, .int (12 : Int32)), (2, .int x2), (3, .int x3), (4, .int x4)]) hx hb dL_call_326 hl (by decide) rfl (fun ls hl => ?_)
    refine lv_bipush (v := -13) hx hb dL_call_328 (by decide) ?_
    exact vreti (Nat.le_of_ble_eq_true rfl) (Nat.le_of_ble_eq_true rfl) hx hb hr hlocks hP hS dL_call_330
  · subst hk0
    rw [cv_0]
    refine lv_goto (tgt := 315) hx hb dL_call_176 (by decide) ?_
    exact vreti (Nat.le_of_ble_eq_true rfl) (Nat.le_of_ble_eq_true rfl) hx hb hr hlocks hP hS dL_call_315
def FC_cheque (st : ST) (x2 x3 x4 : Int32) : Option Int32 := bd2 (F_cheque st x2 x3) (fun k r => some (cv k r))
theorem KT_cheque (l : Launch) (hfl : l.stackTraces = false) (D : va_G) (cI cZ cS cJ : ClassId) (a : AD) (st : ST) (x2 x3 x4 : Int32) (r : Int32) (hF : FC_cheque st x2 x3 x4 = some (r)) : Met l yL_call wsL_call rmL_call (wP D (gT cI cZ cS cJ) (WS cI cZ cS a st) [.ref a.1, .int (12 : Int32), .int x2, .int x3, .int x4]) (uQ D (some (.int r)) (uA (WS cI cZ cS a st)) (WS cI cZ cS a st)) 3 18 (uA (WS cI cZ cS a st)) := by
  obtain ⟨k, r0, h, e⟩ := bd2_at hF
  cases e
  exact KC_cheque l D cI cZ cS cJ a.1 _ _ _ (WS_0 cI cZ cS a st) x2 x3 x4 k r0 (KS_cheque l hfl D cI cZ cS cJ a st x2 x3 k r0 h)
set_option maxHeartbeats 1000000 in
set_option maxRecDepth 20000 in
theorem KC_bookOf (l : Launch) (D : va_G) (cI cZ cS cJ : ClassId) (aC : Nat) (X X' : va_W) (fs : List Value) (h0 : X[0]? = some (aC, .inr (5, fs))) (x2 x3 x4 : Int32) (k : Nat) (r : Int32) (hM : vx_Met l yX5_bookOf wsX5_bookOf rm5_bookOf (xP D (gT cI cZ cS cJ) X [.ref aC, .int x2, .int x3]) (xQ D k (some (.int r)) (uA X) X') (xX D k (uA X) X') 1 6 (uA X)) : Met l yL_call wsL_call rmL_call (wP D (gT cI cZ cS cJ) X [.ref aC, .int (13 : Int32), .int x2, .int x3, .int x4]) (uQ D (some (.int (cv k r))) (uA X) X') 3 18 (uA X) := by
  refine va_MetW (cc := cL_call) (maxL := 6) (ret := (some .int)) (hh := hhL_call) (by decide) rfl ?_
  intro p e s m args below meth c s₁ B hml hv
  obtain ⟨⟨ha, hK, hP, hD0, hX, hZ⟩, hY⟩ := hv
  have hx := B.exec
  have hb := B.bytes
  have hr := B.returns
  have hlocks := B.notSynchronized
  have hcw : (Cond.codeWith yL_call cL_call 6 (some .int) hhL_call).before args s = true := atoms_spec (ws := wsL_call) B.pre _ List.mem_cons_self
  have htab : c.exceptionTable.toList = tableOf hhL_call := vx_table (x := yL_call) B hcw
  have hts : ∀ w ∈ lw_all, w.before args s = true := fun w h => atoms_spec (ws := wsL_call) B.pre w (List.mem_cons_of_mem _ h)
  have hown : s.vm.findClass RL = some m.cls := findClass_of_methodNamed B.named
  have S : CallFix p m c cL_call 6 s args lw_all RL := ⟨hx, hb, hml, hown, hts⟩
  have hD := hD0.own
  have hS : va_S (uA X) s.heap s.heap [] := va_S.rf
  have hl := lv_entry ([.ref aC, .int (13 : Int32), .int x2, .int x3, .int x4] : List Value) (n := 6) (Nat.le_of_ble_eq_true rfl)
  refine W.eq (g2 := F0 m 0 ((lg_sl ([.ref aC, .int (13 : Int32), .int x2, .int x3, .int x4] : List Value) ++ List.replicate (6 - (lg_sl ([.ref aC, .int (13 : Int32), .int x2, .int x3, .int x4] : List Value)).length) Slot.unset).toArray) []) (by rw [ha]; exact lg_entry_eq _ _ _) ?_
  generalize (lg_sl ([.ref aC, .int (13 : Int32), .int x2, .int x3, .int x4] : List Value) ++ List.replicate (6 - (lg_sl ([.ref aC, .int (13 : Int32), .int x2, .int x3, .int x4] : List Value)).length) Slot.unset).toArray = ls at hl ⊢
  have hl : lv_has ls 6 [(0, .ref aC), (1, .int (13 : Int32)), (2, .int x2), (3, .int x3), (4, .int x4)] := hl
  refine lv_iload_n hx hb dL_call_0 rfl (lv_at hl 1 rfl) ?_
  refine lv_if_ne (tgt := 13) hx hb dL_call_1 (by decide) (fun _ => ?_) (fun h => absurd h (by decide))
  refine lv_iload_n hx hb dL_call_13 rfl (lv_at hl 1 rfl) ?_
  refine lv_iconst (v := 1) hx hb dL_call_14 (by decide) ?_
  refine lv_icmp_ne (tgt := 26) hx hb dL_call_15 (by decide) (fun _ => ?_) (fun h => absurd h (by decide))
  refine lv_iload_n hx hb dL_call_26 rfl (lv_at hl 1 rfl) ?_
  refine lv_iconst (v := 2) hx hb dL_call_27 (by decide) ?_
  refine lv_icmp_ne (tgt := 40) hx hb dL_call_28 (by decide) (fun _ => ?_) (fun h => absurd h (by decide))
  refine lv_iload_n hx hb dL_call_40 rfl (lv_at hl 1 rfl) ?_
  refine lv_iconst (v := 3) hx hb dL_call_41 (by decide) ?_
  refine lv_icmp_ne (tgt := 54) hx hb dL_call_42 (by decide) (fun _ => ?_) (fun h => absurd h (by decide))
  refine lv_iload_n hx hb dL_call_54 rfl (lv_at hl 1 rfl) ?_
  refine lv_iconst (v := 4) hx hb dL_call_55 (by decide) ?_
  refine lv_icmp_ne (tgt := 68) hx hb dL_call_56 (by decide) (fun _ => ?_) (fun h => absurd h (by decide))
  refine lv_iload_n hx hb dL_call_68 rfl (lv_at hl 1 rfl) ?_
  refine lv_iconst (v := 5) hx hb dL_call_69 (by decide) ?_
  refine lv_icmp_ne (tgt := 82) hx hb dL_call_70 (by decide) (fun _ => ?_) (fun h => absurd h (by decide))
  refine lv_iload_n hx hb dL_call_82 rfl (lv_at hl 1 rfl) ?_
  refine lv_bipush (v := 6) hx hb dL_call_83 (by decide) ?_
  refine lv_icmp_ne (tgt := 96) hx hb dL_call_85 (by decide) (fun _ => ?_) (fun h => absurd h (by decide))
  refine lv_iload_n hx hb dL_call_96 rfl (lv_at hl 1 rfl) ?_
  refine lv_bipush (v := 7) hx hb dL_call_97 (by decide) ?_
  refine lv_icmp_ne (tgt := 109) hx hb dL_call_99 (by decide) (fun _ => ?_) (fun h => absurd h (by decide))
  refine lv_iload_n hx hb dL_call_109 rfl (lv_at hl 1 rfl) ?_
  refine lv_bipush (v := 8) hx hb dL_call_110 (by decide) ?_
  refine lv_icmp_ne (tgt := 122) hx hb dL_call_112 (by decide) (fun _ => ?_) (fun h => absurd h (by decide))
  refine lv_iload_n hx hb dL_call_122 rfl (lv_at hl 1 rfl) ?_
  refine lv_bipush (v := 9) hx hb dL_call_123 (by decide) ?_
  refine lv_icmp_ne (tgt := 136) hx hb dL_call_125 (by decide) (fun _ => ?_) (fun h => absurd h (by decide))
  refine lv_iload_n hx hb dL_call_136 rfl (lv_at hl 1 rfl) ?_
  refine lv_bipush (v := 10) hx hb dL_call_137 (by decide) ?_
  refine lv_icmp_ne (tgt := 150) hx hb dL_call_139 (by decide) (fun _ => ?_) (fun h => absurd h (by decide))
  refine lv_iload_n hx hb dL_call_150 rfl (lv_at hl 1 rfl) ?_
  refine lv_bipush (v := 11) hx hb dL_call_151 (by decide) ?_
  refine lv_icmp_ne (tgt := 164) hx hb dL_call_153 (by decide) (fun _ => ?_) (fun h => absurd h (by decide))
  refine lv_iload_n hx hb dL_call_164 rfl (lv_at hl 1 rfl) ?_
  refine lv_bipush (v := 12) hx hb dL_call_165 (by decide) ?_
  refine lv_icmp_ne (tgt := 179) hx hb dL_call_167 (by decide) (fun _ => ?_) (fun h => absurd h (by decide))
  refine lv_iload_n hx hb dL_call_179 rfl (lv_at hl 1 rfl) ?_
  refine lv_bipush (v := 13) hx hb dL_call_180 (by decide) ?_
  refine lv_icmp_ne (tgt := 194) hx hb dL_call_182 (by decide) (fun h => absurd rfl h) (fun _ => ?_)
  refine lv_aload_n hx hb dL_call_185 rfl (lv_at hl 0 rfl) ?_
  refine lv_iload_n hx hb dL_call_186 rfl (lv_at hl 2 rfl) ?_
  refine lv_iload_n hx hb dL_call_187 rfl (lv_at hl 3 rfl) ?_
  refine xcallW (vx_runV (As := [.int x2, .int x3]) (rest := []) S hM (cwV 2 hts (gd_V wd_583 wd_584 wd_585 wd_22 wd_586) rfl rfl rfl hd5_bookOf ⟨Nat.le_of_ble_eq_true rfl, Nat.le_of_ble_eq_true rfl⟩) (xPreV2 hK hX hZ hS hP hD (ci := 5) (q := (RX5, TX5, 3)) h0 rfl) rfl rfl hl.1 rfl (lv_room (Nat.le_of_ble_eq_true rfl)) dL_call_188 ⟨Nat.le_of_ble_eq_true rfl, Nat.le_of_ble_eq_true rfl⟩) hS hD (fun ce q9 H locs hk0 hP hS hce hcv hcl => ?_) (fun H locs hk0 hP hS => ?_)
  · by_cases h1 : k = 1
    · subst h1
      rw [cv_1]
      refine vx_catch (own := RL) (name := exn 1) (E := exn 1) hown [] ⟨0, 315, 316, 82⟩ [⟨0, 315, 321, 84⟩, ⟨0, 315, 326, 86⟩] (by rw [htab]; rfl) (fun z hz => absurd hz List.not_mem_nil) (by decide) (by decide) (hts _ wd_451) (cast_exn hX (by decide)) hce hcv hcl ?_
      refine lv_astore (lv' := [(5, .ref q9), (0, .ref aC), (1, .int (13 : Int32)), (2, .int x2), (3, .int x3), (4, .int x4)]) hx hb dL_call_316 hl (by decide) rfl (fun ls hl => ?_)
      refine lv_bipush (v := -11) hx hb dL_call_318 (by decide) ?_
      exact vreti (Nat.le_of_ble_eq_true rfl) (Nat.le_of_ble_eq_true rfl) hx hb hr hlocks hP hS dL_call_320
    by_cases h2 : k = 2
    · subst h2
      rw [cv_2]
      refine vx_catch (own := RL) (name := exn 2) (E := exn 2) hown [⟨0, 315, 316, 82⟩] ⟨0, 315, 321, 84⟩ [⟨0, 315, 326, 86⟩] (by rw [htab]; rfl) (fun z hz => by simp only [List.mem_cons, List.not_mem_nil, or_false] at hz; subst hz; exact Or.inr ⟨by decide, exn 1, (hts _ wd_451), hY 2 1 (by decide) (by decide) (by decide)⟩) (by decide) (by decide) (hts _ wd_452) (cast_exn hX (by decide)) hce hcv hcl ?_
      refine lv_astore (lv' := [(5, .ref q9), (0, .ref aC), (1, .int (13 : Int32)), (2, .int x2), (3, .int x3), (4, .int x4)]) hx hb dL_call_321 hl (by decide) rfl (fun ls hl => ?_)
      refine lv_bipush (v := -12) hx hb dL_call_323 (by decide) ?_
      exact vreti (Nat.le_of_ble_eq_true rfl) (Nat.le_of_ble_eq_true rfl) hx hb hr hlocks hP hS dL_call_325
    rw [cv_3 _ hk0 h1 h2]
    rw [exn_3 h1 h2] at hcl
    refine vx_catch (own := RL) (name := exn 3) (E := exn 3) hown [⟨0, 315, 316, 82⟩, ⟨0, 315, 321, 84⟩] ⟨0, 315, 326, 86⟩ [] (by rw [htab]; rfl) (fun z hz => by simp only [List.mem_cons, List.not_mem_nil, or_false] at hz; rcases hz with rfl | rfl; (exact Or.inr ⟨by decide, exn 1, (hts _ wd_451), hY 3 1 (by decide) (by decide) (by decide)⟩); (exact Or.inr ⟨by decide, exn 2, (hts _ wd_452), hY 3 2 (by decide) (by decide) (by decide)⟩)) (by decide) (by decide) (hts _ wd_453) (cast_exn hX (by decide)) hce hcv hcl ?_
    refine lv_astore (lv' := [(5, .ref q9), (0, .ref aC), (1, .int (13 : Int32)), (2, .int x2), (3, .int x3), (4, .int x4)]) hx hb dL_call_326 hl (by decide) rfl (fun ls hl => ?_)
    refine lv_bipush (v := -13) hx hb dL_call_328 (by decide) ?_
    exact vreti (Nat.le_of_ble_eq_true rfl) (Nat.le_of_ble_eq_true rfl) hx hb hr hlocks hP hS dL_call_330
  · subst hk0
    rw [cv_0]
    refine lv_goto (tgt := 315) hx hb dL_call_191 (by decide) ?_
    exact vreti (Nat.le_of_ble_eq_true rfl) (Nat.le_of_ble_eq_true rfl) hx hb hr hlocks hP hS dL_call_315
def FC_bookOf (st : ST) (x2 x3 x4 : Int32) : Option Int32 := bd2 (F_bookOf st x2 x3) (fun k r => some (cv k r))
theorem KT_bookOf (l : Launch) (hfl : l.stackTraces = false) (D : va_G) (cI cZ cS cJ : ClassId) (a : AD) (st : ST) (x2 x3 x4 : Int32) (r : Int32) (hF : FC_bookOf st x2 x3 x4 = some (r)) : Met l yL_call wsL_call rmL_call (wP D (gT cI cZ cS cJ) (WS cI cZ cS a st) [.ref a.1, .int (13 : Int32), .int x2, .int x3, .int x4]) (uQ D (some (.int r)) (uA (WS cI cZ cS a st)) (WS cI cZ cS a st)) 3 18 (uA (WS cI cZ cS a st)) := by
  obtain ⟨k, r0, h, e⟩ := bd2_at hF
  cases e
  exact KC_bookOf l D cI cZ cS cJ a.1 _ _ _ (WS_0 cI cZ cS a st) x2 x3 x4 k r0 (KS_bookOf l hfl D cI cZ cS cJ a st x2 x3 k r0 h)
set_option maxHeartbeats 1000000 in
set_option maxRecDepth 20000 in
theorem KC_count (l : Launch) (D : va_G) (cI cZ cS cJ : ClassId) (aC : Nat) (X X' : va_W) (fs : List Value) (h0 : X[0]? = some (aC, .inr (5, fs))) (x2 x3 x4 : Int32) (k : Nat) (r : Int32) (hM : vx_Met l yX5_count wsX5_count rm5_count (xP D (gT cI cZ cS cJ) X [.ref aC, .int x2]) (xQ D k (some (.int r)) (uA X) X') (xX D k (uA X) X') 1 6 (uA X)) : Met l yL_call wsL_call rmL_call (wP D (gT cI cZ cS cJ) X [.ref aC, .int (14 : Int32), .int x2, .int x3, .int x4]) (uQ D (some (.int (cv k r))) (uA X) X') 3 18 (uA X) := by
  refine va_MetW (cc := cL_call) (maxL := 6) (ret := (some .int)) (hh := hhL_call) (by decide) rfl ?_
  intro p e s m args below meth c s₁ B hml hv
  obtain ⟨⟨ha, hK, hP, hD0, hX, hZ⟩, hY⟩ := hv
  have hx := B.exec
  have hb := B.bytes
  have hr := B.returns
  have hlocks := B.notSynchronized
  have hcw : (Cond.codeWith yL_call cL_call 6 (some .int) hhL_call).before args s = true := atoms_spec (ws := wsL_call) B.pre _ List.mem_cons_self
  have htab : c.exceptionTable.toList = tableOf hhL_call := vx_table (x := yL_call) B hcw
  have hts : ∀ w ∈ lw_all, w.before args s = true := fun w h => atoms_spec (ws := wsL_call) B.pre w (List.mem_cons_of_mem _ h)
  have hown : s.vm.findClass RL = some m.cls := findClass_of_methodNamed B.named
  have S : CallFix p m c cL_call 6 s args lw_all RL := ⟨hx, hb, hml, hown, hts⟩
  have hD := hD0.own
  have hS : va_S (uA X) s.heap s.heap [] := va_S.rf
  have hl := lv_entry ([.ref aC, .int (14 : Int32), .int x2, .int x3, .int x4] : List Value) (n := 6) (Nat.le_of_ble_eq_true rfl)
  refine W.eq (g2 := F0 m 0 ((lg_sl ([.ref aC, .int (14 : Int32), .int x2, .int x3, .int x4] : List Value) ++ List.replicate (6 - (lg_sl ([.ref aC, .int (14 : Int32), .int x2, .int x3, .int x4] : List Value)).length) Slot.unset).toArray) []) (by rw [ha]; exact lg_entry_eq _ _ _) ?_
  generalize (lg_sl ([.ref aC, .int (14 : Int32), .int x2, .int x3, .int x4] : List Value) ++ List.replicate (6 - (lg_sl ([.ref aC, .int (14 : Int32), .int x2, .int x3, .int x4] : List Value)).length) Slot.unset).toArray = ls at hl ⊢
  have hl : lv_has ls 6 [(0, .ref aC), (1, .int (14 : Int32)), (2, .int x2), (3, .int x3), (4, .int x4)] := hl
  refine lv_iload_n hx hb dL_call_0 rfl (lv_at hl 1 rfl) ?_
  refine lv_if_ne (tgt := 13) hx hb dL_call_1 (by decide) (fun _ => ?_) (fun h => absurd h (by decide))
  refine lv_iload_n hx hb dL_call_13 rfl (lv_at hl 1 rfl) ?_
  refine lv_iconst (v := 1) hx hb dL_call_14 (by decide) ?_
  refine lv_icmp_ne (tgt := 26) hx hb dL_call_15 (by decide) (fun _ => ?_) (fun h => absurd h (by decide))
  refine lv_iload_n hx hb dL_call_26 rfl (lv_at hl 1 rfl) ?_
  refine lv_iconst (v := 2) hx hb dL_call_27 (by decide) ?_
  refine lv_icmp_ne (tgt := 40) hx hb dL_call_28 (by decide) (fun _ => ?_) (fun h => absurd h (by decide))
  refine lv_iload_n hx hb dL_call_40 rfl (lv_at hl 1 rfl) ?_
  refine lv_iconst (v := 3) hx hb dL_call_41 (by decide) ?_
  refine lv_icmp_ne (tgt := 54) hx hb dL_call_42 (by decide) (fun _ => ?_) (fun h => absurd h (by decide))
  refine lv_iload_n hx hb dL_call_54 rfl (lv_at hl 1 rfl) ?_
  refine lv_iconst (v := 4) hx hb dL_call_55 (by decide) ?_
  refine lv_icmp_ne (tgt := 68) hx hb dL_call_56 (by decide) (fun _ => ?_) (fun h => absurd h (by decide))
  refine lv_iload_n hx hb dL_call_68 rfl (lv_at hl 1 rfl) ?_
  refine lv_iconst (v := 5) hx hb dL_call_69 (by decide) ?_
  refine lv_icmp_ne (tgt := 82) hx hb dL_call_70 (by decide) (fun _ => ?_) (fun h => absurd h (by decide))
  refine lv_iload_n hx hb dL_call_82 rfl (lv_at hl 1 rfl) ?_
  refine lv_bipush (v := 6) hx hb dL_call_83 (by decide) ?_
  refine lv_icmp_ne (tgt := 96) hx hb dL_call_85 (by decide) (fun _ => ?_) (fun h => absurd h (by decide))
  refine lv_iload_n hx hb dL_call_96 rfl (lv_at hl 1 rfl) ?_
  refine lv_bipush (v := 7) hx hb dL_call_97 (by decide) ?_
  refine lv_icmp_ne (tgt := 109) hx hb dL_call_99 (by decide) (fun _ => ?_) (fun h => absurd h (by decide))
  refine lv_iload_n hx hb dL_call_109 rfl (lv_at hl 1 rfl) ?_
  refine lv_bipush (v := 8) hx hb dL_call_110 (by decide) ?_
  refine lv_icmp_ne (tgt := 122) hx hb dL_call_112 (by decide) (fun _ => ?_) (fun h => absurd h (by decide))
  refine lv_iload_n hx hb dL_call_122 rfl (lv_at hl 1 rfl) ?_
  refine lv_bipush (v := 9) hx hb dL_call_123 (by decide) ?_
  refine lv_icmp_ne (tgt := 136) hx hb dL_call_125 (by decide) (fun _ => ?_) (fun h => absurd h (by decide))
  refine lv_iload_n hx hb dL_call_136 rfl (lv_at hl 1 rfl) ?_
  refine lv_bipush (v := 10) hx hb dL_call_137 (by decide) ?_
  refine lv_icmp_ne (tgt := 150) hx hb dL_call_139 (by decide) (fun _ => ?_) (fun h => absurd h (by decide))
  refine lv_iload_n hx hb dL_call_150 rfl (lv_at hl 1 rfl) ?_
  refine lv_bipush (v := 11) hx hb dL_call_151 (by decide) ?_
  refine lv_icmp_ne (tgt := 164) hx hb dL_call_153 (by decide) (fun _ => ?_) (fun h => absurd h (by decide))
  refine lv_iload_n hx hb dL_call_164 rfl (lv_at hl 1 rfl) ?_
  refine lv_bipush (v := 12) hx hb dL_call_165 (by decide) ?_
  refine lv_icmp_ne (tgt := 179) hx hb dL_call_167 (by decide) (fun _ => ?_) (fun h => absurd h (by decide))
  refine lv_iload_n hx hb dL_call_179 rfl (lv_at hl 1 rfl) ?_
  refine lv_bipush (v := 13) hx hb dL_call_180 (by decide) ?_
  refine lv_icmp_ne (tgt := 194) hx hb dL_call_182 (by decide) (fun _ => ?_) (fun h => absurd h (by decide))
  refine lv_iload_n hx hb dL_call_194 rfl (lv_at hl 1 rfl) ?_
  refine lv_bipush (v := 14) hx hb dL_call_195 (by decide) ?_
  refine lv_icmp_ne (tgt := 208) hx hb dL_call_197 (by decide) (fun h => absurd rfl h) (fun _ => ?_)
  refine lv_aload_n hx hb dL_call_200 rfl (lv_at hl 0 rfl) ?_
  refine lv_iload_n hx hb dL_call_201 rfl (lv_at hl 2 rfl) ?_
  refine xcallW (vx_runV (As := [.int x2]) (rest := []) S hM (cwV 1 hts (gd_V wd_413 wd_414 wd_415 wd_22 wd_416) rfl rfl rfl hd5_count ⟨Nat.le_of_ble_eq_true rfl, Nat.le_of_ble_eq_true rfl⟩) (xPreV2 hK hX hZ hS hP hD (ci := 5) (q := (RX5, TX5, 3)) h0 rfl) rfl rfl hl.1 rfl (lv_room (Nat.le_of_ble_eq_true rfl)) dL_call_202 ⟨Nat.le_of_ble_eq_true rfl, Nat.le_of_ble_eq_true rfl⟩) hS hD (fun ce q9 H locs hk0 hP hS hce hcv hcl => ?_) (fun H locs hk0 hP hS => ?_)
  · by_cases h1 : k = 1
    · subst h1
      rw [cv_1]
      refine vx_catch (own := RL) (name := exn 1) (E := exn 1) hown [] ⟨0, 315, 316, 82⟩ [⟨0, 315, 321, 84⟩, ⟨0, 315, 326, 86⟩] (by rw [htab]; rfl) (fun z hz => absurd hz List.not_mem_nil) (by decide) (by decide) (hts _ wd_451) (cast_exn hX (by decide)) hce hcv hcl ?_
      refine lv_astore (lv' := [(5, .ref q9), (0, .ref aC), (1, .int (14 : Int32)), (2, .int x2), (3, .int x3), (4, .int x4)]) hx hb dL_call_316 hl (by decide) rfl (fun ls hl => ?_)
      refine lv_bipush (v := -11) hx hb dL_call_318 (by decide) ?_
      exact vreti (Nat.le_of_ble_eq_true rfl) (Nat.le_of_ble_eq_true rfl) hx hb hr hlocks hP hS dL_call_320
    by_cases h2 : k = 2
    · subst h2
      rw [cv_2]
      refine vx_catch (own := RL) (name := exn 2) (E := exn 2) hown [⟨0, 315, 316, 82⟩] ⟨0, 315, 321, 84⟩ [⟨0, 315, 326, 86⟩] (by rw [htab]; rfl) (fun z hz => by simp only [List.mem_cons, List.not_mem_nil, or_false] at hz; subst hz; exact Or.inr ⟨by decide, exn 1, (hts _ wd_451), hY 2 1 (by decide) (by decide) (by decide)⟩) (by decide) (by decide) (hts _ wd_452) (cast_exn hX (by decide)) hce hcv hcl ?_
      refine lv_astore (lv' := [(5, .ref q9), (0, .ref aC), (1, .int (14 : Int32)), (2, .int x2), (3, .int x3), (4, .int x4)]) hx hb dL_call_321 hl (by decide) rfl (fun ls hl => ?_)
      refine lv_bipush (v := -12) hx hb dL_call_323 (by decide) ?_
      exact vreti (Nat.le_of_ble_eq_true rfl) (Nat.le_of_ble_eq_true rfl) hx hb hr hlocks hP hS dL_call_325
    rw [cv_3 _ hk0 h1 h2]
    rw [exn_3 h1 h2] at hcl
    refine vx_catch (own := RL) (name := exn 3) (E := exn 3) hown [⟨0, 315, 316, 82⟩, ⟨0, 315, 321, 84⟩] ⟨0, 315, 326, 86⟩ [] (by rw [htab]; rfl) (fun z hz => by simp only [List.mem_cons, List.not_mem_nil, or_false] at hz; rcases hz with rfl | rfl; (exact Or.inr ⟨by decide, exn 1, (hts _ wd_451), hY 3 1 (by decide) (by decide) (by decide)⟩); (exact Or.inr ⟨by decide, exn 2, (hts _ wd_452), hY 3 2 (by decide) (by decide) (by decide)⟩)) (by decide) (by decide) (hts _ wd_453) (cast_exn hX (by decide)) hce hcv hcl ?_
    refine lv_astore (lv' := [(5, .ref q9), (0, .ref aC), (1, .int (14 : Int32)), (2, .int x2), (3, .int x3), (4, .int x4)]) hx hb dL_call_326 hl (by decide) rfl (fun ls hl => ?_)
    refine lv_bipush (v := -13) hx hb dL_call_328 (by decide) ?_
    exact vreti (Nat.le_of_ble_eq_true rfl) (Nat.le_of_ble_eq_true rfl) hx hb hr hlocks hP hS dL_call_330
  · subst hk0
    rw [cv_0]
    refine lv_goto (tgt := 315) hx hb dL_call_205 (by decide) ?_
    exact vreti (Nat.le_of_ble_eq_true rfl) (Nat.le_of_ble_eq_true rfl) hx hb hr hlocks hP hS dL_call_315
def FC_count (st : ST) (x2 x3 x4 : Int32) : Option Int32 := bd2 (F_count st x2) (fun k r => some (cv k r))
theorem KT_count (l : Launch) (hfl : l.stackTraces = false) (D : va_G) (cI cZ cS cJ : ClassId) (a : AD) (st : ST) (x2 x3 x4 : Int32) (r : Int32) (hF : FC_count st x2 x3 x4 = some (r)) : Met l yL_call wsL_call rmL_call (wP D (gT cI cZ cS cJ) (WS cI cZ cS a st) [.ref a.1, .int (14 : Int32), .int x2, .int x3, .int x4]) (uQ D (some (.int r)) (uA (WS cI cZ cS a st)) (WS cI cZ cS a st)) 3 18 (uA (WS cI cZ cS a st)) := by
  obtain ⟨k, r0, h, e⟩ := bd2_at hF
  cases e
  exact KC_count l D cI cZ cS cJ a.1 _ _ _ (WS_0 cI cZ cS a st) x2 x3 x4 k r0 (KS_count l hfl D cI cZ cS cJ a st x2 k r0 h)
set_option maxHeartbeats 1000000 in
set_option maxRecDepth 20000 in
theorem KC_ranked (l : Launch) (D : va_G) (cI cZ cS cJ : ClassId) (aC : Nat) (X X' : va_W) (fs : List Value) (h0 : X[0]? = some (aC, .inr (5, fs))) (x2 x3 x4 : Int32) (k : Nat) (r : Int32) (hM : vx_Met l yX5_ranked wsX5_ranked rm5_ranked (xP D (gT cI cZ cS cJ) X [.ref aC, .int x2]) (xQ D k (some (.int r)) (uA X) X') (xX D k (uA X) X') 1 6 (uA X)) : Met l yL_call wsL_call rmL_call (wP D (gT cI cZ cS cJ) X [.ref aC, .int (15 : Int32), .int x2, .int x3, .int x4]) (uQ D (some (.int (cv k r))) (uA X) X') 3 18 (uA X) := by
  refine va_MetW (cc := cL_call) (maxL := 6) (ret := (some .int)) (hh := hhL_call) (by decide) rfl ?_
  intro p e s m args below meth c s₁ B hml hv
  obtain ⟨⟨ha, hK, hP, hD0, hX, hZ⟩, hY⟩ := hv
  have hx := B.exec
  have hb := B.bytes
  have hr := B.returns
  have hlocks := B.notSynchronized
  have hcw : (Cond.codeWith yL_call cL_call 6 (some .int) hhL_call).before args s = true := atoms_spec (ws := wsL_call) B.pre _ List.mem_cons_self
  have htab : c.exceptionTable.toList = tableOf hhL_call := vx_table (x := yL_call) B hcw
  have hts : ∀ w ∈ lw_all, w.before args s = true := fun w h => atoms_spec (ws := wsL_call) B.pre w (List.mem_cons_of_mem _ h)
  have hown : s.vm.findClass RL = some m.cls := findClass_of_methodNamed B.named
  have S : CallFix p m c cL_call 6 s args lw_all RL := ⟨hx, hb, hml, hown, hts⟩
  have hD := hD0.own
  have hS : va_S (uA X) s.heap s.heap [] := va_S.rf
  have hl := lv_entry ([.ref aC, .int (15 : Int32), .int x2, .int x3, .int x4] : List Value) (n := 6) (Nat.le_of_ble_eq_true rfl)
  refine W.eq (g2 := F0 m 0 ((lg_sl ([.ref aC, .int (15 : Int32), .int x2, .int x3, .int x4] : List Value) ++ List.replicate (6 - (lg_sl ([.ref aC, .int (15 : Int32), .int x2, .int x3, .int x4] : List Value)).length) Slot.unset).toArray) []) (by rw [ha]; exact lg_entry_eq _ _ _) ?_
  generalize (lg_sl ([.ref aC, .int (15 : Int32), .int x2, .int x3, .int x4] : List Value) ++ List.replicate (6 - (lg_sl ([.ref aC, .int (15 : Int32), .int x2, .int x3, .int x4] : List Value)).length) Slot.unset).toArray = ls at hl ⊢
  have hl : lv_has ls 6 [(0, .ref aC), (1, .int (15 : Int32)), (2, .int x2), (3, .int x3), (4, .int x4)] := hl
  refine lv_iload_n hx hb dL_call_0 rfl (lv_at hl 1 rfl) ?_
  refine lv_if_ne (tgt := 13) hx hb dL_call_1 (by decide) (fun _ => ?_) (fun h => absurd h (by decide))
  refine lv_iload_n hx hb dL_call_13 rfl (lv_at hl 1 rfl) ?_
  refine lv_iconst (v := 1) hx hb dL_call_14 (by decide) ?_
  refine lv_icmp_ne (tgt := 26) hx hb dL_call_15 (by decide) (fun _ => ?_) (fun h => absurd h (by decide))
  refine lv_iload_n hx hb dL_call_26 rfl (lv_at hl 1 rfl) ?_
  refine lv_iconst (v := 2) hx hb dL_call_27 (by decide) ?_
  refine lv_icmp_ne (tgt := 40) hx hb dL_call_28 (by decide) (fun _ => ?_) (fun h => absurd h (by decide))
  refine lv_iload_n hx hb dL_call_40 rfl (lv_at hl 1 rfl) ?_
  refine lv_iconst (v := 3) hx hb dL_call_41 (by decide) ?_
  refine lv_icmp_ne (tgt := 54) hx hb dL_call_42 (by decide) (fun _ => ?_) (fun h => absurd h (by decide))
  refine lv_iload_n hx hb dL_call_54 rfl (lv_at hl 1 rfl) ?_
  refine lv_iconst (v := 4) hx hb dL_call_55 (by decide) ?_
  refine lv_icmp_ne (tgt := 68) hx hb dL_call_56 (by decide) (fun _ => ?_) (fun h => absurd h (by decide))
  refine lv_iload_n hx hb dL_call_68 rfl (lv_at hl 1 rfl) ?_
  refine lv_iconst (v := 5) hx hb dL_call_69 (by decide) ?_
  refine lv_icmp_ne (tgt := 82) hx hb dL_call_70 (by decide) (fun _ => ?_) (fun h => absurd h (by decide))
  refine lv_iload_n hx hb dL_call_82 rfl (lv_at hl 1 rfl) ?_
  refine lv_bipush (v := 6) hx hb dL_call_83 (by decide) ?_
  refine lv_icmp_ne (tgt := 96) hx hb dL_call_85 (by decide) (fun _ => ?_) (fun h => absurd h (by decide))
  refine lv_iload_n hx hb dL_call_96 rfl (lv_at hl 1 rfl) ?_
  refine lv_bipush (v := 7) hx hb dL_call_97 (by decide) ?_
  refine lv_icmp_ne (tgt := 109) hx hb dL_call_99 (by decide) (fun _ => ?_) (fun h => absurd h (by decide))
  refine lv_iload_n hx hb dL_call_109 rfl (lv_at hl 1 rfl) ?_
  refine lv_bipush (v := 8) hx hb dL_call_110 (by decide) ?_
  refine lv_icmp_ne (tgt := 122) hx hb dL_call_112 (by decide) (fun _ => ?_) (fun h => absurd h (by decide))
  refine lv_iload_n hx hb dL_call_122 rfl (lv_at hl 1 rfl) ?_
  refine lv_bipush (v := 9) hx hb dL_call_123 (by decide) ?_
  refine lv_icmp_ne (tgt := 136) hx hb dL_call_125 (by decide) (fun _ => ?_) (fun h => absurd h (by decide))
  refine lv_iload_n hx hb dL_call_136 rfl (lv_at hl 1 rfl) ?_
  refine lv_bipush (v := 10) hx hb dL_call_137 (by decide) ?_
  refine lv_icmp_ne (tgt := 150) hx hb dL_call_139 (by decide) (fun _ => ?_) (fun h => absurd h (by decide))
  refine lv_iload_n hx hb dL_call_150 rfl (lv_at hl 1 rfl) ?_
  refine lv_bipush (v := 11) hx hb dL_call_151 (by decide) ?_
  refine lv_icmp_ne (tgt := 164) hx hb dL_call_153 (by decide) (fun _ => ?_) (fun h => absurd h (by decide))
  refine lv_iload_n hx hb dL_call_164 rfl (lv_at hl 1 rfl) ?_
  refine lv_bipush (v := 12) hx hb dL_call_165 (by decide) ?_
  refine lv_icmp_ne (tgt := 179) hx hb dL_call_167 (by decide) (fun _ => ?_) (fun h => absurd h (by decide))
  refine lv_iload_n hx hb dL_call_179 rfl (lv_at hl 1 rfl) ?_
  refine lv_bipush (v := 13) hx hb dL_call_180 (by decide) ?_
  refine lv_icmp_ne (tgt := 194) hx hb dL_call_182 (by decide) (fun _ => ?_) (fun h => absurd h (by decide))
  refine lv_iload_n hx hb dL_call_194 rfl (lv_at hl 1 rfl) ?_
  refine lv_bipush (v := 14) hx hb dL_call_195 (by decide) ?_
  refine lv_icmp_ne (tgt := 208) hx hb dL_call_197 (by decide) (fun _ => ?_) (fun h => absurd h (by decide))
  refine lv_iload_n hx hb dL_call_208 rfl (lv_at hl 1 rfl) ?_
  refine lv_bipush (v := 15) hx hb dL_call_209 (by decide) ?_
  refine lv_icmp_ne (tgt := 222) hx hb dL_call_211 (by decide) (fun h => absurd rfl h) (fun _ => ?_)
  refine lv_aload_n hx hb dL_call_214 rfl (lv_at hl 0 rfl) ?_
  refine lv_iload_n hx hb dL_call_215 rfl (lv_at hl 2 rfl) ?_
  refine xcallW (vx_runV (As := [.int x2]) (rest := []) S hM (cwV 1 hts (gd_V wd_590 wd_591 wd_592 wd_22 wd_593) rfl rfl rfl hd5_ranked ⟨Nat.le_of_ble_eq_true rfl, Nat.le_of_ble_eq_true rfl⟩) (xPreV2 hK hX hZ hS hP hD (ci := 5) (q := (RX5, TX5, 3)) h0 rfl) rfl rfl hl.1 rfl (lv_room (Nat.le_of_ble_eq_true rfl)) dL_call_216 ⟨Nat.le_of_ble_eq_true rfl, Nat.le_of_ble_eq_true rfl⟩) hS hD (fun ce q9 H locs hk0 hP hS hce hcv hcl => ?_) (fun H locs hk0 hP hS => ?_)
  · by_cases h1 : k = 1
    · subst h1
      rw [cv_1]
      refine vx_catch (own := RL) (name := exn 1) (E := exn 1) hown [] ⟨0, 315, 316, 82⟩ [⟨0, 315, 321, 84⟩, ⟨0, 315, 326, 86⟩] (by rw [htab]; rfl) (fun z hz => absurd hz List.not_mem_nil) (by decide) (by decide) (hts _ wd_451) (cast_exn hX (by decide)) hce hcv hcl ?_
      refine lv_astore (lv' := [(5, .ref q9), (0, .ref aC), (1, .int (15 : Int32)), (2, .int x2), (3, .int x3), (4, .int x4)]) hx hb dL_call_316 hl (by decide) rfl (fun ls hl => ?_)
      refine lv_bipush (v := -11) hx hb dL_call_318 (by decide) ?_
      exact vreti (Nat.le_of_ble_eq_true rfl) (Nat.le_of_ble_eq_true rfl) hx hb hr hlocks hP hS dL_call_320
    by_cases h2 : k = 2
    · subst h2
      rw [cv_2]
      refine vx_catch (own := RL) (name := exn 2) (E := exn 2) hown [⟨0, 315, 316, 82⟩] ⟨0, 315, 321, 84⟩ [⟨0, 315, 326, 86⟩] (by rw [htab]; rfl) (fun z hz => by simp only [List.mem_cons, List.not_mem_nil, or_false] at hz; subst hz; exact Or.inr ⟨by decide, exn 1, (hts _ wd_451), hY 2 1 (by decide) (by decide) (by decide)⟩) (by decide) (by decide) (hts _ wd_452) (cast_exn hX (by decide)) hce hcv hcl ?_
      refine lv_astore (lv' := [(5, .ref q9), (0, .ref aC), (1, .int (15 : Int32)), (2, .int x2), (3, .int x3), (4, .int x4)]) hx hb dL_call_321 hl (by decide) rfl (fun ls hl => ?_)
      refine lv_bipush (v := -12) hx hb dL_call_323 (by decide) ?_
      exact vreti (Nat.le_of_ble_eq_true rfl) (Nat.le_of_ble_eq_true rfl) hx hb hr hlocks hP hS dL_call_325
    rw [cv_3 _ hk0 h1 h2]
    rw [exn_3 h1 h2] at hcl
    refine vx_catch (own := RL) (name := exn 3) (E := exn 3) hown [⟨0, 315, 316, 82⟩, ⟨0, 315, 321, 84⟩] ⟨0, 315, 326, 86⟩ [] (by rw [htab]; rfl) (fun z hz => by simp only [List.mem_cons, List.not_mem_nil, or_false] at hz; rcases hz with rfl | rfl; (exact Or.inr ⟨by decide, exn 1, (hts _ wd_451), hY 3 1 (by decide) (by decide) (by decide)⟩); (exact Or.inr ⟨by decide, exn 2, (hts _ wd_452), hY 3 2 (by decide) (by decide) (by decide)⟩)) (by decide) (by decide) (hts _ wd_453) (cast_exn hX (by decide)) hce hcv hcl ?_
    refine lv_astore (lv' := [(5, .ref q9), (0, .ref aC), (1, .int (15 : Int32)), (2, .int x2), (3, .int x3), (4, .int x4)]) hx hb dL_call_326 hl (by decide) rfl (fun ls hl => ?_)
    refine lv_bipush (v := -13) hx hb dL_call_328 (by decide) ?_
    exact vreti (Nat.le_of_ble_eq_true rfl) (Nat.le_of_ble_eq_true rfl) hx hb hr hlocks hP hS dL_call_330
  · subst hk0
    rw [cv_0]
    refine lv_goto (tgt := 315) hx hb dL_call_219 (by decide) ?_
    exact vreti (Nat.le_of_ble_eq_true rfl) (Nat.le_of_ble_eq_true rfl) hx hb hr hlocks hP hS dL_call_315
def FC_ranked (st : ST) (x2 x3 x4 : Int32) : Option Int32 := bd2 (F_ranked st x2) (fun k r => some (cv k r))
theorem KT_ranked (l : Launch) (hfl : l.stackTraces = false) (D : va_G) (cI cZ cS cJ : ClassId) (a : AD) (st : ST) (x2 x3 x4 : Int32) (r : Int32) (hF : FC_ranked st x2 x3 x4 = some (r)) : Met l yL_call wsL_call rmL_call (wP D (gT cI cZ cS cJ) (WS cI cZ cS a st) [.ref a.1, .int (15 : Int32), .int x2, .int x3, .int x4]) (uQ D (some (.int r)) (uA (WS cI cZ cS a st)) (WS cI cZ cS a st)) 3 18 (uA (WS cI cZ cS a st)) := by
  obtain ⟨k, r0, h, e⟩ := bd2_at hF
  cases e
  exact KC_ranked l D cI cZ cS cJ a.1 _ _ _ (WS_0 cI cZ cS a st) x2 x3 x4 k r0 (KS_ranked l hfl D cI cZ cS cJ a st x2 k r0 h)
set_option maxHeartbeats 1000000 in
set_option maxRecDepth 20000 in
theorem KC_missed (l : Launch) (D : va_G) (cI cZ cS cJ : ClassId) (aC : Nat) (X X' : va_W) (fs : List Value) (h0 : X[0]? = some (aC, .inr (5, fs))) (x2 x3 x4 : Int32) (k : Nat) (r : Int32) (hM : vx_Met l yX5_missed wsX5_missed rm5_missed (xP D (gT cI cZ cS cJ) X [.ref aC, .int x2, .int x3]) (xQ D k (some (.int r)) (uA X) X') (xX D k (uA X) X') 2 12 (uA X)) : Met l yL_call wsL_call rmL_call (wP D (gT cI cZ cS cJ) X [.ref aC, .int (16 : Int32), .int x2, .int x3, .int x4]) (uQ D (some (.int (cv k r))) (uA X) X') 3 18 (uA X) := by
  refine va_MetW (cc := cL_call) (maxL := 6) (ret := (some .int)) (hh := hhL_call) (by decide) rfl ?_
  intro p e s m args below meth c s₁ B hml hv
  obtain ⟨⟨ha, hK, hP, hD0, hX, hZ⟩, hY⟩ := hv
  have hx := B.exec
  have hb := B.bytes
  have hr := B.returns
  have hlocks := B.notSynchronized
  have hcw : (Cond.codeWith yL_call cL_call 6 (some .int) hhL_call).before args s = true := atoms_spec (ws := wsL_call) B.pre _ List.mem_cons_self
  have htab : c.exceptionTable.toList = tableOf hhL_call := vx_table (x := yL_call) B hcw
  have hts : ∀ w ∈ lw_all, w.before args s = true := fun w h => atoms_spec (ws := wsL_call) B.pre w (List.mem_cons_of_mem _ h)
  have hown : s.vm.findClass RL = some m.cls := findClass_of_methodNamed B.named
  have S : CallFix p m c cL_call 6 s args lw_all RL := ⟨hx, hb, hml, hown, hts⟩
  have hD := hD0.own
  have hS : va_S (uA X) s.heap s.heap [] := va_S.rf
  have hl := lv_entry ([.ref aC, .int (16 : Int32), .int x2, .int x3, .int x4] : List Value) (n := 6) (Nat.le_of_ble_eq_true rfl)
  refine W.eq (g2 := F0 m 0 ((lg_sl ([.ref aC, .int (16 : Int32), .int x2, .int x3, .int x4] : List Value) ++ List.replicate (6 - (lg_sl ([.ref aC, .int (16 : Int32), .int x2, .int x3, .int x4] : List Value)).length) Slot.unset).toArray) []) (by rw [ha]; exact lg_entry_eq _ _ _) ?_
  generalize (lg_sl ([.ref aC, .int (16 : Int32), .int x2, .int x3, .int x4] : List Value) ++ List.replicate (6 - (lg_sl ([.ref aC, .int (16 : Int32), .int x2, .int x3, .int x4] : List Value)).length) Slot.unset).toArray = ls at hl ⊢
  have hl : lv_has ls 6 [(0, .ref aC), (1, .int (16 : Int32)), (2, .int x2), (3, .int x3), (4, .int x4)] := hl
  refine lv_iload_n hx hb dL_call_0 rfl (lv_at hl 1 rfl) ?_
  refine lv_if_ne (tgt := 13) hx hb dL_call_1 (by decide) (fun _ => ?_) (fun h => absurd h (by decide))
  refine lv_iload_n hx hb dL_call_13 rfl (lv_at hl 1 rfl) ?_
  refine lv_iconst (v := 1) hx hb dL_call_14 (by decide) ?_
  refine lv_icmp_ne (tgt := 26) hx hb dL_call_15 (by decide) (fun _ => ?_) (fun h => absurd h (by decide))
  refine lv_iload_n hx hb dL_call_26 rfl (lv_at hl 1 rfl) ?_
  refine lv_iconst (v := 2) hx hb dL_call_27 (by decide) ?_
  refine lv_icmp_ne (tgt := 40) hx hb dL_call_28 (by decide) (fun _ => ?_) (fun h => absurd h (by decide))
  refine lv_iload_n hx hb dL_call_40 rfl (lv_at hl 1 rfl) ?_
  refine lv_iconst (v := 3) hx hb dL_call_41 (by decide) ?_
  refine lv_icmp_ne (tgt := 54) hx hb dL_call_42 (by decide) (fun _ => ?_) (fun h => absurd h (by decide))
  refine lv_iload_n hx hb dL_call_54 rfl (lv_at hl 1 rfl) ?_
  refine lv_iconst (v := 4) hx hb dL_call_55 (by decide) ?_
  refine lv_icmp_ne (tgt := 68) hx hb dL_call_56 (by decide) (fun _ => ?_) (fun h => absurd h (by decide))
  refine lv_iload_n hx hb dL_call_68 rfl (lv_at hl 1 rfl) ?_
  refine lv_iconst (v := 5) hx hb dL_call_69 (by decide) ?_
  refine lv_icmp_ne (tgt := 82) hx hb dL_call_70 (by decide) (fun _ => ?_) (fun h => absurd h (by decide))
  refine lv_iload_n hx hb dL_call_82 rfl (lv_at hl 1 rfl) ?_
  refine lv_bipush (v := 6) hx hb dL_call_83 (by decide) ?_
  refine lv_icmp_ne (tgt := 96) hx hb dL_call_85 (by decide) (fun _ => ?_) (fun h => absurd h (by decide))
  refine lv_iload_n hx hb dL_call_96 rfl (lv_at hl 1 rfl) ?_
  refine lv_bipush (v := 7) hx hb dL_call_97 (by decide) ?_
  refine lv_icmp_ne (tgt := 109) hx hb dL_call_99 (by decide) (fun _ => ?_) (fun h => absurd h (by decide))
  refine lv_iload_n hx hb dL_call_109 rfl (lv_at hl 1 rfl) ?_
  refine lv_bipush (v := 8) hx hb dL_call_110 (by decide) ?_
  refine lv_icmp_ne (tgt := 122) hx hb dL_call_112 (by decide) (fun _ => ?_) (fun h => absurd h (by decide))
  refine lv_iload_n hx hb dL_call_122 rfl (lv_at hl 1 rfl) ?_
  refine lv_bipush (v := 9) hx hb dL_call_123 (by decide) ?_
  refine lv_icmp_ne (tgt := 136) hx hb dL_call_125 (by decide) (fun _ => ?_) (fun h => absurd h (by decide))
  refine lv_iload_n hx hb dL_call_136 rfl (lv_at hl 1 rfl) ?_
  refine lv_bipush (v := 10) hx hb dL_call_137 (by decide) ?_
  refine lv_icmp_ne (tgt := 150) hx hb dL_call_139 (by decide) (fun _ => ?_) (fun h => absurd h (by decide))
  refine lv_iload_n hx hb dL_call_150 rfl (lv_at hl 1 rfl) ?_
  refine lv_bipush (v := 11) hx hb dL_call_151 (by decide) ?_
  refine lv_icmp_ne (tgt := 164) hx hb dL_call_153 (by decide) (fun _ => ?_) (fun h => absurd h (by decide))
  refine lv_iload_n hx hb dL_call_164 rfl (lv_at hl 1 rfl) ?_
  refine lv_bipush (v := 12) hx hb dL_call_165 (by decide) ?_
  refine lv_icmp_ne (tgt := 179) hx hb dL_call_167 (by decide) (fun _ => ?_) (fun h => absurd h (by decide))
  refine lv_iload_n hx hb dL_call_179 rfl (lv_at hl 1 rfl) ?_
  refine lv_bipush (v := 13) hx hb dL_call_180 (by decide) ?_
  refine lv_icmp_ne (tgt := 194) hx hb dL_call_182 (by decide) (fun _ => ?_) (fun h => absurd h (by decide))
  refine lv_iload_n hx hb dL_call_194 rfl (lv_at hl 1 rfl) ?_
  refine lv_bipush (v := 14) hx hb dL_call_195 (by decide) ?_
  refine lv_icmp_ne (tgt := 208) hx hb dL_call_197 (by decide) (fun _ => ?_) (fun h => absurd h (by decide))
  refine lv_iload_n hx hb dL_call_208 rfl (lv_at hl 1 rfl) ?_
  refine lv_bipush (v := 15) hx hb dL_call_209 (by decide) ?_
  refine lv_icmp_ne (tgt := 222) hx hb dL_call_211 (by decide) (fun _ => ?_) (fun h => absurd h (by decide))
  refine lv_iload_n hx hb dL_call_222 rfl (lv_at hl 1 rfl) ?_
  refine lv_bipush (v := 16) hx hb dL_call_223 (by decide) ?_
  refine lv_icmp_ne (tgt := 237) hx hb dL_call_225 (by decide) (fun h => absurd rfl h) (fun _ => ?_)
  refine lv_aload_n hx hb dL_call_228 rfl (lv_at hl 0 rfl) ?_
  refine lv_iload_n hx hb dL_call_229 rfl (lv_at hl 2 rfl) ?_
  refine lv_iload_n hx hb dL_call_230 rfl (lv_at hl 3 rfl) ?_
  refine xcallW (vx_runV (As := [.int x2, .int x3]) (rest := []) S hM (cwV 2 hts (gd_V wd_607 wd_608 wd_609 wd_22 wd_610) rfl rfl rfl hd5_missed ⟨Nat.le_of_ble_eq_true rfl, Nat.le_of_ble_eq_true rfl⟩) (xPreV2 hK hX hZ hS hP hD (ci := 5) (q := (RX5, TX5, 3)) h0 rfl) rfl rfl hl.1 rfl (lv_room (Nat.le_of_ble_eq_true rfl)) dL_call_231 ⟨Nat.le_of_ble_eq_true rfl, Nat.le_of_ble_eq_true rfl⟩) hS hD (fun ce q9 H locs hk0 hP hS hce hcv hcl => ?_) (fun H locs hk0 hP hS => ?_)
  · by_cases h1 : k = 1
    · subst h1
      rw [cv_1]
      refine vx_catch (own := RL) (name := exn 1) (E := exn 1) hown [] ⟨0, 315, 316, 82⟩ [⟨0, 315, 321, 84⟩, ⟨0, 315, 326, 86⟩] (by rw [htab]; rfl) (fun z hz => absurd hz List.not_mem_nil) (by decide) (by decide) (hts _ wd_451) (cast_exn hX (by decide)) hce hcv hcl ?_
      refine lv_astore (lv' := [(5, .ref q9), (0, .ref aC), (1, .int (16 : Int32)), (2, .int x2), (3, .int x3), (4, .int x4)]) hx hb dL_call_316 hl (by decide) rfl (fun ls hl => ?_)
      refine lv_bipush (v := -11) hx hb dL_call_318 (by decide) ?_
      exact vreti (Nat.le_of_ble_eq_true rfl) (Nat.le_of_ble_eq_true rfl) hx hb hr hlocks hP hS dL_call_320
    by_cases h2 : k = 2
    · subst h2
      rw [cv_2]
      refine vx_catch (own := RL) (name := exn 2) (E := exn 2) hown [⟨0, 315, 316, 82⟩] ⟨0, 315, 321, 84⟩ [⟨0, 315, 326, 86⟩] (by rw [htab]; rfl) (fun z hz => by simp only [List.mem_cons, List.not_mem_nil, or_false] at hz; subst hz; exact Or.inr ⟨by decide, exn 1, (hts _ wd_451), hY 2 1 (by decide) (by decide) (by decide)⟩) (by decide) (by decide) (hts _ wd_452) (cast_exn hX (by decide)) hce hcv hcl ?_
      refine lv_astore (lv' := [(5, .ref q9), (0, .ref aC), (1, .int (16 : Int32)), (2, .int x2), (3, .int x3), (4, .int x4)]) hx hb dL_call_321 hl (by decide) rfl (fun ls hl => ?_)
      refine lv_bipush (v := -12) hx hb dL_call_323 (by decide) ?_
      exact vreti (Nat.le_of_ble_eq_true rfl) (Nat.le_of_ble_eq_true rfl) hx hb hr hlocks hP hS dL_call_325
    rw [cv_3 _ hk0 h1 h2]
    rw [exn_3 h1 h2] at hcl
    refine vx_catch (own := RL) (name := exn 3) (E := exn 3) hown [⟨0, 315, 316, 82⟩, ⟨0, 315, 321, 84⟩] ⟨0, 315, 326, 86⟩ [] (by rw [htab]; rfl) (fun z hz => by simp only [List.mem_cons, List.not_mem_nil, or_false] at hz; rcases hz with rfl | rfl; (exact Or.inr ⟨by decide, exn 1, (hts _ wd_451), hY 3 1 (by decide) (by decide) (by decide)⟩); (exact Or.inr ⟨by decide, exn 2, (hts _ wd_452), hY 3 2 (by decide) (by decide) (by decide)⟩)) (by decide) (by decide) (hts _ wd_453) (cast_exn hX (by decide)) hce hcv hcl ?_
    refine lv_astore (lv' := [(5, .ref q9), (0, .ref aC), (1, .int (16 : Int32)), (2, .int x2), (3, .int x3), (4, .int x4)]) hx hb dL_call_326 hl (by decide) rfl (fun ls hl => ?_)
    refine lv_bipush (v := -13) hx hb dL_call_328 (by decide) ?_
    exact vreti (Nat.le_of_ble_eq_true rfl) (Nat.le_of_ble_eq_true rfl) hx hb hr hlocks hP hS dL_call_330
  · subst hk0
    rw [cv_0]
    refine lv_goto (tgt := 315) hx hb dL_call_234 (by decide) ?_
    exact vreti (Nat.le_of_ble_eq_true rfl) (Nat.le_of_ble_eq_true rfl) hx hb hr hlocks hP hS dL_call_315
def FC_missed (st : ST) (x2 x3 x4 : Int32) : Option Int32 := bd2 (F_missed st x2 x3) (fun k r => some (cv k r))
theorem KT_missed (l : Launch) (hfl : l.stackTraces = false) (D : va_G) (cI cZ cS cJ : ClassId) (a : AD) (st : ST) (x2 x3 x4 : Int32) (r : Int32) (hF : FC_missed st x2 x3 x4 = some (r)) : Met l yL_call wsL_call rmL_call (wP D (gT cI cZ cS cJ) (WS cI cZ cS a st) [.ref a.1, .int (16 : Int32), .int x2, .int x3, .int x4]) (uQ D (some (.int r)) (uA (WS cI cZ cS a st)) (WS cI cZ cS a st)) 3 18 (uA (WS cI cZ cS a st)) := by
  obtain ⟨k, r0, h, e⟩ := bd2_at hF
  cases e
  exact KC_missed l D cI cZ cS cJ a.1 _ _ _ (WS_0 cI cZ cS a st) x2 x3 x4 k r0 (KS_missed l hfl D cI cZ cS cJ a st x2 x3 k r0 h)
set_option maxHeartbeats 1000000 in
set_option maxRecDepth 20000 in
theorem KC_weak (l : Launch) (D : va_G) (cI cZ cS cJ : ClassId) (aC : Nat) (X X' : va_W) (fs : List Value) (h0 : X[0]? = some (aC, .inr (5, fs))) (x2 x3 x4 : Int32) (k : Nat) (r : Int32) (hM : vx_Met l yX5_weak wsX5_weak rm5_weak (xP D (gT cI cZ cS cJ) X [.ref aC, .int x2, .int x3, .int x4]) (xQ D k (some (.int r)) (uA X) X') (xX D k (uA X) X') 1 6 (uA X)) : Met l yL_call wsL_call rmL_call (wP D (gT cI cZ cS cJ) X [.ref aC, .int (17 : Int32), .int x2, .int x3, .int x4]) (uQ D (some (.int (cv k r))) (uA X) X') 3 18 (uA X) := by
  refine va_MetW (cc := cL_call) (maxL := 6) (ret := (some .int)) (hh := hhL_call) (by decide) rfl ?_
  intro p e s m args below meth c s₁ B hml hv
  obtain ⟨⟨ha, hK, hP, hD0, hX, hZ⟩, hY⟩ := hv
  have hx := B.exec
  have hb := B.bytes
  have hr := B.returns
  have hlocks := B.notSynchronized
  have hcw : (Cond.codeWith yL_call cL_call 6 (some .int) hhL_call).before args s = true := atoms_spec (ws := wsL_call) B.pre _ List.mem_cons_self
  have htab : c.exceptionTable.toList = tableOf hhL_call := vx_table (x := yL_call) B hcw
  have hts : ∀ w ∈ lw_all, w.before args s = true := fun w h => atoms_spec (ws := wsL_call) B.pre w (List.mem_cons_of_mem _ h)
  have hown : s.vm.findClass RL = some m.cls := findClass_of_methodNamed B.named
  have S : CallFix p m c cL_call 6 s args lw_all RL := ⟨hx, hb, hml, hown, hts⟩
  have hD := hD0.own
  have hS : va_S (uA X) s.heap s.heap [] := va_S.rf
  have hl := lv_entry ([.ref aC, .int (17 : Int32), .int x2, .int x3, .int x4] : List Value) (n := 6) (Nat.le_of_ble_eq_true rfl)
  refine W.eq (g2 := F0 m 0 ((lg_sl ([.ref aC, .int (17 : Int32), .int x2, .int x3, .int x4] : List Value) ++ List.replicate (6 - (lg_sl ([.ref aC, .int (17 : Int32), .int x2, .int x3, .int x4] : List Value)).length) Slot.unset).toArray) []) (by rw [ha]; exact lg_entry_eq _ _ _) ?_
  generalize (lg_sl ([.ref aC, .int (17 : Int32), .int x2, .int x3, .int x4] : List Value) ++ List.replicate (6 - (lg_sl ([.ref aC, .int (17 : Int32), .int x2, .int x3, .int x4] : List Value)).length) Slot.unset).toArray = ls at hl ⊢
  have hl : lv_has ls 6 [(0, .ref aC), (1, .int (17 : Int32)), (2, .int x2), (3, .int x3), (4, .int x4)] := hl
  refine lv_iload_n hx hb dL_call_0 rfl (lv_at hl 1 rfl) ?_
  refine lv_if_ne (tgt := 13) hx hb dL_call_1 (by decide) (fun _ => ?_) (fun h => absurd h (by decide))
  refine lv_iload_n hx hb dL_call_13 rfl (lv_at hl 1 rfl) ?_
  refine lv_iconst (v := 1) hx hb dL_call_14 (by decide) ?_
  refine lv_icmp_ne (tgt := 26) hx hb dL_call_15 (by decide) (fun _ => ?_) (fun h => absurd h (by decide))
  refine lv_iload_n hx hb dL_call_26 rfl (lv_at hl 1 rfl) ?_
  refine lv_iconst (v := 2) hx hb dL_call_27 (by decide) ?_
  refine lv_icmp_ne (tgt := 40) hx hb dL_call_28 (by decide) (fun _ => ?_) (fun h => absurd h (by decide))
  refine lv_iload_n hx hb dL_call_40 rfl (lv_at hl 1 rfl) ?_
  refine lv_iconst (v := 3) hx hb dL_call_41 (by decide) ?_
  refine lv_icmp_ne (tgt := 54) hx hb dL_call_42 (by decide) (fun _ => ?_) (fun h => absurd h (by decide))
  refine lv_iload_n hx hb dL_call_54 rfl (lv_at hl 1 rfl) ?_
  refine lv_iconst (v := 4) hx hb dL_call_55 (by decide) ?_
  refine lv_icmp_ne (tgt := 68) hx hb dL_call_56 (by decide) (fun _ => ?_) (fun h => absurd h (by decide))
  refine lv_iload_n hx hb dL_call_68 rfl (lv_at hl 1 rfl) ?_
  refine lv_iconst (v := 5) hx hb dL_call_69 (by decide) ?_
  refine lv_icmp_ne (tgt := 82) hx hb dL_call_70 (by decide) (fun _ => ?_) (fun h => absurd h (by decide))
  refine lv_iload_n hx hb dL_call_82 rfl (lv_at hl 1 rfl) ?_
  refine lv_bipush (v := 6) hx hb dL_call_83 (by decide) ?_
  refine lv_icmp_ne (tgt := 96) hx hb dL_call_85 (by decide) (fun _ => ?_) (fun h => absurd h (by decide))
  refine lv_iload_n hx hb dL_call_96 rfl (lv_at hl 1 rfl) ?_
  refine lv_bipush (v := 7) hx hb dL_call_97 (by decide) ?_
  refine lv_icmp_ne (tgt := 109) hx hb dL_call_99 (by decide) (fun _ => ?_) (fun h => absurd h (by decide))
  refine lv_iload_n hx hb dL_call_109 rfl (lv_at hl 1 rfl) ?_
  refine lv_bipush (v := 8) hx hb dL_call_110 (by decide) ?_
  refine lv_icmp_ne (tgt := 122) hx hb dL_call_112 (by decide) (fun _ => ?_) (fun h => absurd h (by decide))
  refine lv_iload_n hx hb dL_call_122 rfl (lv_at hl 1 rfl) ?_
  refine lv_bipush (v := 9) hx hb dL_call_123 (by decide) ?_
  refine lv_icmp_ne (tgt := 136) hx hb dL_call_125 (by decide) (fun _ => ?_) (fun h => absurd h (by decide))
  refine lv_iload_n hx hb dL_call_136 rfl (lv_at hl 1 rfl) ?_
  refine lv_bipush (v := 10) hx hb dL_call_137 (by decide) ?_
  refine lv_icmp_ne (tgt := 150) hx hb dL_call_139 (by decide) (fun _ => ?_) (fun h => absurd h (by decide))
  refine lv_iload_n hx hb dL_call_150 rfl (lv_at hl 1 rfl) ?_
  refine lv_bipush (v := 11) hx hb dL_call_151 (by decide) ?_
  refine lv_icmp_ne (tgt := 164) hx hb dL_call_153 (by decide) (fun _ => ?_) (fun h => absurd h (by decide))
  refine lv_iload_n hx hb dL_call_164 rfl (lv_at hl 1 rfl) ?_
  refine lv_bipush (v := 12) hx hb dL_call_165 (by decide) ?_
  refine lv_icmp_ne (tgt := 179) hx hb dL_call_167 (by decide) (fun _ => ?_) (fun h => absurd h (by decide))
  refine lv_iload_n hx hb dL_call_179 rfl (lv_at hl 1 rfl) ?_
  refine lv_bipush (v := 13) hx hb dL_call_180 (by decide) ?_
  refine lv_icmp_ne (tgt := 194) hx hb dL_call_182 (by decide) (fun _ => ?_) (fun h => absurd h (by decide))
  refine lv_iload_n hx hb dL_call_194 rfl (lv_at hl 1 rfl) ?_
  refine lv_bipush (v := 14) hx hb dL_call_195 (by decide) ?_
  refine lv_icmp_ne (tgt := 208) hx hb dL_call_197 (by decide) (fun _ => ?_) (fun h => absurd h (by decide))
  refine lv_iload_n hx hb dL_call_208 rfl (lv_at hl 1 rfl) ?_
  refine lv_bipush (v := 15) hx hb dL_call_209 (by decide) ?_
  refine lv_icmp_ne (tgt := 222) hx hb dL_call_211 (by decide) (fun _ => ?_) (fun h => absurd h (by decide))
  refine lv_iload_n hx hb dL_call_222 rfl (lv_at hl 1 rfl) ?_
  refine lv_bipush (v := 16) hx hb dL_call_223 (by decide) ?_
  refine lv_icmp_ne (tgt := 237) hx hb dL_call_225 (by decide) (fun _ => ?_) (fun h => absurd h (by decide))
  refine lv_iload_n hx hb dL_call_237 rfl (lv_at hl 1 rfl) ?_
  refine lv_bipush (v := 17) hx hb dL_call_238 (by decide) ?_
  refine lv_icmp_ne (tgt := 254) hx hb dL_call_240 (by decide) (fun h => absurd rfl h) (fun _ => ?_)
  refine lv_aload_n hx hb dL_call_243 rfl (lv_at hl 0 rfl) ?_
  refine lv_iload_n hx hb dL_call_244 rfl (lv_at hl 2 rfl) ?_
  refine lv_iload_n hx hb dL_call_245 rfl (lv_at hl 3 rfl) ?_
  refine lv_iload hx hb dL_call_246 (lv_at hl 4 rfl) ?_
  refine xcallW (vx_runV (As := [.int x2, .int x3, .int x4]) (rest := []) S hM (cwV 3 hts (gd_V wd_634 wd_635 wd_636 wd_22 wd_637) rfl rfl rfl hd5_weak ⟨Nat.le_of_ble_eq_true rfl, Nat.le_of_ble_eq_true rfl⟩) (xPreV2 hK hX hZ hS hP hD (ci := 5) (q := (RX5, TX5, 3)) h0 rfl) rfl rfl hl.1 rfl (lv_room (Nat.le_of_ble_eq_true rfl)) dL_call_248 ⟨Nat.le_of_ble_eq_true rfl, Nat.le_of_ble_eq_true rfl⟩) hS hD (fun ce q9 H locs hk0 hP hS hce hcv hcl => ?_) (fun H locs hk0 hP hS => ?_)
  · by_cases h1 : k = 1
    · subst h1
      rw [cv_1]
      refine vx_catch (own := RL) (name := exn 1) (E := exn 1) hown [] ⟨0, 315, 316, 82⟩ [⟨0, 315, 321, 84⟩, ⟨0, 315, 326, 86⟩] (by rw [htab]; rfl) (fun z hz => absurd hz List.not_mem_nil) (by decide) (by decide) (hts _ wd_451) (cast_exn hX (by decide)) hce hcv hcl ?_
      refine lv_astore (lv' := [(5, .ref q9), (0, .ref aC), (1, .int (17 : Int32)), (2, .int x2), (3, .int x3), (4, .int x4)]) hx hb dL_call_316 hl (by decide) rfl (fun ls hl => ?_)
      refine lv_bipush (v := -11) hx hb dL_call_318 (by decide) ?_
      exact vreti (Nat.le_of_ble_eq_true rfl) (Nat.le_of_ble_eq_true rfl) hx hb hr hlocks hP hS dL_call_320
    by_cases h2 : k = 2
    · subst h2
      rw [cv_2]
      refine vx_catch (own := RL) (name := exn 2) (E := exn 2) hown [⟨0, 315, 316, 82⟩] ⟨0, 315, 321, 84⟩ [⟨0, 315, 326, 86⟩] (by rw [htab]; rfl) (fun z hz => by simp only [List.mem_cons, List.not_mem_nil, or_false] at hz; subst hz; exact Or.inr ⟨by decide, exn 1, (hts _ wd_451), hY 2 1 (by decide) (by decide) (by decide)⟩) (by decide) (by decide) (hts _ wd_452) (cast_exn hX (by decide)) hce hcv hcl ?_
      refine lv_astore (lv' := [(5, .ref q9), (0, .ref aC), (1, .int (17 : Int32)), (2, .int x2), (3, .int x3), (4, .int x4)]) hx hb dL_call_321 hl (by decide) rfl (fun ls hl => ?_)
      refine lv_bipush (v := -12) hx hb dL_call_323 (by decide) ?_
      exact vreti (Nat.le_of_ble_eq_true rfl) (Nat.le_of_ble_eq_true rfl) hx hb hr hlocks hP hS dL_call_325
    rw [cv_3 _ hk0 h1 h2]
    rw [exn_3 h1 h2] at hcl
    refine vx_catch (own := RL) (name := exn 3) (E := exn 3) hown [⟨0, 315, 316, 82⟩, ⟨0, 315, 321, 84⟩] ⟨0, 315, 326, 86⟩ [] (by rw [htab]; rfl) (fun z hz => by simp only [List.mem_cons, List.not_mem_nil, or_false] at hz; rcases hz with rfl | rfl; (exact Or.inr ⟨by decide, exn 1, (hts _ wd_451), hY 3 1 (by decide) (by decide) (by decide)⟩); (exact Or.inr ⟨by decide, exn 2, (hts _ wd_452), hY 3 2 (by decide) (by decide) (by decide)⟩)) (by decide) (by decide) (hts _ wd_453) (cast_exn hX (by decide)) hce hcv hcl ?_
    refine lv_astore (lv' := [(5, .ref q9), (0, .ref aC), (1, .int (17 : Int32)), (2, .int x2), (3, .int x3), (4, .int x4)]) hx hb dL_call_326 hl (by decide) rfl (fun ls hl => ?_)
    refine lv_bipush (v := -13) hx hb dL_call_328 (by decide) ?_
    exact vreti (Nat.le_of_ble_eq_true rfl) (Nat.le_of_ble_eq_true rfl) hx hb hr hlocks hP hS dL_call_330
  · subst hk0
    rw [cv_0]
    refine lv_goto (tgt := 315) hx hb dL_call_251 (by decide) ?_
    exact vreti (Nat.le_of_ble_eq_true rfl) (Nat.le_of_ble_eq_true rfl) hx hb hr hlocks hP hS dL_call_315
def FC_weak (st : ST) (x2 x3 x4 : Int32) : Option Int32 := bd2 (F_weak st x2 x3 x4) (fun k r => some (cv k r))
theorem KT_weak (l : Launch) (hfl : l.stackTraces = false) (D : va_G) (cI cZ cS cJ : ClassId) (a : AD) (st : ST) (x2 x3 x4 : Int32) (r : Int32) (hF : FC_weak st x2 x3 x4 = some (r)) : Met l yL_call wsL_call rmL_call (wP D (gT cI cZ cS cJ) (WS cI cZ cS a st) [.ref a.1, .int (17 : Int32), .int x2, .int x3, .int x4]) (uQ D (some (.int r)) (uA (WS cI cZ cS a st)) (WS cI cZ cS a st)) 3 18 (uA (WS cI cZ cS a st)) := by
  obtain ⟨k, r0, h, e⟩ := bd2_at hF
  cases e
  exact KC_weak l D cI cZ cS cJ a.1 _ _ _ (WS_0 cI cZ cS a st) x2 x3 x4 k r0 (KS_weak l hfl D cI cZ cS cJ a st x2 x3 x4 k r0 h)
set_option maxHeartbeats 1000000 in
set_option maxRecDepth 20000 in
theorem KC_bestWeight (l : Launch) (D : va_G) (cI cZ cS cJ : ClassId) (aC : Nat) (X X' : va_W) (fs : List Value) (h0 : X[0]? = some (aC, .inr (5, fs))) (x2 x3 x4 : Int32) (k : Nat) (r : Int32) (hM : vx_Met l yX5_bestWeight wsX5_bestWeight rm5_bestWeight (xP D (gT cI cZ cS cJ) X [.ref aC, .int x2]) (xQ D k (some (.int r)) (uA X) X') (xX D k (uA X) X') 1 6 (uA X)) : Met l yL_call wsL_call rmL_call (wP D (gT cI cZ cS cJ) X [.ref aC, .int (18 : Int32), .int x2, .int x3, .int x4]) (uQ D (some (.int (cv k r))) (uA X) X') 3 18 (uA X) := by
  refine va_MetW (cc := cL_call) (maxL := 6) (ret := (some .int)) (hh := hhL_call) (by decide) rfl ?_
  intro p e s m args below meth c s₁ B hml hv
  obtain ⟨⟨ha, hK, hP, hD0, hX, hZ⟩, hY⟩ := hv
  have hx := B.exec
  have hb := B.bytes
  have hr := B.returns
  have hlocks := B.notSynchronized
  have hcw : (Cond.codeWith yL_call cL_call 6 (some .int) hhL_call).before args s = true := atoms_spec (ws := wsL_call) B.pre _ List.mem_cons_self
  have htab : c.exceptionTable.toList = tableOf hhL_call := vx_table (x := yL_call) B hcw
  have hts : ∀ w ∈ lw_all, w.before args s = true := fun w h => atoms_spec (ws := wsL_call) B.pre w (List.mem_cons_of_mem _ h)
  have hown : s.vm.findClass RL = some m.cls := findClass_of_methodNamed B.named
  have S : CallFix p m c cL_call 6 s args lw_all RL := ⟨hx, hb, hml, hown, hts⟩
  have hD := hD0.own
  have hS : va_S (uA X) s.heap s.heap [] := va_S.rf
  have hl := lv_entry ([.ref aC, .int (18 : Int32), .int x2, .int x3, .int x4] : List Value) (n := 6) (Nat.le_of_ble_eq_true rfl)
  refine W.eq (g2 := F0 m 0 ((lg_sl ([.ref aC, .int (18 : Int32), .int x2, .int x3, .int x4] : List Value) ++ List.replicate (6 - (lg_sl ([.ref aC, .int (18 : Int32), .int x2, .int x3, .int x4] : List Value)).length) Slot.unset).toArray) []) (by rw [ha]; exact lg_entry_eq _ _ _) ?_
  generalize (lg_sl ([.ref aC, .int (18 : Int32), .int x2, .int x3, .int x4] : List Value) ++ List.replicate (6 - (lg_sl ([.ref aC, .int (18 : Int32), .int x2, .int x3, .int x4] : List Value)).length) Slot.unset).toArray = ls at hl ⊢
  have hl : lv_has ls 6 [(0, .ref aC), (1, .int (18 : Int32)), (2, .int x2), (3, .int x3), (4, .int x4)] := hl
  refine lv_iload_n hx hb dL_call_0 rfl (lv_at hl 1 rfl) ?_
  refine lv_if_ne (tgt := 13) hx hb dL_call_1 (by decide) (fun _ => ?_) (fun h => absurd h (by decide))
  refine lv_iload_n hx hb dL_call_13 rfl (lv_at hl 1 rfl) ?_
  refine lv_iconst (v := 1) hx hb dL_call_14 (by decide) ?_
  refine lv_icmp_ne (tgt := 26) hx hb dL_call_15 (by decide) (fun _ => ?_) (fun h => absurd h (by decide))
  refine lv_iload_n hx hb dL_call_26 rfl (lv_at hl 1 rfl) ?_
  refine lv_iconst (v := 2) hx hb dL_call_27 (by decide) ?_
  refine lv_icmp_ne (tgt := 40) hx hb dL_call_28 (by decide) (fun _ => ?_) (fun h => absurd h (by decide))
  refine lv_iload_n hx hb dL_call_40 rfl (lv_at hl 1 rfl) ?_
  refine lv_iconst (v := 3) hx hb dL_call_41 (by decide) ?_
  refine lv_icmp_ne (tgt := 54) hx hb dL_call_42 (by decide) (fun _ => ?_) (fun h => absurd h (by decide))
  refine lv_iload_n hx hb dL_call_54 rfl (lv_at hl 1 rfl) ?_
  refine lv_iconst (v := 4) hx hb dL_call_55 (by decide) ?_
  refine lv_icmp_ne (tgt := 68) hx hb dL_call_56 (by decide) (fun _ => ?_) (fun h => absurd h (by decide))
  refine lv_iload_n hx hb dL_call_68 rfl (lv_at hl 1 rfl) ?_
  refine lv_iconst (v := 5) hx hb dL_call_69 (by decide) ?_
  refine lv_icmp_ne (tgt := 82) hx hb dL_call_70 (by decide) (fun _ => ?_) (fun h => absurd h (by decide))
  refine lv_iload_n hx hb dL_call_82 rfl (lv_at hl 1 rfl) ?_
  refine lv_bipush (v := 6) hx hb dL_call_83 (by decide) ?_
  refine lv_icmp_ne (tgt := 96) hx hb dL_call_85 (by decide) (fun _ => ?_) (fun h => absurd h (by decide))
  refine lv_iload_n hx hb dL_call_96 rfl (lv_at hl 1 rfl) ?_
  refine lv_bipush (v := 7) hx hb dL_call_97 (by decide) ?_
  refine lv_icmp_ne (tgt := 109) hx hb dL_call_99 (by decide) (fun _ => ?_) (fun h => absurd h (by decide))
  refine lv_iload_n hx hb dL_call_109 rfl (lv_at hl 1 rfl) ?_
  refine lv_bipush (v := 8) hx hb dL_call_110 (by decide) ?_
  refine lv_icmp_ne (tgt := 122) hx hb dL_call_112 (by decide) (fun _ => ?_) (fun h => absurd h (by decide))
  refine lv_iload_n hx hb dL_call_122 rfl (lv_at hl 1 rfl) ?_
  refine lv_bipush (v := 9) hx hb dL_call_123 (by decide) ?_
  refine lv_icmp_ne (tgt := 136) hx hb dL_call_125 (by decide) (fun _ => ?_) (fun h => absurd h (by decide))
  refine lv_iload_n hx hb dL_call_136 rfl (lv_at hl 1 rfl) ?_
  refine lv_bipush (v := 10) hx hb dL_call_137 (by decide) ?_
  refine lv_icmp_ne (tgt := 150) hx hb dL_call_139 (by decide) (fun _ => ?_) (fun h => absurd h (by decide))
  refine lv_iload_n hx hb dL_call_150 rfl (lv_at hl 1 rfl) ?_
  refine lv_bipush (v := 11) hx hb dL_call_151 (by decide) ?_
  refine lv_icmp_ne (tgt := 164) hx hb dL_call_153 (by decide) (fun _ => ?_) (fun h => absurd h (by decide))
  refine lv_iload_n hx hb dL_call_164 rfl (lv_at hl 1 rfl) ?_
  refine lv_bipush (v := 12) hx hb dL_call_165 (by decide) ?_
  refine lv_icmp_ne (tgt := 179) hx hb dL_call_167 (by decide) (fun _ => ?_) (fun h => absurd h (by decide))
  refine lv_iload_n hx hb dL_call_179 rfl (lv_at hl 1 rfl) ?_
  refine lv_bipush (v := 13) hx hb dL_call_180 (by decide) ?_
  refine lv_icmp_ne (tgt := 194) hx hb dL_call_182 (by decide) (fun _ => ?_) (fun h => absurd h (by decide))
  refine lv_iload_n hx hb dL_call_194 rfl (lv_at hl 1 rfl) ?_
  refine lv_bipush (v := 14) hx hb dL_call_195 (by decide) ?_
  refine lv_icmp_ne (tgt := 208) hx hb dL_call_197 (by decide) (fun _ => ?_) (fun h => absurd h (by decide))
  refine lv_iload_n hx hb dL_call_208 rfl (lv_at hl 1 rfl) ?_
  refine lv_bipush (v := 15) hx hb dL_call_209 (by decide) ?_
  refine lv_icmp_ne (tgt := 222) hx hb dL_call_211 (by decide) (fun _ => ?_) (fun h => absurd h (by decide))
  refine lv_iload_n hx hb dL_call_222 rfl (lv_at hl 1 rfl) ?_
  refine lv_bipush (v := 16) hx hb dL_call_223 (by decide) ?_
  refine lv_icmp_ne (tgt := 237) hx hb dL_call_225 (by decide) (fun _ => ?_) (fun h => absurd h (by decide))
  refine lv_iload_n hx hb dL_call_237 rfl (lv_at hl 1 rfl) ?_
  refine lv_bipush (v := 17) hx hb dL_call_238 (by decide) ?_
  refine lv_icmp_ne (tgt := 254) hx hb dL_call_240 (by decide) (fun _ => ?_) (fun h => absurd h (by decide))
  refine lv_iload_n hx hb dL_call_254 rfl (lv_at hl 1 rfl) ?_
  refine lv_bipush (v := 18) hx hb dL_call_255 (by decide) ?_
  refine lv_icmp_ne (tgt := 268) hx hb dL_call_257 (by decide) (fun h => absurd rfl h) (fun _ => ?_)
  refine lv_aload_n hx hb dL_call_260 rfl (lv_at hl 0 rfl) ?_
  refine lv_iload_n hx hb dL_call_261 rfl (lv_at hl 2 rfl) ?_
  refine xcallW (vx_runV (As := [.int x2]) (rest := []) S hM (cwV 1 hts (gd_V wd_651 wd_652 wd_653 wd_22 wd_654) rfl rfl rfl hd5_bestWeight ⟨Nat.le_of_ble_eq_true rfl, Nat.le_of_ble_eq_true rfl⟩) (xPreV2 hK hX hZ hS hP hD (ci := 5) (q := (RX5, TX5, 3)) h0 rfl) rfl rfl hl.1 rfl (lv_room (Nat.le_of_ble_eq_true rfl)) dL_call_262 ⟨Nat.le_of_ble_eq_true rfl, Nat.le_of_ble_eq_true rfl⟩) hS hD (fun ce q9 H locs hk0 hP hS hce hcv hcl => ?_) (fun H locs hk0 hP hS => ?_)
  · by_cases h1 : k = 1
    · subst h1
      rw [cv_1]
      refine vx_catch (own := RL) (name := exn 1) (E := exn 1) hown [] ⟨0, 315, 316, 82⟩ [⟨0, 315, 321, 84⟩, ⟨0, 315, 326, 86⟩] (by rw [htab]; rfl) (fun z hz => absurd hz List.not_mem_nil) (by decide) (by decide) (hts _ wd_451) (cast_exn hX (by decide)) hce hcv hcl ?_
      refine lv_astore (lv' := [(5, .ref q9), (0, .ref aC), (1, .int (18 : Int32)), (2, .int x2), (3, .int x3), (4, .int x4)]) hx hb dL_call_316 hl (by decide) rfl (fun ls hl => ?_)
      refine lv_bipush (v := -11) hx hb dL_call_318 (by decide) ?_
      exact vreti (Nat.le_of_ble_eq_true rfl) (Nat.le_of_ble_eq_true rfl) hx hb hr hlocks hP hS dL_call_320
    by_cases h2 : k = 2
    · subst h2
      rw [cv_2]
      refine vx_catch (own := RL) (name := exn 2) (E := exn 2) hown [⟨0, 315, 316, 82⟩] ⟨0, 315, 321, 84⟩ [⟨0, 315, 326, 86⟩] (by rw [htab]; rfl) (fun z hz => by simp only [List.mem_cons, List.not_mem_nil, or_false] at hz; subst hz; exact Or.inr ⟨by decide, exn 1, (hts _ wd_451), hY 2 1 (by decide) (by decide) (by decide)⟩) (by decide) (by decide) (hts _ wd_452) (cast_exn hX (by decide)) hce hcv hcl ?_
      refine lv_astore (lv' := [(5, .ref q9), (0, .ref aC), (1, .int (18 : Int32)), (2, .int x2), (3, .int x3), (4, .int x4)]) hx hb dL_call_321 hl (by decide) rfl (fun ls hl => ?_)
      refine lv_bipush (v := -12) hx hb dL_call_323 (by decide) ?_
      exact vreti (Nat.le_of_ble_eq_true rfl) (Nat.le_of_ble_eq_true rfl) hx hb hr hlocks hP hS dL_call_325
    rw [cv_3 _ hk0 h1 h2]
    rw [exn_3 h1 h2] at hcl
    refine vx_catch (own := RL) (name := exn 3) (E := exn 3) hown [⟨0, 315, 316, 82⟩, ⟨0, 315, 321, 84⟩] ⟨0, 315, 326, 86⟩ [] (by rw [htab]; rfl) (fun z hz => by simp only [List.mem_cons, List.not_mem_nil, or_false] at hz; rcases hz with rfl | rfl; (exact Or.inr ⟨by decide, exn 1, (hts _ wd_451), hY 3 1 (by decide) (by decide) (by decide)⟩); (exact Or.inr ⟨by decide, exn 2, (hts _ wd_452), hY 3 2 (by decide) (by decide) (by decide)⟩)) (by decide) (by decide) (hts _ wd_453) (cast_exn hX (by decide)) hce hcv hcl ?_
    refine lv_astore (lv' := [(5, .ref q9), (0, .ref aC), (1, .int (18 : Int32)), (2, .int x2), (3, .int x3), (4, .int x4)]) hx hb dL_call_326 hl (by decide) rfl (fun ls hl => ?_)
    refine lv_bipush (v := -13) hx hb dL_call_328 (by decide) ?_
    exact vreti (Nat.le_of_ble_eq_true rfl) (Nat.le_of_ble_eq_true rfl) hx hb hr hlocks hP hS dL_call_330
  · subst hk0
    rw [cv_0]
    refine lv_goto (tgt := 315) hx hb dL_call_265 (by decide) ?_
    exact vreti (Nat.le_of_ble_eq_true rfl) (Nat.le_of_ble_eq_true rfl) hx hb hr hlocks hP hS dL_call_315
def FC_bestWeight (st : ST) (x2 x3 x4 : Int32) : Option Int32 := bd2 (F_bestWeight st x2) (fun k r => some (cv k r))
theorem KT_bestWeight (l : Launch) (hfl : l.stackTraces = false) (D : va_G) (cI cZ cS cJ : ClassId) (a : AD) (st : ST) (x2 x3 x4 : Int32) (r : Int32) (hF : FC_bestWeight st x2 x3 x4 = some (r)) : Met l yL_call wsL_call rmL_call (wP D (gT cI cZ cS cJ) (WS cI cZ cS a st) [.ref a.1, .int (18 : Int32), .int x2, .int x3, .int x4]) (uQ D (some (.int r)) (uA (WS cI cZ cS a st)) (WS cI cZ cS a st)) 3 18 (uA (WS cI cZ cS a st)) := by
  obtain ⟨k, r0, h, e⟩ := bd2_at hF
  cases e
  exact KC_bestWeight l D cI cZ cS cJ a.1 _ _ _ (WS_0 cI cZ cS a st) x2 x3 x4 k r0 (KS_bestWeight l hfl D cI cZ cS cJ a st x2 k r0 h)
set_option maxHeartbeats 1000000 in
set_option maxRecDepth 20000 in
theorem KC_meant (l : Launch) (D : va_G) (cI cZ cS cJ : ClassId) (aC : Nat) (X X' : va_W) (fs : List Value) (h0 : X[0]? = some (aC, .inr (5, fs))) (x2 x3 x4 : Int32) (k : Nat) (r : Int32) (hM : vx_Met l yX5_meant wsX5_meant rm5_meant (xP D (gT cI cZ cS cJ) X [.ref aC, .int x2, .int x3, .int x4]) (xQ D k (some (.int r)) (uA X) X') (xX D k (uA X) X') 3 18 (uA X)) : Met l yL_call wsL_call rmL_call (wP D (gT cI cZ cS cJ) X [.ref aC, .int (19 : Int32), .int x2, .int x3, .int x4]) (uQ D (some (.int (cv k r))) (uA X) X') 3 18 (uA X) := by
  refine va_MetW (cc := cL_call) (maxL := 6) (ret := (some .int)) (hh := hhL_call) (by decide) rfl ?_
  intro p e s m args below meth c s₁ B hml hv
  obtain ⟨⟨ha, hK, hP, hD0, hX, hZ⟩, hY⟩ := hv
  have hx := B.exec
  have hb := B.bytes
  have hr := B.returns
  have hlocks := B.notSynchronized
  have hcw : (Cond.codeWith yL_call cL_call 6 (some .int) hhL_call).before args s = true := atoms_spec (ws := wsL_call) B.pre _ List.mem_cons_self
  have htab : c.exceptionTable.toList = tableOf hhL_call := vx_table (x := yL_call) B hcw
  have hts : ∀ w ∈ lw_all, w.before args s = true := fun w h => atoms_spec (ws := wsL_call) B.pre w (List.mem_cons_of_mem _ h)
  have hown : s.vm.findClass RL = some m.cls := findClass_of_methodNamed B.named
  have S : CallFix p m c cL_call 6 s args lw_all RL := ⟨hx, hb, hml, hown, hts⟩
  have hD := hD0.own
  have hS : va_S (uA X) s.heap s.heap [] := va_S.rf
  have hl := lv_entry ([.ref aC, .int (19 : Int32), .int x2, .int x3, .int x4] : List Value) (n := 6) (Nat.le_of_ble_eq_true rfl)
  refine W.eq (g2 := F0 m 0 ((lg_sl ([.ref aC, .int (19 : Int32), .int x2, .int x3, .int x4] : List Value) ++ List.replicate (6 - (lg_sl ([.ref aC, .int (19 : Int32), .int x2, .int x3, .int x4] : List Value)).length) Slot.unset).toArray) []) (by rw [ha]; exact lg_entry_eq _ _ _) ?_
  generalize (lg_sl ([.ref aC, .int (19 : Int32), .int x2, .int x3, .int x4] : List Value) ++ List.replicate (6 - (lg_sl ([.ref aC, .int (19 : Int32), .int x2, .int x3, .int x4] : List Value)).length) Slot.unset).toArray = ls at hl ⊢
  have hl : lv_has ls 6 [(0, .ref aC), (1, .int (19 : Int32)), (2, .int x2), (3, .int x3), (4, .int x4)] := hl
  refine lv_iload_n hx hb dL_call_0 rfl (lv_at hl 1 rfl) ?_
  refine lv_if_ne (tgt := 13) hx hb dL_call_1 (by decide) (fun _ => ?_) (fun h => absurd h (by decide))
  refine lv_iload_n hx hb dL_call_13 rfl (lv_at hl 1 rfl) ?_
  refine lv_iconst (v := 1) hx hb dL_call_14 (by decide) ?_
  refine lv_icmp_ne (tgt := 26) hx hb dL_call_15 (by decide) (fun _ => ?_) (fun h => absurd h (by decide))
  refine lv_iload_n hx hb dL_call_26 rfl (lv_at hl 1 rfl) ?_
  refine lv_iconst (v := 2) hx hb dL_call_27 (by decide) ?_
  refine lv_icmp_ne (tgt := 40) hx hb dL_call_28 (by decide) (fun _ => ?_) (fun h => absurd h (by decide))
  refine lv_iload_n hx hb dL_call_40 rfl (lv_at hl 1 rfl) ?_
  refine lv_iconst (v := 3) hx hb dL_call_41 (by decide) ?_
  refine lv_icmp_ne (tgt := 54) hx hb dL_call_42 (by decide) (fun _ => ?_) (fun h => absurd h (by decide))
  refine lv_iload_n hx hb dL_call_54 rfl (lv_at hl 1 rfl) ?_
  refine lv_iconst (v := 4) hx hb dL_call_55 (by decide) ?_
  refine lv_icmp_ne (tgt := 68) hx hb dL_call_56 (by decide) (fun _ => ?_) (fun h => absurd h (by decide))
  refine lv_iload_n hx hb dL_call_68 rfl (lv_at hl 1 rfl) ?_
  refine lv_iconst (v := 5) hx hb dL_call_69 (by decide) ?_
  refine lv_icmp_ne (tgt := 82) hx hb dL_call_70 (by decide) (fun _ => ?_) (fun h => absurd h (by decide))
  refine lv_iload_n hx hb dL_call_82 rfl (lv_at hl 1 rfl) ?_
  refine lv_bipush (v := 6) hx hb dL_call_83 (by decide) ?_
  refine lv_icmp_ne (tgt := 96) hx hb dL_call_85 (by decide) (fun _ => ?_) (fun h => absurd h (by decide))
  refine lv_iload_n hx hb dL_call_96 rfl (lv_at hl 1 rfl) ?_
  refine lv_bipush (v := 7) hx hb dL_call_97 (by decide) ?_
  refine lv_icmp_ne (tgt := 109) hx hb dL_call_99 (by decide) (fun _ => ?_) (fun h => absurd h (by decide))
  refine lv_iload_n hx hb dL_call_109 rfl (lv_at hl 1 rfl) ?_
  refine lv_bipush (v := 8) hx hb dL_call_110 (by decide) ?_
  refine lv_icmp_ne (tgt := 122) hx hb dL_call_112 (by decide) (fun _ => ?_) (fun h => absurd h (by decide))
  refine lv_iload_n hx hb dL_call_122 rfl (lv_at hl 1 rfl) ?_
  refine lv_bipush (v := 9) hx hb dL_call_123 (by decide) ?_
  refine lv_icmp_ne (tgt := 136) hx hb dL_call_125 (by decide) (fun _ => ?_) (fun h => absurd h (by decide))
  refine lv_iload_n hx hb dL_call_136 rfl (lv_at hl 1 rfl) ?_
  refine lv_bipush (v := 10) hx hb dL_call_137 (by decide) ?_
  refine lv_icmp_ne (tgt := 150) hx hb dL_call_139 (by decide) (fun _ => ?_) (fun h => absurd h (by decide))
  refine lv_iload_n hx hb dL_call_150 rfl (lv_at hl 1 rfl) ?_
  refine lv_bipush (v := 11) hx hb dL_call_151 (by decide) ?_
  refine lv_icmp_ne (tgt := 164) hx hb dL_call_153 (by decide) (fun _ => ?_) (fun h => absurd h (by decide))
  refine lv_iload_n hx hb dL_call_164 rfl (lv_at hl 1 rfl) ?_
  refine lv_bipush (v := 12) hx hb dL_call_165 (by decide) ?_
  refine lv_icmp_ne (tgt := 179) hx hb dL_call_167 (by decide) (fun _ => ?_) (fun h => absurd h (by decide))
  refine lv_iload_n hx hb dL_call_179 rfl (lv_at hl 1 rfl) ?_
  refine lv_bipush (v := 13) hx hb dL_call_180 (by decide) ?_
  refine lv_icmp_ne (tgt := 194) hx hb dL_call_182 (by decide) (fun _ => ?_) (fun h => absurd h (by decide))
  refine lv_iload_n hx hb dL_call_194 rfl (lv_at hl 1 rfl) ?_
  refine lv_bipush (v := 14) hx hb dL_call_195 (by decide) ?_
  refine lv_icmp_ne (tgt := 208) hx hb dL_call_197 (by decide) (fun _ => ?_) (fun h => absurd h (by decide))
  refine lv_iload_n hx hb dL_call_208 rfl (lv_at hl 1 rfl) ?_
  refine lv_bipush (v := 15) hx hb dL_call_209 (by decide) ?_
  refine lv_icmp_ne (tgt := 222) hx hb dL_call_211 (by decide) (fun _ => ?_) (fun h => absurd h (by decide))
  refine lv_iload_n hx hb dL_call_222 rfl (lv_at hl 1 rfl) ?_
  refine lv_bipush (v := 16) hx hb dL_call_223 (by decide) ?_
  refine lv_icmp_ne (tgt := 237) hx hb dL_call_225 (by decide) (fun _ => ?_) (fun h => absurd h (by decide))
  refine lv_iload_n hx hb dL_call_237 rfl (lv_at hl 1 rfl) ?_
  refine lv_bipush (v := 17) hx hb dL_call_238 (by decide) ?_
  refine lv_icmp_ne (tgt := 254) hx hb dL_call_240 (by decide) (fun _ => ?_) (fun h => absurd h (by decide))
  refine lv_iload_n hx hb dL_call_254 rfl (lv_at hl 1 rfl) ?_
  refine lv_bipush (v := 18) hx hb dL_call_255 (by decide) ?_
  refine lv_icmp_ne (tgt := 268) hx hb dL_call_257 (by decide) (fun _ => ?_) (fun h => absurd h (by decide))
  refine lv_iload_n hx hb dL_call_268 rfl (lv_at hl 1 rfl) ?_
  refine lv_bipush (v := 19) hx hb dL_call_269 (by decide) ?_
  refine lv_icmp_ne (tgt := 285) hx hb dL_call_271 (by decide) (fun h => absurd rfl h) (fun _ => ?_)
  refine lv_aload_n hx hb dL_call_274 rfl (lv_at hl 0 rfl) ?_
  refine lv_iload_n hx hb dL_call_275 rfl (lv_at hl 2 rfl) ?_
  refine lv_iload_n hx hb dL_call_276 rfl (lv_at hl 3 rfl) ?_
  refine lv_iload hx hb dL_call_277 (lv_at hl 4 rfl) ?_
  refine xcallW (vx_runV (As := [.int x2, .int x3, .int x4]) (rest := []) S hM (cwV 3 hts (gd_V wd_660 wd_661 wd_662 wd_22 wd_663) rfl rfl rfl hd5_meant ⟨Nat.le_of_ble_eq_true rfl, Nat.le_of_ble_eq_true rfl⟩) (xPreV2 hK hX hZ hS hP hD (ci := 5) (q := (RX5, TX5, 3)) h0 rfl) rfl rfl hl.1 rfl (lv_room (Nat.le_of_ble_eq_true rfl)) dL_call_279 ⟨Nat.le_of_ble_eq_true rfl, Nat.le_of_ble_eq_true rfl⟩) hS hD (fun ce q9 H locs hk0 hP hS hce hcv hcl => ?_) (fun H locs hk0 hP hS => ?_)
  · by_cases h1 : k = 1
    · subst h1
      rw [cv_1]
      refine vx_catch (own := RL) (name := exn 1) (E := exn 1) hown [] ⟨0, 315, 316, 82⟩ [⟨0, 315, 321, 84⟩, ⟨0, 315, 326, 86⟩] (by rw [htab]; rfl) (fun z hz => absurd hz List.not_mem_nil) (by decide) (by decide) (hts _ wd_451) (cast_exn hX (by decide)) hce hcv hcl ?_
      refine lv_astore (lv' := [(5, .ref q9), (0, .ref aC), (1, .int (19 : Int32)), (2, .int x2), (3, .int x3), (4, .int x4)]) hx hb dL_call_316 hl (by decide) rfl (fun ls hl => ?_)
      refine lv_bipush (v := -11) hx hb dL_call_318 (by decide) ?_
      exact vreti (Nat.le_of_ble_eq_true rfl) (Nat.le_of_ble_eq_true rfl) hx hb hr hlocks hP hS dL_call_320
    by_cases h2 : k = 2
    · subst h2
      rw [cv_2]
      refine vx_catch (own := RL) (name := exn 2) (E := exn 2) hown [⟨0, 315, 316, 82⟩] ⟨0, 315, 321, 84⟩ [⟨0, 315, 326, 86⟩] (by rw [htab]; rfl) (fun z hz => by simp only [List.mem_cons, List.not_mem_nil, or_false] at hz; subst hz; exact Or.inr ⟨by decide, exn 1, (hts _ wd_451), hY 2 1 (by decide) (by decide) (by decide)⟩) (by decide) (by decide) (hts _ wd_452) (cast_exn hX (by decide)) hce hcv hcl ?_
      refine lv_astore (lv' := [(5, .ref q9), (0, .ref aC), (1, .int (19 : Int32)), (2, .int x2), (3, .int x3), (4, .int x4)]) hx hb dL_call_321 hl (by decide) rfl (fun ls hl => ?_)
      refine lv_bipush (v := -12) hx hb dL_call_323 (by decide) ?_
      exact vreti (Nat.le_of_ble_eq_true rfl) (Nat.le_of_ble_eq_true rfl) hx hb hr hlocks hP hS dL_call_325
    rw [cv_3 _ hk0 h1 h2]
    rw [exn_3 h1 h2] at hcl
    refine vx_catch (own := RL) (name := exn 3) (E := exn 3) hown [⟨0, 315, 316, 82⟩, ⟨0, 315, 321, 84⟩] ⟨0, 315, 326, 86⟩ [] (by rw [htab]; rfl) (fun z hz => by simp only [List.mem_cons, List.not_mem_nil, or_false] at hz; rcases hz with rfl | rfl; (exact Or.inr ⟨by decide, exn 1, (hts _ wd_451), hY 3 1 (by decide) (by decide) (by decide)⟩); (exact Or.inr ⟨by decide, exn 2, (hts _ wd_452), hY 3 2 (by decide) (by decide) (by decide)⟩)) (by decide) (by decide) (hts _ wd_453) (cast_exn hX (by decide)) hce hcv hcl ?_
    refine lv_astore (lv' := [(5, .ref q9), (0, .ref aC), (1, .int (19 : Int32)), (2, .int x2), (3, .int x3), (4, .int x4)]) hx hb dL_call_326 hl (by decide) rfl (fun ls hl => ?_)
    refine lv_bipush (v := -13) hx hb dL_call_328 (by decide) ?_
    exact vreti (Nat.le_of_ble_eq_true rfl) (Nat.le_of_ble_eq_true rfl) hx hb hr hlocks hP hS dL_call_330
  · subst hk0
    rw [cv_0]
    refine lv_goto (tgt := 315) hx hb dL_call_282 (by decide) ?_
    exact vreti (Nat.le_of_ble_eq_true rfl) (Nat.le_of_ble_eq_true rfl) hx hb hr hlocks hP hS dL_call_315
def FC_meant (st : ST) (x2 x3 x4 : Int32) : Option Int32 := bd2 (F_meant st x2 x3 x4) (fun k r => some (cv k r))
theorem KT_meant (l : Launch) (hfl : l.stackTraces = false) (D : va_G) (cI cZ cS cJ : ClassId) (a : AD) (st : ST) (x2 x3 x4 : Int32) (r : Int32) (hF : FC_meant st x2 x3 x4 = some (r)) : Met l yL_call wsL_call rmL_call (wP D (gT cI cZ cS cJ) (WS cI cZ cS a st) [.ref a.1, .int (19 : Int32), .int x2, .int x3, .int x4]) (uQ D (some (.int r)) (uA (WS cI cZ cS a st)) (WS cI cZ cS a st)) 3 18 (uA (WS cI cZ cS a st)) := by
  obtain ⟨k, r0, h, e⟩ := bd2_at hF
  cases e
  exact KC_meant l D cI cZ cS cJ a.1 _ _ _ (WS_0 cI cZ cS a st) x2 x3 x4 k r0 (KS_meant l hfl D cI cZ cS cJ a st x2 x3 x4 k r0 h)
set_option maxHeartbeats 1000000 in
set_option maxRecDepth 20000 in
theorem KC_slip (l : Launch) (D : va_G) (cI cZ cS cJ : ClassId) (aC : Nat) (X X' : va_W) (fs : List Value) (h0 : X[0]? = some (aC, .inr (5, fs))) (x2 x3 x4 : Int32) (k : Nat) (r : Int32) (hM : vx_Met l yX5_slip wsX5_slip rm5_slip (xP D (gT cI cZ cS cJ) X [.ref aC, .int x2, .int x3, .int x4]) (xQ D k (some (.int r)) (uA X) X') (xX D k (uA X) X') 3 18 (uA X)) : Met l yL_call wsL_call rmL_call (wP D (gT cI cZ cS cJ) X [.ref aC, .int (20 : Int32), .int x2, .int x3, .int x4]) (uQ D (some (.int (cv k r))) (uA X) X') 3 18 (uA X) := by
  refine va_MetW (cc := cL_call) (maxL := 6) (ret := (some .int)) (hh := hhL_call) (by decide) rfl ?_
  intro p e s m args below meth c s₁ B hml hv
  obtain ⟨⟨ha, hK, hP, hD0, hX, hZ⟩, hY⟩ := hv
  have hx := B.exec
  have hb := B.bytes
  have hr := B.returns
  have hlocks := B.notSynchronized
  have hcw : (Cond.codeWith yL_call cL_call 6 (some .int) hhL_call).before args s = true := atoms_spec (ws := wsL_call) B.pre _ List.mem_cons_self
  have htab : c.exceptionTable.toList = tableOf hhL_call := vx_table (x := yL_call) B hcw
  have hts : ∀ w ∈ lw_all, w.before args s = true := fun w h => atoms_spec (ws := wsL_call) B.pre w (List.mem_cons_of_mem _ h)
  have hown : s.vm.findClass RL = some m.cls := findClass_of_methodNamed B.named
  have S : CallFix p m c cL_call 6 s args lw_all RL := ⟨hx, hb, hml, hown, hts⟩
  have hD := hD0.own
  have hS : va_S (uA X) s.heap s.heap [] := va_S.rf
  have hl := lv_entry ([.ref aC, .int (20 : Int32), .int x2, .int x3, .int x4] : List Value) (n := 6) (Nat.le_of_ble_eq_true rfl)
  refine W.eq (g2 := F0 m 0 ((lg_sl ([.ref aC, .int (20 : Int32), .int x2, .int x3, .int x4] : List Value) ++ List.replicate (6 - (lg_sl ([.ref aC, .int (20 : Int32), .int x2, .int x3, .int x4] : List Value)).length) Slot.unset).toArray) []) (by rw [ha]; exact lg_entry_eq _ _ _) ?_
  generalize (lg_sl ([.ref aC, .int (20 : Int32), .int x2, .int x3, .int x4] : List Value) ++ List.replicate (6 - (lg_sl ([.ref aC, .int (20 : Int32), .int x2, .int x3, .int x4] : List Value)).length) Slot.unset).toArray = ls at hl ⊢
  have hl : lv_has ls 6 [(0, .ref aC), (1, .int (20 : Int32)), (2, .int x2), (3, .int x3), (4, .int x4)] := hl
  refine lv_iload_n hx hb dL_call_0 rfl (lv_at hl 1 rfl) ?_
  refine lv_if_ne (tgt := 13) hx hb dL_call_1 (by decide) (fun _ => ?_) (fun h => absurd h (by decide))
  refine lv_iload_n hx hb dL_call_13 rfl (lv_at hl 1 rfl) ?_
  refine lv_iconst (v := 1) hx hb dL_call_14 (by decide) ?_
  refine lv_icmp_ne (tgt := 26) hx hb dL_call_15 (by decide) (fun _ => ?_) (fun h => absurd h (by decide))
  refine lv_iload_n hx hb dL_call_26 rfl (lv_at hl 1 rfl) ?_
  refine lv_iconst (v := 2) hx hb dL_call_27 (by decide) ?_
  refine lv_icmp_ne (tgt := 40) hx hb dL_call_28 (by decide) (fun _ => ?_) (fun h => absurd h (by decide))
  refine lv_iload_n hx hb dL_call_40 rfl (lv_at hl 1 rfl) ?_
  refine lv_iconst (v := 3) hx hb dL_call_41 (by decide) ?_
  refine lv_icmp_ne (tgt := 54) hx hb dL_call_42 (by decide) (fun _ => ?_) (fun h => absurd h (by decide))
  refine lv_iload_n hx hb dL_call_54 rfl (lv_at hl 1 rfl) ?_
  refine lv_iconst (v := 4) hx hb dL_call_55 (by decide) ?_
  refine lv_icmp_ne (tgt := 68) hx hb dL_call_56 (by decide) (fun _ => ?_) (fun h => absurd h (by decide))
  refine lv_iload_n hx hb dL_call_68 rfl (lv_at hl 1 rfl) ?_
  refine lv_iconst (v := 5) hx hb dL_call_69 (by decide) ?_
  refine lv_icmp_ne (tgt := 82) hx hb dL_call_70 (by decide) (fun _ => ?_) (fun h => absurd h (by decide))
  refine lv_iload_n hx hb dL_call_82 rfl (lv_at hl 1 rfl) ?_
  refine lv_bipush (v := 6) hx hb dL_call_83 (by decide) ?_
  refine lv_icmp_ne (tgt := 96) hx hb dL_call_85 (by decide) (fun _ => ?_) (fun h => absurd h (by decide))
  refine lv_iload_n hx hb dL_call_96 rfl (lv_at hl 1 rfl) ?_
  refine lv_bipush (v := 7) hx hb dL_call_97 (by decide) ?_
  refine lv_icmp_ne (tgt := 109) hx hb dL_call_99 (by decide) (fun _ => ?_) (fun h => absurd h (by decide))
  refine lv_iload_n hx hb dL_call_109 rfl (lv_at hl 1 rfl) ?_
  refine lv_bipush (v := 8) hx hb dL_call_110 (by decide) ?_
  refine lv_icmp_ne (tgt := 122) hx hb dL_call_112 (by decide) (fun _ => ?_) (fun h => absurd h (by decide))
  refine lv_iload_n hx hb dL_call_122 rfl (lv_at hl 1 rfl) ?_
  refine lv_bipush (v := 9) hx hb dL_call_123 (by decide) ?_
  refine lv_icmp_ne (tgt := 136) hx hb dL_call_125 (by decide) (fun _ => ?_) (fun h => absurd h (by decide))
  refine lv_iload_n hx hb dL_call_136 rfl (lv_at hl 1 rfl) ?_
  refine lv_bipush (v := 10) hx hb dL_call_137 (by decide) ?_
  refine lv_icmp_ne (tgt := 150) hx hb dL_call_139 (by decide) (fun _ => ?_) (fun h => absurd h (by decide))
  refine lv_iload_n hx hb dL_call_150 rfl (lv_at hl 1 rfl) ?_
  refine lv_bipush (v := 11) hx hb dL_call_151 (by decide) ?_
  refine lv_icmp_ne (tgt := 164) hx hb dL_call_153 (by decide) (fun _ => ?_) (fun h => absurd h (by decide))
  refine lv_iload_n hx hb dL_call_164 rfl (lv_at hl 1 rfl) ?_
  refine lv_bipush (v := 12) hx hb dL_call_165 (by decide) ?_
  refine lv_icmp_ne (tgt := 179) hx hb dL_call_167 (by decide) (fun _ => ?_) (fun h => absurd h (by decide))
  refine lv_iload_n hx hb dL_call_179 rfl (lv_at hl 1 rfl) ?_
  refine lv_bipush (v := 13) hx hb dL_call_180 (by decide) ?_
  refine lv_icmp_ne (tgt := 194) hx hb dL_call_182 (by decide) (fun _ => ?_) (fun h => absurd h (by decide))
  refine lv_iload_n hx hb dL_call_194 rfl (lv_at hl 1 rfl) ?_
  refine lv_bipush (v := 14) hx hb dL_call_195 (by decide) ?_
  refine lv_icmp_ne (tgt := 208) hx hb dL_call_197 (by decide) (fun _ => ?_) (fun h => absurd h (by decide))
  refine lv_iload_n hx hb dL_call_208 rfl (lv_at hl 1 rfl) ?_
  refine lv_bipush (v := 15) hx hb dL_call_209 (by decide) ?_
  refine lv_icmp_ne (tgt := 222) hx hb dL_call_211 (by decide) (fun _ => ?_) (fun h => absurd h (by decide))
  refine lv_iload_n hx hb dL_call_222 rfl (lv_at hl 1 rfl) ?_
  refine lv_bipush (v := 16) hx hb dL_call_223 (by decide) ?_
  refine lv_icmp_ne (tgt := 237) hx hb dL_call_225 (by decide) (fun _ => ?_) (fun h => absurd h (by decide))
  refine lv_iload_n hx hb dL_call_237 rfl (lv_at hl 1 rfl) ?_
  refine lv_bipush (v := 17) hx hb dL_call_238 (by decide) ?_
  refine lv_icmp_ne (tgt := 254) hx hb dL_call_240 (by decide) (fun _ => ?_) (fun h => absurd h (by decide))
  refine lv_iload_n hx hb dL_call_254 rfl (lv_at hl 1 rfl) ?_
  refine lv_bipush (v := 18) hx hb dL_call_255 (by decide) ?_
  refine lv_icmp_ne (tgt := 268) hx hb dL_call_257 (by decide) (fun _ => ?_) (fun h => absurd h (by decide))
  refine lv_iload_n hx hb dL_call_268 rfl (lv_at hl 1 rfl) ?_
  refine lv_bipush (v := 19) hx hb dL_call_269 (by decide) ?_
  refine lv_icmp_ne (tgt := 285) hx hb dL_call_271 (by decide) (fun _ => ?_) (fun h => absurd h (by decide))
  refine lv_iload_n hx hb dL_call_285 rfl (lv_at hl 1 rfl) ?_
  refine lv_bipush (v := 20) hx hb dL_call_286 (by decide) ?_
  refine lv_icmp_ne (tgt := 302) hx hb dL_call_288 (by decide) (fun h => absurd rfl h) (fun _ => ?_)
  refine lv_aload_n hx hb dL_call_291 rfl (lv_at hl 0 rfl) ?_
  refine lv_iload_n hx hb dL_call_292 rfl (lv_at hl 2 rfl) ?_
  refine lv_iload_n hx hb dL_call_293 rfl (lv_at hl 3 rfl) ?_
  refine lv_iload hx hb dL_call_294 (lv_at hl 4 rfl) ?_
  refine xcallW (vx_runV (As := [.int x2, .int x3, .int x4]) (rest := []) S hM (cwV 3 hts (gd_V wd_683 wd_684 wd_685 wd_22 wd_686) rfl rfl rfl hd5_slip ⟨Nat.le_of_ble_eq_true rfl, Nat.le_of_ble_eq_true rfl⟩) (xPreV2 hK hX hZ hS hP hD (ci := 5) (q := (RX5, TX5, 3)) h0 rfl) rfl rfl hl.1 rfl (lv_room (Nat.le_of_ble_eq_true rfl)) dL_call_296 ⟨Nat.le_of_ble_eq_true rfl, Nat.le_of_ble_eq_true rfl⟩) hS hD (fun ce q9 H locs hk0 hP hS hce hcv hcl => ?_) (fun H locs hk0 hP hS => ?_)
  · by_cases h1 : k = 1
    · subst h1
      rw [cv_1]
      refine vx_catch (own := RL) (name := exn 1) (E := exn 1) hown [] ⟨0, 315, 316, 82⟩ [⟨0, 315, 321, 84⟩, ⟨0, 315, 326, 86⟩] (by rw [htab]; rfl) (fun z hz => absurd hz List.not_mem_nil) (by decide) (by decide) (hts _ wd_451) (cast_exn hX (by decide)) hce hcv hcl ?_
      refine lv_astore (lv' := [(5, .ref q9), (0, .ref aC), (1, .int (20 : Int32)), (2, .int x2), (3, .int x3), (4, .int x4)]) hx hb dL_call_316 hl (by decide) rfl (fun ls hl => ?_)
      refine lv_bipush (v := -11) hx hb dL_call_318 (by decide) ?_
      exact vreti (Nat.le_of_ble_eq_true rfl) (Nat.le_of_ble_eq_true rfl) hx hb hr hlocks hP hS dL_call_320
    by_cases h2 : k = 2
    · subst h2
      rw [cv_2]
      refine vx_catch (own := RL) (name := exn 2) (E := exn 2) hown [⟨0, 315, 316, 82⟩] ⟨0, 315, 321, 84⟩ [⟨0, 315, 326, 86⟩] (by rw [htab]; rfl) (fun z hz => by simp only [List.mem_cons, List.not_mem_nil, or_false] at hz; subst hz; exact Or.inr ⟨by decide, exn 1, (hts _ wd_451), hY 2 1 (by decide) (by decide) (by decide)⟩) (by decide) (by decide) (hts _ wd_452) (cast_exn hX (by decide)) hce hcv hcl ?_
      refine lv_astore (lv' := [(5, .ref q9), (0, .ref aC), (1, .int (20 : Int32)), (2, .int x2), (3, .int x3), (4, .int x4)]) hx hb dL_call_321 hl (by decide) rfl (fun ls hl => ?_)
      refine lv_bipush (v := -12) hx hb dL_call_323 (by decide) ?_
      exact vreti (Nat.le_of_ble_eq_true rfl) (Nat.le_of_ble_eq_true rfl) hx hb hr hlocks hP hS dL_call_325
    rw [cv_3 _ hk0 h1 h2]
    rw [exn_3 h1 h2] at hcl
    refine vx_catch (own := RL) (name := exn 3) (E := exn 3) hown [⟨0, 315, 316, 82⟩, ⟨0, 315, 321, 84⟩] ⟨0, 315, 326, 86⟩ [] (by rw [htab]; rfl) (fun z hz => by simp only [List.mem_cons, List.not_mem_nil, or_false] at hz; rcases hz with rfl | rfl; (exact Or.inr ⟨by decide, exn 1, (hts _ wd_451), hY 3 1 (by decide) (by decide) (by decide)⟩); (exact Or.inr ⟨by decide, exn 2, (hts _ wd_452), hY 3 2 (by decide) (by decide) (by decide)⟩)) (by decide) (by decide) (hts _ wd_453) (cast_exn hX (by decide)) hce hcv hcl ?_
    refine lv_astore (lv' := [(5, .ref q9), (0, .ref aC), (1, .int (20 : Int32)), (2, .int x2), (3, .int x3), (4, .int x4)]) hx hb dL_call_326 hl (by decide) rfl (fun ls hl => ?_)
    refine lv_bipush (v := -13) hx hb dL_call_328 (by decide) ?_
    exact vreti (Nat.le_of_ble_eq_true rfl) (Nat.le_of_ble_eq_true rfl) hx hb hr hlocks hP hS dL_call_330
  · subst hk0
    rw [cv_0]
    refine lv_goto (tgt := 315) hx hb dL_call_299 (by decide) ?_
    exact vreti (Nat.le_of_ble_eq_true rfl) (Nat.le_of_ble_eq_true rfl) hx hb hr hlocks hP hS dL_call_315
def FC_slip (st : ST) (x2 x3 x4 : Int32) : Option Int32 := bd2 (F_slip st x2 x3 x4) (fun k r => some (cv k r))
theorem KT_slip (l : Launch) (hfl : l.stackTraces = false) (D : va_G) (cI cZ cS cJ : ClassId) (a : AD) (st : ST) (x2 x3 x4 : Int32) (r : Int32) (hF : FC_slip st x2 x3 x4 = some (r)) : Met l yL_call wsL_call rmL_call (wP D (gT cI cZ cS cJ) (WS cI cZ cS a st) [.ref a.1, .int (20 : Int32), .int x2, .int x3, .int x4]) (uQ D (some (.int r)) (uA (WS cI cZ cS a st)) (WS cI cZ cS a st)) 3 18 (uA (WS cI cZ cS a st)) := by
  obtain ⟨k, r0, h, e⟩ := bd2_at hF
  cases e
  exact KC_slip l D cI cZ cS cJ a.1 _ _ _ (WS_0 cI cZ cS a st) x2 x3 x4 k r0 (KS_slip l hfl D cI cZ cS cJ a st x2 x3 x4 k r0 h)
set_option maxHeartbeats 1000000 in
set_option maxRecDepth 20000 in
theorem KC_finds (l : Launch) (D : va_G) (cI cZ cS cJ : ClassId) (aC : Nat) (X X' : va_W) (fs : List Value) (h0 : X[0]? = some (aC, .inr (5, fs))) (x2 x3 x4 : Int32) (k : Nat) (r : Int32) (hM : vx_Met l yX5_finds wsX5_finds rm5_finds (xP D (gT cI cZ cS cJ) X [.ref aC, .int x2]) (xQ D k (some (.int r)) (uA X) X') (xX D k (uA X) X') 1 6 (uA X)) : Met l yL_call wsL_call rmL_call (wP D (gT cI cZ cS cJ) X [.ref aC, .int (21 : Int32), .int x2, .int x3, .int x4]) (uQ D (some (.int (cv k (if r = 0 then (0 : Int32) else 1)))) (uA X) X') 3 18 (uA X) := by
  refine va_MetW (cc := cL_call) (maxL := 6) (ret := (some .int)) (hh := hhL_call) (by decide) rfl ?_
  intro p e s m args below meth c s₁ B hml hv
  obtain ⟨⟨ha, hK, hP, hD0, hX, hZ⟩, hY⟩ := hv
  have hx := B.exec
  have hb := B.bytes
  have hr := B.returns
  have hlocks := B.notSynchronized
  have hcw : (Cond.codeWith yL_call cL_call 6 (some .int) hhL_call).before args s = true := atoms_spec (ws := wsL_call) B.pre _ List.mem_cons_self
  have htab : c.exceptionTable.toList = tableOf hhL_call := vx_table (x := yL_call) B hcw
  have hts : ∀ w ∈ lw_all, w.before args s = true := fun w h => atoms_spec (ws := wsL_call) B.pre w (List.mem_cons_of_mem _ h)
  have hown : s.vm.findClass RL = some m.cls := findClass_of_methodNamed B.named
  have S : CallFix p m c cL_call 6 s args lw_all RL := ⟨hx, hb, hml, hown, hts⟩
  have hD := hD0.own
  have hS : va_S (uA X) s.heap s.heap [] := va_S.rf
  have hl := lv_entry ([.ref aC, .int (21 : Int32), .int x2, .int x3, .int x4] : List Value) (n := 6) (Nat.le_of_ble_eq_true rfl)
  refine W.eq (g2 := F0 m 0 ((lg_sl ([.ref aC, .int (21 : Int32), .int x2, .int x3, .int x4] : List Value) ++ List.replicate (6 - (lg_sl ([.ref aC, .int (21 : Int32), .int x2, .int x3, .int x4] : List Value)).length) Slot.unset).toArray) []) (by rw [ha]; exact lg_entry_eq _ _ _) ?_
  generalize (lg_sl ([.ref aC, .int (21 : Int32), .int x2, .int x3, .int x4] : List Value) ++ List.replicate (6 - (lg_sl ([.ref aC, .int (21 : Int32), .int x2, .int x3, .int x4] : List Value)).length) Slot.unset).toArray = ls at hl ⊢
  have hl : lv_has ls 6 [(0, .ref aC), (1, .int (21 : Int32)), (2, .int x2), (3, .int x3), (4, .int x4)] := hl
  refine lv_iload_n hx hb dL_call_0 rfl (lv_at hl 1 rfl) ?_
  refine lv_if_ne (tgt := 13) hx hb dL_call_1 (by decide) (fun _ => ?_) (fun h => absurd h (by decide))
  refine lv_iload_n hx hb dL_call_13 rfl (lv_at hl 1 rfl) ?_
  refine lv_iconst (v := 1) hx hb dL_call_14 (by decide) ?_
  refine lv_icmp_ne (tgt := 26) hx hb dL_call_15 (by decide) (fun _ => ?_) (fun h => absurd h (by decide))
  refine lv_iload_n hx hb dL_call_26 rfl (lv_at hl 1 rfl) ?_
  refine lv_iconst (v := 2) hx hb dL_call_27 (by decide) ?_
  refine lv_icmp_ne (tgt := 40) hx hb dL_call_28 (by decide) (fun _ => ?_) (fun h => absurd h (by decide))
  refine lv_iload_n hx hb dL_call_40 rfl (lv_at hl 1 rfl) ?_
  refine lv_iconst (v := 3) hx hb dL_call_41 (by decide) ?_
  refine lv_icmp_ne (tgt := 54) hx hb dL_call_42 (by decide) (fun _ => ?_) (fun h => absurd h (by decide))
  refine lv_iload_n hx hb dL_call_54 rfl (lv_at hl 1 rfl) ?_
  refine lv_iconst (v := 4) hx hb dL_call_55 (by decide) ?_
  refine lv_icmp_ne (tgt := 68) hx hb dL_call_56 (by decide) (fun _ => ?_) (fun h => absurd h (by decide))
  refine lv_iload_n hx hb dL_call_68 rfl (lv_at hl 1 rfl) ?_
  refine lv_iconst (v := 5) hx hb dL_call_69 (by decide) ?_
  refine lv_icmp_ne (tgt := 82) hx hb dL_call_70 (by decide) (fun _ => ?_) (fun h => absurd h (by decide))
  refine lv_iload_n hx hb dL_call_82 rfl (lv_at hl 1 rfl) ?_
  refine lv_bipush (v := 6) hx hb dL_call_83 (by decide) ?_
  refine lv_icmp_ne (tgt := 96) hx hb dL_call_85 (by decide) (fun _ => ?_) (fun h => absurd h (by decide))
  refine lv_iload_n hx hb dL_call_96 rfl (lv_at hl 1 rfl) ?_
  refine lv_bipush (v := 7) hx hb dL_call_97 (by decide) ?_
  refine lv_icmp_ne (tgt := 109) hx hb dL_call_99 (by decide) (fun _ => ?_) (fun h => absurd h (by decide))
  refine lv_iload_n hx hb dL_call_109 rfl (lv_at hl 1 rfl) ?_
  refine lv_bipush (v := 8) hx hb dL_call_110 (by decide) ?_
  refine lv_icmp_ne (tgt := 122) hx hb dL_call_112 (by decide) (fun _ => ?_) (fun h => absurd h (by decide))
  refine lv_iload_n hx hb dL_call_122 rfl (lv_at hl 1 rfl) ?_
  refine lv_bipush (v := 9) hx hb dL_call_123 (by decide) ?_
  refine lv_icmp_ne (tgt := 136) hx hb dL_call_125 (by decide) (fun _ => ?_) (fun h => absurd h (by decide))
  refine lv_iload_n hx hb dL_call_136 rfl (lv_at hl 1 rfl) ?_
  refine lv_bipush (v := 10) hx hb dL_call_137 (by decide) ?_
  refine lv_icmp_ne (tgt := 150) hx hb dL_call_139 (by decide) (fun _ => ?_) (fun h => absurd h (by decide))
  refine lv_iload_n hx hb dL_call_150 rfl (lv_at hl 1 rfl) ?_
  refine lv_bipush (v := 11) hx hb dL_call_151 (by decide) ?_
  refine lv_icmp_ne (tgt := 164) hx hb dL_call_153 (by decide) (fun _ => ?_) (fun h => absurd h (by decide))
  refine lv_iload_n hx hb dL_call_164 rfl (lv_at hl 1 rfl) ?_
  refine lv_bipush (v := 12) hx hb dL_call_165 (by decide) ?_
  refine lv_icmp_ne (tgt := 179) hx hb dL_call_167 (by decide) (fun _ => ?_) (fun h => absurd h (by decide))
  refine lv_iload_n hx hb dL_call_179 rfl (lv_at hl 1 rfl) ?_
  refine lv_bipush (v := 13) hx hb dL_call_180 (by decide) ?_
  refine lv_icmp_ne (tgt := 194) hx hb dL_call_182 (by decide) (fun _ => ?_) (fun h => absurd h (by decide))
  refine lv_iload_n hx hb dL_call_194 rfl (lv_at hl 1 rfl) ?_
  refine lv_bipush (v := 14) hx hb dL_call_195 (by decide) ?_
  refine lv_icmp_ne (tgt := 208) hx hb dL_call_197 (by decide) (fun _ => ?_) (fun h => absurd h (by decide))
  refine lv_iload_n hx hb dL_call_208 rfl (lv_at hl 1 rfl) ?_
  refine lv_bipush (v := 15) hx hb dL_call_209 (by decide) ?_
  refine lv_icmp_ne (tgt := 222) hx hb dL_call_211 (by decide) (fun _ => ?_) (fun h => absurd h (by decide))
  refine lv_iload_n hx hb dL_call_222 rfl (lv_at hl 1 rfl) ?_
  refine lv_bipush (v := 16) hx hb dL_call_223 (by decide) ?_
  refine lv_icmp_ne (tgt := 237) hx hb dL_call_225 (by decide) (fun _ => ?_) (fun h => absurd h (by decide))
  refine lv_iload_n hx hb dL_call_237 rfl (lv_at hl 1 rfl) ?_
  refine lv_bipush (v := 17) hx hb dL_call_238 (by decide) ?_
  refine lv_icmp_ne (tgt := 254) hx hb dL_call_240 (by decide) (fun _ => ?_) (fun h => absurd h (by decide))
  refine lv_iload_n hx hb dL_call_254 rfl (lv_at hl 1 rfl) ?_
  refine lv_bipush (v := 18) hx hb dL_call_255 (by decide) ?_
  refine lv_icmp_ne (tgt := 268) hx hb dL_call_257 (by decide) (fun _ => ?_) (fun h => absurd h (by decide))
  refine lv_iload_n hx hb dL_call_268 rfl (lv_at hl 1 rfl) ?_
  refine lv_bipush (v := 19) hx hb dL_call_269 (by decide) ?_
  refine lv_icmp_ne (tgt := 285) hx hb dL_call_271 (by decide) (fun _ => ?_) (fun h => absurd h (by decide))
  refine lv_iload_n hx hb dL_call_285 rfl (lv_at hl 1 rfl) ?_
  refine lv_bipush (v := 20) hx hb dL_call_286 (by decide) ?_
  refine lv_icmp_ne (tgt := 302) hx hb dL_call_288 (by decide) (fun _ => ?_) (fun h => absurd h (by decide))
  refine lv_aload_n hx hb dL_call_302 rfl (lv_at hl 0 rfl) ?_
  refine lv_iload_n hx hb dL_call_303 rfl (lv_at hl 2 rfl) ?_
  refine xcallW (vx_runV (As := [.int x2]) (rest := []) S hM (cwV 1 hts (gd_V wd_688 wd_689 wd_690 wd_22 wd_691) rfl rfl rfl hd5_finds ⟨Nat.le_of_ble_eq_true rfl, Nat.le_of_ble_eq_true rfl⟩) (xPreV2 hK hX hZ hS hP hD (ci := 5) (q := (RX5, TX5, 3)) h0 rfl) rfl rfl hl.1 rfl (lv_room (Nat.le_of_ble_eq_true rfl)) dL_call_304 ⟨Nat.le_of_ble_eq_true rfl, Nat.le_of_ble_eq_true rfl⟩) hS hD (fun ce q9 H locs hk0 hP hS hce hcv hcl => ?_) (fun H locs hk0 hP hS => ?_)
  · by_cases h1 : k = 1
    · subst h1
      rw [cv_1]
      refine vx_catch (own := RL) (name := exn 1) (E := exn 1) hown [] ⟨0, 315, 316, 82⟩ [⟨0, 315, 321, 84⟩, ⟨0, 315, 326, 86⟩] (by rw [htab]; rfl) (fun z hz => absurd hz List.not_mem_nil) (by decide) (by decide) (hts _ wd_451) (cast_exn hX (by decide)) hce hcv hcl ?_
      refine lv_astore (lv' := [(5, .ref q9), (0, .ref aC), (1, .int (21 : Int32)), (2, .int x2), (3, .int x3), (4, .int x4)]) hx hb dL_call_316 hl (by decide) rfl (fun ls hl => ?_)
      refine lv_bipush (v := -11) hx hb dL_call_318 (by decide) ?_
      exact vreti (Nat.le_of_ble_eq_true rfl) (Nat.le_of_ble_eq_true rfl) hx hb hr hlocks hP hS dL_call_320
    by_cases h2 : k = 2
    · subst h2
      rw [cv_2]
      refine vx_catch (own := RL) (name := exn 2) (E := exn 2) hown [⟨0, 315, 316, 82⟩] ⟨0, 315, 321, 84⟩ [⟨0, 315, 326, 86⟩] (by rw [htab]; rfl) (fun z hz => by simp only [List.mem_cons, List.not_mem_nil, or_false] at hz; subst hz; exact Or.inr ⟨by decide, exn 1, (hts _ wd_451), hY 2 1 (by decide) (by decide) (by decide)⟩) (by decide) (by decide) (hts _ wd_452) (cast_exn hX (by decide)) hce hcv hcl ?_
      refine lv_astore (lv' := [(5, .ref q9), (0, .ref aC), (1, .int (21 : Int32)), (2, .int x2), (3, .int x3), (4, .int x4)]) hx hb dL_call_321 hl (by decide) rfl (fun ls hl => ?_)
      refine lv_bipush (v := -12) hx hb dL_call_323 (by decide) ?_
      exact vreti (Nat.le_of_ble_eq_true rfl) (Nat.le_of_ble_eq_true rfl) hx hb hr hlocks hP hS dL_call_325
    rw [cv_3 _ hk0 h1 h2]
    rw [exn_3 h1 h2] at hcl
    refine vx_catch (own := RL) (name := exn 3) (E := exn 3) hown [⟨0, 315, 316, 82⟩, ⟨0, 315, 321, 84⟩] ⟨0, 315, 326, 86⟩ [] (by rw [htab]; rfl) (fun z hz => by simp only [List.mem_cons, List.not_mem_nil, or_false] at hz; rcases hz with rfl | rfl; (exact Or.inr ⟨by decide, exn 1, (hts _ wd_451), hY 3 1 (by decide) (by decide) (by decide)⟩); (exact Or.inr ⟨by decide, exn 2, (hts _ wd_452), hY 3 2 (by decide) (by decide) (by decide)⟩)) (by decide) (by decide) (hts _ wd_453) (cast_exn hX (by decide)) hce hcv hcl ?_
    refine lv_astore (lv' := [(5, .ref q9), (0, .ref aC), (1, .int (21 : Int32)), (2, .int x2), (3, .int x3), (4, .int x4)]) hx hb dL_call_326 hl (by decide) rfl (fun ls hl => ?_)
    refine lv_bipush (v := -13) hx hb dL_call_328 (by decide) ?_
    exact vreti (Nat.le_of_ble_eq_true rfl) (Nat.le_of_ble_eq_true rfl) hx hb hr hlocks hP hS dL_call_330
  · subst hk0
    rw [cv_0]
    refine lv_if_eq (tgt := 314) hx hb dL_call_307 (by decide) (fun hr0 => ?_) (fun hr0 => ?_)
    · rw [if_pos hr0]
      refine lv_iconst (v := 0) hx hb dL_call_314 (by decide) ?_
      exact vreti (Nat.le_of_ble_eq_true rfl) (Nat.le_of_ble_eq_true rfl) hx hb hr hlocks hP hS dL_call_315
    · rw [if_neg hr0]
      refine lv_iconst (v := 1) hx hb dL_call_310 (by decide) ?_
      refine lv_goto (tgt := 315) hx hb dL_call_311 (by decide) ?_
      exact vreti (Nat.le_of_ble_eq_true rfl) (Nat.le_of_ble_eq_true rfl) hx hb hr hlocks hP hS dL_call_315
def FC_finds (st : ST) (x2 x3 x4 : Int32) : Option Int32 := bd2 (F_finds st x2) (fun k r => some (cv k (if r = 0 then (0 : Int32) else 1)))
theorem KT_finds (l : Launch) (hfl : l.stackTraces = false) (D : va_G) (cI cZ cS cJ : ClassId) (a : AD) (st : ST) (x2 x3 x4 : Int32) (r : Int32) (hF : FC_finds st x2 x3 x4 = some (r)) : Met l yL_call wsL_call rmL_call (wP D (gT cI cZ cS cJ) (WS cI cZ cS a st) [.ref a.1, .int (21 : Int32), .int x2, .int x3, .int x4]) (uQ D (some (.int r)) (uA (WS cI cZ cS a st)) (WS cI cZ cS a st)) 3 18 (uA (WS cI cZ cS a st)) := by
  obtain ⟨k, r0, h, e⟩ := bd2_at hF
  cases e
  exact KC_finds l D cI cZ cS cJ a.1 _ _ _ (WS_0 cI cZ cS a st) x2 x3 x4 k r0 (KS_finds l hfl D cI cZ cS cJ a st x2 k r0 h)
