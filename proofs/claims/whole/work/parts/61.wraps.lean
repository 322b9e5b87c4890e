
/-! ===== the law's wrappers: each catches what its call may throw ===== -/
abbrev hhL_weight : List (Nat × Nat × Nat × Nat) := [(0, 10, 13, 13), (0, 10, 17, 15)]
abbrev wsL_weight : List Cond := .codeWith yL_weight cL_weight 5 (some .int) hhL_weight :: lw_all
set_option maxRecDepth 20000 in
theorem cwL_weight : (.codeWith yL_weight cL_weight 5 (some .int) hhL_weight : Cond) ∈ lw_all := in_all 273 (by decide +kernel) (by decide +kernel)
abbrev rmL_weight : Room := { frames := 8, cells := 2, slots := 12, locals := 129 }
theorem hdL_weight : yL_weight.cls ≠ "java/lang/invoke/MethodHandle" ∧ yL_weight.cls ≠ "java/lang/invoke/VarHandle" ∧ (parseMethodDescriptor yL_weight.desc).map (fun d => d.parameters.length) = some 4 := by decide +kernel
set_option maxHeartbeats 1000000 in
set_option maxRecDepth 20000 in
theorem KL_weight (l : Launch) (D : va_G) (cI cZ cS cJ : ClassId) (aC aQ : Nat) (X X' : va_W) (fs : List Value) (h0 : X[0]? = some (aC, .inr (5, fs))) (t : ∀ B : Nat → Prop, va_D B X → va_D B X') (f f' : Nat → Int64) (x1 : Int32) (x2 : Int32) (k : Nat) (r j : Int32) (hk : oc2 1 2 k j) (hf0 : k = 0 → f' = vp_updL f 0 r.toInt64) (hf1 : k ≠ 0 → f' = f) (hM : vx_Met l yX5_weight wsX5_weight rm5_weight (xP D (gT cI cZ cS cJ) X [.ref aC, .int x1, .int x2]) (xQ D k (some (.int r)) (uA X) X') (xX D k (uA X) X') 2 12 (uA X)) : Met l yL_weight wsL_weight rmL_weight (wP D (gT cI cZ cS cJ) (X ++ [(aQ, .inl (cJ, 1, .inr (.inl f)))]) [.ref aC, .int x1, .int x2, .ref aQ]) (uQ D (some (.int j)) (uA (X ++ [(aQ, .inl (cJ, 1, .inr (.inl f)))])) (X' ++ [(aQ, .inl (cJ, 1, .inr (.inl f')))])) 2 12 (uA (X ++ [(aQ, .inl (cJ, 1, .inr (.inl f)))])) := by
  refine va_MetW (cc := cL_weight) (maxL := 5) (ret := (some .int)) (hh := hhL_weight) (by decide) rfl ?_
  intro p e s m args below meth c s₁ B hml hv
  obtain ⟨⟨ha, hK, hP, hD0, hX, hZ⟩, hY⟩ := hv
  have hx := B.exec
  have hb := B.bytes
  have hr := B.returns
  have hlocks := B.notSynchronized
  have hcw : (Cond.codeWith yL_weight cL_weight 5 (some .int) hhL_weight).before args s = true := atoms_spec (ws := wsL_weight) B.pre _ List.mem_cons_self
  have htab : c.exceptionTable.toList = tableOf hhL_weight := vx_table (x := yL_weight) B hcw
  have hts : ∀ w ∈ lw_all, w.before args s = true := fun w h => atoms_spec (ws := wsL_weight) B.pre w (List.mem_cons_of_mem _ h)
  have hown : s.vm.findClass RL = some m.cls := findClass_of_methodNamed B.named
  have S : CallFix p m c cL_weight 5 s args lw_all RL := ⟨hx, hb, hml, hown, hts⟩
  have hD := hD0.own
  generalize uA (X ++ [(aQ, .inl (cJ, 1, .inr (.inl f)))]) = A0 at hD hZ ⊢
  have hS : va_S A0 s.heap s.heap [] := va_S.rf
  have hl := lv_entry ([.ref aC, .int x1, .int x2, .ref aQ] : List Value) (n := 5) (Nat.le_of_ble_eq_true rfl)
  refine W.eq (g2 := F0 m 0 ((lg_sl ([.ref aC, .int x1, .int x2, .ref aQ] : List Value) ++ List.replicate (5 - (lg_sl ([.ref aC, .int x1, .int x2, .ref aQ] : List Value)).length) Slot.unset).toArray) []) (by rw [ha]; exact lg_entry_eq _ _ _) ?_
  generalize (lg_sl ([.ref aC, .int x1, .int x2, .ref aQ] : List Value) ++ List.replicate (5 - (lg_sl ([.ref aC, .int x1, .int x2, .ref aQ] : List Value)).length) Slot.unset).toArray = ls at hl ⊢
  have hl : lv_has ls 5 [(0, .ref aC), (1, .int x1), (2, .int x2), (3, .ref aQ)] := hl
  refine lv_aload_n hx hb dL_weight_0 rfl (lv_at hl 3 rfl) ?_
  refine lv_iconst (v := 0) hx hb dL_weight_1 (by decide) ?_
  refine lv_aload_n hx hb dL_weight_2 rfl (lv_at hl 0 rfl) ?_
  refine lv_iload_n hx hb dL_weight_3 rfl (lv_at hl 1 rfl) ?_
  refine lv_iload_n hx hb dL_weight_4 rfl (lv_at hl 2 rfl) ?_
  refine xcallLi (vx_runV (As := [.int x1, .int x2]) (rest := [.int 0, .ref aQ]) S hM (cwV 2 hts (gd_V wd_276 wd_277 wd_278 wd_61 wd_279) rfl rfl rfl hd5_weight ⟨Nat.le_of_ble_eq_true rfl, Nat.le_of_ble_eq_true rfl⟩) (xPreV2 hK hX hZ hS (wP_l hP) (wD_l hD) (ci := 5) (q := (RX5, TX5, 3)) h0 rfl) rfl rfl hl.1 rfl (lv_room (Nat.le_of_ble_eq_true rfl)) dL_weight_5 ⟨Nat.le_of_ble_eq_true rfl, Nat.le_of_ble_eq_true rfl⟩) hS hP hD (fun ce q9 H locs hk0 hP hS hce hcv hcl => ?_) (fun H locs hk0 hP hS => ?_)
  · obtain rfl := hf1 hk0
    rcases hk with ⟨rfl, rfl⟩ | ⟨rfl, rfl⟩ | ⟨rfl, rfl⟩
    · exact absurd rfl hk0
    · refine vx_catch (own := RL) (name := exn 1) (E := exn 1) hown [] ⟨0, 10, 13, 13⟩ [⟨0, 10, 17, 15⟩] (by rw [htab]; rfl) (fun z hz => absurd hz List.not_mem_nil) (by decide) (by decide) (hts _ wd_274) (cast_exn hX (by decide)) hce hcv hcl ?_
      refine lv_astore (lv' := [(4, .ref q9), (0, .ref aC), (1, .int x1), (2, .int x2), (3, .ref aQ)]) hx hb dL_weight_13 hl (by decide) rfl (fun ls hl => ?_)
      refine lv_iconst (v := 1) hx hb dL_weight_15 (by decide) ?_
      exact ureti hx hb hr hlocks hP hS dL_weight_16
    · refine vx_catch (own := RL) (name := exn 2) (E := exn 2) hown [⟨0, 10, 13, 13⟩] ⟨0, 10, 17, 15⟩ [] (by rw [htab]; rfl) (fun z hz => by simp only [List.mem_cons, List.not_mem_nil, or_false] at hz; subst hz; exact Or.inr ⟨by decide, exn 1, (hts _ wd_274), hY 2 1 (by decide) (by decide) (by decide)⟩) (by decide) (by decide) (hts _ wd_275) (cast_exn hX (by decide)) hce hcv hcl ?_
      refine lv_astore (lv' := [(4, .ref q9), (0, .ref aC), (1, .int x1), (2, .int x2), (3, .ref aQ)]) hx hb dL_weight_17 hl (by decide) rfl (fun ls hl => ?_)
      refine lv_iconst (v := 2) hx hb dL_weight_19 (by decide) ?_
      exact ureti hx hb hr hlocks hP hS dL_weight_20
  · rcases hk with ⟨-, rfl⟩ | ⟨h, -⟩ | ⟨h, -⟩
    · have hf := hf0 hk0
      subst hf
      refine lv_i2l hx hb dL_weight_8 rfl ?_
      refine l_put hx hb hK hP (wD_re hD t) hS dL_weight_9 (fun H locs hP hS => ?_)
      refine lv_goto (tgt := 21) hx hb dL_weight_10 (by decide) ?_
      refine lv_iconst (v := 0) hx hb dL_weight_21 (by decide) ?_
      exact ureti hx hb hr hlocks hP hS dL_weight_22
    · exact absurd (hk0.symm.trans h) (by decide)
    · exact absurd (hk0.symm.trans h) (by decide)
abbrev hhL_modulus : List (Nat × Nat × Nat × Nat) := [(0, 9, 12, 15)]
abbrev wsL_modulus : List Cond := .codeWith yL_modulus cL_modulus 4 (some .int) hhL_modulus :: lw_all
set_option maxRecDepth 20000 in
theorem cwL_modulus : (.codeWith yL_modulus cL_modulus 4 (some .int) hhL_modulus : Cond) ∈ lw_all := in_all 404 (by decide +kernel) (by decide +kernel)
abbrev rmL_modulus : Room := { frames := 7, cells := 1, slots := 6, locals := 128 }
theorem hdL_modulus : yL_modulus.cls ≠ "java/lang/invoke/MethodHandle" ∧ yL_modulus.cls ≠ "java/lang/invoke/VarHandle" ∧ (parseMethodDescriptor yL_modulus.desc).map (fun d => d.parameters.length) = some 3 := by decide +kernel
set_option maxHeartbeats 1000000 in
set_option maxRecDepth 20000 in
theorem KL_modulus (l : Launch) (D : va_G) (cI cZ cS cJ : ClassId) (aC aQ : Nat) (X X' : va_W) (fs : List Value) (h0 : X[0]? = some (aC, .inr (5, fs))) (t : ∀ B : Nat → Prop, va_D B X → va_D B X') (f f' : Nat → Int64) (x1 : Int32) (k : Nat) (r j : Int32) (hk : oc1 2 k j) (hf0 : k = 0 → f' = vp_updL f 0 r.toInt64) (hf1 : k ≠ 0 → f' = f) (hM : vx_Met l yX5_modulus wsX5_modulus rm5_modulus (xP D (gT cI cZ cS cJ) X [.ref aC, .int x1]) (xQ D k (some (.int r)) (uA X) X') (xX D k (uA X) X') 1 6 (uA X)) : Met l yL_modulus wsL_modulus rmL_modulus (wP D (gT cI cZ cS cJ) (X ++ [(aQ, .inl (cJ, 1, .inr (.inl f)))]) [.ref aC, .int x1, .ref aQ]) (uQ D (some (.int j)) (uA (X ++ [(aQ, .inl (cJ, 1, .inr (.inl f)))])) (X' ++ [(aQ, .inl (cJ, 1, .inr (.inl f')))])) 1 6 (uA (X ++ [(aQ, .inl (cJ, 1, .inr (.inl f)))])) := by
  refine va_MetW (cc := cL_modulus) (maxL := 4) (ret := (some .int)) (hh := hhL_modulus) (by decide) rfl ?_
  intro p e s m args below meth c s₁ B hml hv
  obtain ⟨⟨ha, hK, hP, hD0, hX, hZ⟩, hY⟩ := hv
  have hx := B.exec
  have hb := B.bytes
  have hr := B.returns
  have hlocks := B.notSynchronized
  have hcw : (Cond.codeWith yL_modulus cL_modulus 4 (some .int) hhL_modulus).before args s = true := atoms_spec (ws := wsL_modulus) B.pre _ List.mem_cons_self
  have htab : c.exceptionTable.toList = tableOf hhL_modulus := vx_table (x := yL_modulus) B hcw
  have hts : ∀ w ∈ lw_all, w.before args s = true := fun w h => atoms_spec (ws := wsL_modulus) B.pre w (List.mem_cons_of_mem _ h)
  have hown : s.vm.findClass RL = some m.cls := findClass_of_methodNamed B.named
  have S : CallFix p m c cL_modulus 4 s args lw_all RL := ⟨hx, hb, hml, hown, hts⟩
  have hD := hD0.own
  generalize uA (X ++ [(aQ, .inl (cJ, 1, .inr (.inl f)))]) = A0 at hD hZ ⊢
  have hS : va_S A0 s.heap s.heap [] := va_S.rf
  have hl := lv_entry ([.ref aC, .int x1, .ref aQ] : List Value) (n := 4) (Nat.le_of_ble_eq_true rfl)
  refine W.eq (g2 := F0 m 0 ((lg_sl ([.ref aC, .int x1, .ref aQ] : List Value) ++ List.replicate (4 - (lg_sl ([.ref aC, .int x1, .ref aQ] : List Value)).length) Slot.unset).toArray) []) (by rw [ha]; exact lg_entry_eq _ _ _) ?_
  generalize (lg_sl ([.ref aC, .int x1, .ref aQ] : List Value) ++ List.replicate (4 - (lg_sl ([.ref aC, .int x1, .ref aQ] : List Value)).length) Slot.unset).toArray = ls at hl ⊢
  have hl : lv_has ls 4 [(0, .ref aC), (1, .int x1), (2, .ref aQ)] := hl
  refine lv_aload_n hx hb dL_modulus_0 rfl (lv_at hl 2 rfl) ?_
  refine lv_iconst (v := 0) hx hb dL_modulus_1 (by decide) ?_
  refine lv_aload_n hx hb dL_modulus_2 rfl (lv_at hl 0 rfl) ?_
  refine lv_iload_n hx hb dL_modulus_3 rfl (lv_at hl 1 rfl) ?_
  refine xcallLi (vx_runV (As := [.int x1]) (rest := [.int 0, .ref aQ]) S hM (cwV 1 hts (gd_V wd_405 wd_406 wd_407 wd_61 wd_408) rfl rfl rfl hd5_modulus ⟨Nat.le_of_ble_eq_true rfl, Nat.le_of_ble_eq_true rfl⟩) (xPreV2 hK hX hZ hS (wP_l hP) (wD_l hD) (ci := 5) (q := (RX5, TX5, 3)) h0 rfl) rfl rfl hl.1 rfl (lv_room (Nat.le_of_ble_eq_true rfl)) dL_modulus_4 ⟨Nat.le_of_ble_eq_true rfl, Nat.le_of_ble_eq_true rfl⟩) hS hP hD (fun ce q9 H locs hk0 hP hS hce hcv hcl => ?_) (fun H locs hk0 hP hS => ?_)
  · obtain rfl := hf1 hk0
    rcases hk with ⟨rfl, rfl⟩ | ⟨rfl, rfl⟩
    · exact absurd rfl hk0
    · refine vx_catch (own := RL) (name := exn 2) (E := exn 2) hown [] ⟨0, 9, 12, 15⟩ [] (by rw [htab]; rfl) (fun z hz => absurd hz List.not_mem_nil) (by decide) (by decide) (hts _ wd_275) (cast_exn hX (by decide)) hce hcv hcl ?_
      refine lv_astore_n (lv' := [(3, .ref q9), (0, .ref aC), (1, .int x1), (2, .ref aQ)]) hx hb dL_modulus_12 rfl hl (by decide) rfl (fun ls hl => ?_)
      refine lv_iconst (v := 1) hx hb dL_modulus_13 (by decide) ?_
      exact ureti hx hb hr hlocks hP hS dL_modulus_14
  · rcases hk with ⟨-, rfl⟩ | ⟨h, -⟩
    · have hf := hf0 hk0
      subst hf
      refine lv_i2l hx hb dL_modulus_7 rfl ?_
      refine l_put hx hb hK hP (wD_re hD t) hS dL_modulus_8 (fun H locs hP hS => ?_)
      refine lv_goto (tgt := 15) hx hb dL_modulus_9 (by decide) ?_
      refine lv_iconst (v := 0) hx hb dL_modulus_15 (by decide) ?_
      exact ureti hx hb hr hlocks hP hS dL_modulus_16
    · exact absurd (hk0.symm.trans h) (by decide)
abbrev hhL_book : List (Nat × Nat × Nat × Nat) := [(0, 10, 13, 13), (0, 10, 17, 15), (0, 10, 21, 24)]
abbrev wsL_book : List Cond := .codeWith yL_book cL_book 5 (some .int) hhL_book :: lw_all
set_option maxRecDepth 20000 in
theorem cwL_book : (.codeWith yL_book cL_book 5 (some .int) hhL_book : Cond) ∈ lw_all := in_all 412 (by decide +kernel) (by decide +kernel)
abbrev rmL_book : Room := { frames := 8, cells := 1, slots := 6, locals := 128 }
theorem hdL_book : yL_book.cls ≠ "java/lang/invoke/MethodHandle" ∧ yL_book.cls ≠ "java/lang/invoke/VarHandle" ∧ (parseMethodDescriptor yL_book.desc).map (fun d => d.parameters.length) = some 4 := by decide +kernel
set_option maxHeartbeats 1000000 in
set_option maxRecDepth 20000 in
theorem KL_book (l : Launch) (D : va_G) (cI cZ cS cJ : ClassId) (aC aQ : Nat) (X X' : va_W) (fs : List Value) (h0 : X[0]? = some (aC, .inr (5, fs))) (t : ∀ B : Nat → Prop, va_D B X → va_D B X') (f f' : Nat → Int64) (x1 : Int32) (x2 : Int32) (k : Nat) (r j : Int32) (hk : oc3 1 2 3 k j) (hf0 : k = 0 → f' = vp_updL f 0 r.toInt64) (hf1 : k ≠ 0 → f' = f) (hM : vx_Met l yX5_book wsX5_book rm5_book (xP D (gT cI cZ cS cJ) X [.ref aC, .int x1, .int x2]) (xQ D k (some (.int r)) (uA X) X') (xX D k (uA X) X') 1 6 (uA X)) : Met l yL_book wsL_book rmL_book (wP D (gT cI cZ cS cJ) (X ++ [(aQ, .inl (cJ, 1, .inr (.inl f)))]) [.ref aC, .int x1, .int x2, .ref aQ]) (uQ D (some (.int j)) (uA (X ++ [(aQ, .inl (cJ, 1, .inr (.inl f)))])) (X' ++ [(aQ, .inl (cJ, 1, .inr (.inl f')))])) 1 6 (uA (X ++ [(aQ, .inl (cJ, 1, .inr (.inl f)))])) := by
  refine va_MetW (cc := cL_book) (maxL := 5) (ret := (some .int)) (hh := hhL_book) (by decide) rfl ?_
  intro p e s m args below meth c s₁ B hml hv
  obtain ⟨⟨ha, hK, hP, hD0, hX, hZ⟩, hY⟩ := hv
  have hx := B.exec
  have hb := B.bytes
  have hr := B.returns
  have hlocks := B.notSynchronized
  have hcw : (Cond.codeWith yL_book cL_book 5 (some .int) hhL_book).before args s = true := atoms_spec (ws := wsL_book) B.pre _ List.mem_cons_self
  have htab : c.exceptionTable.toList = tableOf hhL_book := vx_table (x := yL_book) B hcw
  have hts : ∀ w ∈ lw_all, w.before args s = true := fun w h => atoms_spec (ws := wsL_book) B.pre w (List.mem_cons_of_mem _ h)
  have hown : s.vm.findClass RL = some m.cls := findClass_of_methodNamed B.named
  have S : CallFix p m c cL_book 5 s args lw_all RL := ⟨hx, hb, hml, hown, hts⟩
  have hD := hD0.own
  generalize uA (X ++ [(aQ, .inl (cJ, 1, .inr (.inl f)))]) = A0 at hD hZ ⊢
  have hS : va_S A0 s.heap s.heap [] := va_S.rf
  have hl := lv_entry ([.ref aC, .int x1, .int x2, .ref aQ] : List Value) (n := 5) (Nat.le_of_ble_eq_true rfl)
  refine W.eq (g2 := F0 m 0 ((lg_sl ([.ref aC, .int x1, .int x2, .ref aQ] : List Value) ++ List.replicate (5 - (lg_sl ([.ref aC, .int x1, .int x2, .ref aQ] : List Value)).length) Slot.unset).toArray) []) (by rw [ha]; exact lg_entry_eq _ _ _) ?_
  generalize (lg_sl ([.ref aC, .int x1, .int x2, .ref aQ] : List Value) ++ List.replicate (5 - (lg_sl ([.ref aC, .int x1, .int x2, .ref aQ] : List Value)).length) Slot.unset).toArray = ls at hl ⊢
  have hl : lv_has ls 5 [(0, .ref aC), (1, .int x1), (2, .int x2), (3, .ref aQ)] := hl
  refine lv_aload_n hx hb dL_book_0 rfl (lv_at hl 3 rfl) ?_
  refine lv_iconst (v := 0) hx hb dL_book_1 (by decide) ?_
  refine lv_aload_n hx hb dL_book_2 rfl (lv_at hl 0 rfl) ?_
  refine lv_iload_n hx hb dL_book_3 rfl (lv_at hl 1 rfl) ?_
  refine lv_iload_n hx hb dL_book_4 rfl (lv_at hl 2 rfl) ?_
  refine xcallLi (vx_runV (As := [.int x1, .int x2]) (rest := [.int 0, .ref aQ]) S hM (cwV 2 hts (gd_V wd_414 wd_415 wd_416 wd_61 wd_417) rfl rfl rfl hd5_book ⟨Nat.le_of_ble_eq_true rfl, Nat.le_of_ble_eq_true rfl⟩) (xPreV2 hK hX hZ hS (wP_l hP) (wD_l hD) (ci := 5) (q := (RX5, TX5, 3)) h0 rfl) rfl rfl hl.1 rfl (lv_room (Nat.le_of_ble_eq_true rfl)) dL_book_5 ⟨Nat.le_of_ble_eq_true rfl, Nat.le_of_ble_eq_true rfl⟩) hS hP hD (fun ce q9 H locs hk0 hP hS hce hcv hcl => ?_) (fun H locs hk0 hP hS => ?_)
  · obtain rfl := hf1 hk0
    rcases hk with ⟨rfl, rfl⟩ | ⟨rfl, rfl⟩ | ⟨rfl, rfl⟩ | ⟨rfl, rfl⟩
    · exact absurd rfl hk0
    · refine vx_catch (own := RL) (name := exn 1) (E := exn 1) hown [] ⟨0, 10, 13, 13⟩ [⟨0, 10, 17, 15⟩, ⟨0, 10, 21, 24⟩] (by rw [htab]; rfl) (fun z hz => absurd hz List.not_mem_nil) (by decide) (by decide) (hts _ wd_274) (cast_exn hX (by decide)) hce hcv hcl ?_
      refine lv_astore (lv' := [(4, .ref q9), (0, .ref aC), (1, .int x1), (2, .int x2), (3, .ref aQ)]) hx hb dL_book_13 hl (by decide) rfl (fun ls hl => ?_)
      refine lv_iconst (v := 1) hx hb dL_book_15 (by decide) ?_
      exact ureti hx hb hr hlocks hP hS dL_book_16
    · refine vx_catch (own := RL) (name := exn 2) (E := exn 2) hown [⟨0, 10, 13, 13⟩] ⟨0, 10, 17, 15⟩ [⟨0, 10, 21, 24⟩] (by rw [htab]; rfl) (fun z hz => by simp only [List.mem_cons, List.not_mem_nil, or_false] at hz; subst hz; exact Or.inr ⟨by decide, exn 1, (hts _ wd_274), hY 2 1 (by decide) (by decide) (by decide)⟩) (by decide) (by decide) (hts _ wd_275) (cast_exn hX (by decide)) hce hcv hcl ?_
      refine lv_astore (lv' := [(4, .ref q9), (0, .ref aC), (1, .int x1), (2, .int x2), (3, .ref aQ)]) hx hb dL_book_17 hl (by decide) rfl (fun ls hl => ?_)
      refine lv_iconst (v := 2) hx hb dL_book_19 (by decide) ?_
      exact ureti hx hb hr hlocks hP hS dL_book_20
    · refine vx_catch (own := RL) (name := exn 3) (E := exn 3) hown [⟨0, 10, 13, 13⟩, ⟨0, 10, 17, 15⟩] ⟨0, 10, 21, 24⟩ [] (by rw [htab]; rfl) (fun z hz => by simp only [List.mem_cons, List.not_mem_nil, or_false] at hz; rcases hz with rfl | rfl; (exact Or.inr ⟨by decide, exn 1, (hts _ wd_274), hY 3 1 (by decide) (by decide) (by decide)⟩); (exact Or.inr ⟨by decide, exn 2, (hts _ wd_275), hY 3 2 (by decide) (by decide) (by decide)⟩)) (by decide) (by decide) (hts _ wd_413) (cast_exn hX (by decide)) hce hcv hcl ?_
      refine lv_astore (lv' := [(4, .ref q9), (0, .ref aC), (1, .int x1), (2, .int x2), (3, .ref aQ)]) hx hb dL_book_21 hl (by decide) rfl (fun ls hl => ?_)
      refine lv_iconst (v := 3) hx hb dL_book_23 (by decide) ?_
      exact ureti hx hb hr hlocks hP hS dL_book_24
  · rcases hk with ⟨-, rfl⟩ | ⟨h, -⟩ | ⟨h, -⟩ | ⟨h, -⟩
    · have hf := hf0 hk0
      subst hf
      refine lv_i2l hx hb dL_book_8 rfl ?_
      refine l_put hx hb hK hP (wD_re hD t) hS dL_book_9 (fun H locs hP hS => ?_)
      refine lv_goto (tgt := 25) hx hb dL_book_10 (by decide) ?_
      refine lv_iconst (v := 0) hx hb dL_book_25 (by decide) ?_
      exact ureti hx hb hr hlocks hP hS dL_book_26
    · exact absurd (hk0.symm.trans h) (by decide)
    · exact absurd (hk0.symm.trans h) (by decide)
    · exact absurd (hk0.symm.trans h) (by decide)
abbrev hhL_write : List (Nat × Nat × Nat × Nat) := [(0, 10, 13, 13), (0, 10, 17, 15), (0, 10, 21, 24)]
abbrev wsL_write : List Cond := .codeWith yL_write cL_write 5 (some .int) hhL_write :: lw_all
set_option maxRecDepth 20000 in
theorem cwL_write : (.codeWith yL_write cL_write 5 (some .int) hhL_write : Cond) ∈ lw_all := in_all 461 (by decide +kernel) (by decide +kernel)
abbrev rmL_write : Room := { frames := 8, cells := 1, slots := 6, locals := 128 }
theorem hdL_write : yL_write.cls ≠ "java/lang/invoke/MethodHandle" ∧ yL_write.cls ≠ "java/lang/invoke/VarHandle" ∧ (parseMethodDescriptor yL_write.desc).map (fun d => d.parameters.length) = some 4 := by decide +kernel
set_option maxHeartbeats 1000000 in
set_option maxRecDepth 20000 in
theorem KL_write (l : Launch) (D : va_G) (cI cZ cS cJ : ClassId) (aC aQ : Nat) (X X' : va_W) (fs : List Value) (h0 : X[0]? = some (aC, .inr (5, fs))) (t : ∀ B : Nat → Prop, va_D B X → va_D B X') (f f' : Nat → Int64) (x1 : Int32) (x2 : Int32) (k : Nat) (r j : Int32) (hk : oc3 1 2 3 k j) (hf0 : k = 0 → f' = vp_updL f 0 r.toInt64) (hf1 : k ≠ 0 → f' = f) (hM : vx_Met l yX5_write wsX5_write rm5_write (xP D (gT cI cZ cS cJ) X [.ref aC, .int x1, .int x2]) (xQ D k (some (.int r)) (uA X) X') (xX D k (uA X) X') 1 6 (uA X)) : Met l yL_write wsL_write rmL_write (wP D (gT cI cZ cS cJ) (X ++ [(aQ, .inl (cJ, 1, .inr (.inl f)))]) [.ref aC, .int x1, .int x2, .ref aQ]) (uQ D (some (.int j)) (uA (X ++ [(aQ, .inl (cJ, 1, .inr (.inl f)))])) (X' ++ [(aQ, .inl (cJ, 1, .inr (.inl f')))])) 1 6 (uA (X ++ [(aQ, .inl (cJ, 1, .inr (.inl f)))])) := by
  refine va_MetW (cc := cL_write) (maxL := 5) (ret := (some .int)) (hh := hhL_write) (by decide) rfl ?_
  intro p e s m args below meth c s₁ B hml hv
  obtain ⟨⟨ha, hK, hP, hD0, hX, hZ⟩, hY⟩ := hv
  have hx := B.exec
  have hb := B.bytes
  have hr := B.returns
  have hlocks := B.notSynchronized
  have hcw : (Cond.codeWith yL_write cL_write 5 (some .int) hhL_write).before args s = true := atoms_spec (ws := wsL_write) B.pre _ List.mem_cons_self
  have htab : c.exceptionTable.toList = tableOf hhL_write := vx_table (x := yL_write) B hcw
  have hts : ∀ w ∈ lw_all, w.before args s = true := fun w h => atoms_spec (ws := wsL_write) B.pre w (List.mem_cons_of_mem _ h)
  have hown : s.vm.findClass RL = some m.cls := findClass_of_methodNamed B.named
  have S : CallFix p m c cL_write 5 s args lw_all RL := ⟨hx, hb, hml, hown, hts⟩
  have hD := hD0.own
  generalize uA (X ++ [(aQ, .inl (cJ, 1, .inr (.inl f)))]) = A0 at hD hZ ⊢
  have hS : va_S A0 s.heap s.heap [] := va_S.rf
  have hl := lv_entry ([.ref aC, .int x1, .int x2, .ref aQ] : List Value) (n := 5) (Nat.le_of_ble_eq_true rfl)
  refine W.eq (g2 := F0 m 0 ((lg_sl ([.ref aC, .int x1, .int x2, .ref aQ] : List Value) ++ List.replicate (5 - (lg_sl ([.ref aC, .int x1, .int x2, .ref aQ] : List Value)).length) Slot.unset).toArray) []) (by rw [ha]; exact lg_entry_eq _ _ _) ?_
  generalize (lg_sl ([.ref aC, .int x1, .int x2, .ref aQ] : List Value) ++ List.replicate (5 - (lg_sl ([.ref aC, .int x1, .int x2, .ref aQ] : List Value)).length) Slot.unset).toArray = ls at hl ⊢
  have hl : lv_has ls 5 [(0, .ref aC), (1, .int x1), (2, .int x2), (3, .ref aQ)] := hl
  refine lv_aload_n hx hb dL_write_0 rfl (lv_at hl 3 rfl) ?_
  refine lv_iconst (v := 0) hx hb dL_write_1 (by decide) ?_
  refine lv_aload_n hx hb dL_write_2 rfl (lv_at hl 0 rfl) ?_
  refine lv_iload_n hx hb dL_write_3 rfl (lv_at hl 1 rfl) ?_
  refine lv_iload_n hx hb dL_write_4 rfl (lv_at hl 2 rfl) ?_
  refine xcallLi (vx_runV (As := [.int x1, .int x2]) (rest := [.int 0, .ref aQ]) S hM (cwV 2 hts (gd_V wd_462 wd_463 wd_464 wd_61 wd_465) rfl rfl rfl hd5_write ⟨Nat.le_of_ble_eq_true rfl, Nat.le_of_ble_eq_true rfl⟩) (xPreV2 hK hX hZ hS (wP_l hP) (wD_l hD) (ci := 5) (q := (RX5, TX5, 3)) h0 rfl) rfl rfl hl.1 rfl (lv_room (Nat.le_of_ble_eq_true rfl)) dL_write_5 ⟨Nat.le_of_ble_eq_true rfl, Nat.le_of_ble_eq_true rfl⟩) hS hP hD (fun ce q9 H locs hk0 hP hS hce hcv hcl => ?_) (fun H locs hk0 hP hS => ?_)
  · obtain rfl := hf1 hk0
    rcases hk with ⟨rfl, rfl⟩ | ⟨rfl, rfl⟩ | ⟨rfl, rfl⟩ | ⟨rfl, rfl⟩
    · exact absurd rfl hk0
    · refine vx_catch (own := RL) (name := exn 1) (E := exn 1) hown [] ⟨0, 10, 13, 13⟩ [⟨0, 10, 17, 15⟩, ⟨0, 10, 21, 24⟩] (by rw [htab]; rfl) (fun z hz => absurd hz List.not_mem_nil) (by decide) (by decide) (hts _ wd_274) (cast_exn hX (by decide)) hce hcv hcl ?_
      refine lv_astore (lv' := [(4, .ref q9), (0, .ref aC), (1, .int x1), (2, .int x2), (3, .ref aQ)]) hx hb dL_write_13 hl (by decide) rfl (fun ls hl => ?_)
      refine lv_iconst (v := 1) hx hb dL_write_15 (by decide) ?_
      exact ureti hx hb hr hlocks hP hS dL_write_16
    · refine vx_catch (own := RL) (name := exn 2) (E := exn 2) hown [⟨0, 10, 13, 13⟩] ⟨0, 10, 17, 15⟩ [⟨0, 10, 21, 24⟩] (by rw [htab]; rfl) (fun z hz => by simp only [List.mem_cons, List.not_mem_nil, or_false] at hz; subst hz; exact Or.inr ⟨by decide, exn 1, (hts _ wd_274), hY 2 1 (by decide) (by decide) (by decide)⟩) (by decide) (by decide) (hts _ wd_275) (cast_exn hX (by decide)) hce hcv hcl ?_
      refine lv_astore (lv' := [(4, .ref q9), (0, .ref aC), (1, .int x1), (2, .int x2), (3, .ref aQ)]) hx hb dL_write_17 hl (by decide) rfl (fun ls hl => ?_)
      refine lv_iconst (v := 2) hx hb dL_write_19 (by decide) ?_
      exact ureti hx hb hr hlocks hP hS dL_write_20
    · refine vx_catch (own := RL) (name := exn 3) (E := exn 3) hown [⟨0, 10, 13, 13⟩, ⟨0, 10, 17, 15⟩] ⟨0, 10, 21, 24⟩ [] (by rw [htab]; rfl) (fun z hz => by simp only [List.mem_cons, List.not_mem_nil, or_false] at hz; rcases hz with rfl | rfl; (exact Or.inr ⟨by decide, exn 1, (hts _ wd_274), hY 3 1 (by decide) (by decide) (by decide)⟩); (exact Or.inr ⟨by decide, exn 2, (hts _ wd_275), hY 3 2 (by decide) (by decide) (by decide)⟩)) (by decide) (by decide) (hts _ wd_413) (cast_exn hX (by decide)) hce hcv hcl ?_
      refine lv_astore (lv' := [(4, .ref q9), (0, .ref aC), (1, .int x1), (2, .int x2), (3, .ref aQ)]) hx hb dL_write_21 hl (by decide) rfl (fun ls hl => ?_)
      refine lv_iconst (v := 3) hx hb dL_write_23 (by decide) ?_
      exact ureti hx hb hr hlocks hP hS dL_write_24
  · rcases hk with ⟨-, rfl⟩ | ⟨h, -⟩ | ⟨h, -⟩ | ⟨h, -⟩
    · have hf := hf0 hk0
      subst hf
      refine lv_i2l hx hb dL_write_8 rfl ?_
      refine l_put hx hb hK hP (wD_re hD t) hS dL_write_9 (fun H locs hP hS => ?_)
      refine lv_goto (tgt := 25) hx hb dL_write_10 (by decide) ?_
      refine lv_iconst (v := 0) hx hb dL_write_25 (by decide) ?_
      exact ureti hx hb hr hlocks hP hS dL_write_26
    · exact absurd (hk0.symm.trans h) (by decide)
    · exact absurd (hk0.symm.trans h) (by decide)
    · exact absurd (hk0.symm.trans h) (by decide)
abbrev hhL_cash : List (Nat × Nat × Nat × Nat) := [(0, 10, 13, 13), (0, 10, 17, 15)]
abbrev wsL_cash : List Cond := .codeWith yL_cash cL_cash 5 (some .int) hhL_cash :: lw_all
set_option maxRecDepth 20000 in
theorem cwL_cash : (.codeWith yL_cash cL_cash 5 (some .int) hhL_cash : Cond) ∈ lw_all := in_all 490 (by decide +kernel) (by decide +kernel)
abbrev rmL_cash : Room := { frames := 8, cells := 2, slots := 12, locals := 128 }
theorem hdL_cash : yL_cash.cls ≠ "java/lang/invoke/MethodHandle" ∧ yL_cash.cls ≠ "java/lang/invoke/VarHandle" ∧ (parseMethodDescriptor yL_cash.desc).map (fun d => d.parameters.length) = some 4 := by decide +kernel
set_option maxHeartbeats 1000000 in
set_option maxRecDepth 20000 in
theorem KL_cash (l : Launch) (D : va_G) (cI cZ cS cJ : ClassId) (aC aQ : Nat) (X X' : va_W) (fs : List Value) (h0 : X[0]? = some (aC, .inr (5, fs))) (t : ∀ B : Nat → Prop, va_D B X → va_D B X') (f f' : Nat → Int64) (x1 : Int32) (x2 : Int32) (k : Nat) (r j : Int32) (hk : oc2 1 2 k j) (hf0 : k = 0 → f' = vp_updL f 0 r.toInt64) (hf1 : k ≠ 0 → f' = f) (hM : vx_Met l yX5_cash wsX5_cash rm5_cash (xP D (gT cI cZ cS cJ) X [.ref aC, .int x1, .int x2]) (xQ D k (some (.int r)) (uA X) X') (xX D k (uA X) X') 2 12 (uA X)) : Met l yL_cash wsL_cash rmL_cash (wP D (gT cI cZ cS cJ) (X ++ [(aQ, .inl (cJ, 1, .inr (.inl f)))]) [.ref aC, .int x1, .int x2, .ref aQ]) (uQ D (some (.int j)) (uA (X ++ [(aQ, .inl (cJ, 1, .inr (.inl f)))])) (X' ++ [(aQ, .inl (cJ, 1, .inr (.inl f')))])) 2 12 (uA (X ++ [(aQ, .inl (cJ, 1, .inr (.inl f)))])) := by
  refine va_MetW (cc := cL_cash) (maxL := 5) (ret := (some .int)) (hh := hhL_cash) (by decide) rfl ?_
  intro p e s m args below meth c s₁ B hml hv
  obtain ⟨⟨ha, hK, hP, hD0, hX, hZ⟩, hY⟩ := hv
  have hx := B.exec
  have hb := B.bytes
  have hr := B.returns
  have hlocks := B.notSynchronized
  have hcw : (Cond.codeWith yL_cash cL_cash 5 (some .int) hhL_cash).before args s = true := atoms_spec (ws := wsL_cash) B.pre _ List.mem_cons_self
  have htab : c.exceptionTable.toList = tableOf hhL_cash := vx_table (x := yL_cash) B hcw
  have hts : ∀ w ∈ lw_all, w.before args s = true := fun w h => atoms_spec (ws := wsL_cash) B.pre w (List.mem_cons_of_mem _ h)
  have hown : s.vm.findClass RL = some m.cls := findClass_of_methodNamed B.named
  have S : CallFix p m c cL_cash 5 s args lw_all RL := ⟨hx, hb, hml, hown, hts⟩
  have hD := hD0.own
  generalize uA (X ++ [(aQ, .inl (cJ, 1, .inr (.inl f)))]) = A0 at hD hZ ⊢
  have hS : va_S A0 s.heap s.heap [] := va_S.rf
  have hl := lv_entry ([.ref aC, .int x1, .int x2, .ref aQ] : List Value) (n := 5) (Nat.le_of_ble_eq_true rfl)
  refine W.eq (g2 := F0 m 0 ((lg_sl ([.ref aC, .int x1, .int x2, .ref aQ] : List Value) ++ List.replicate (5 - (lg_sl ([.ref aC, .int x1, .int x2, .ref aQ] : List Value)).length) Slot.unset).toArray) []) (by rw [ha]; exact lg_entry_eq _ _ _) ?_
  generalize (lg_sl ([.ref aC, .int x1, .int x2, .ref aQ] : List Value) ++ List.replicate (5 - (lg_sl ([.ref aC, .int x1, .int x2, .ref aQ] : List Value)).length) Slot.unset).toArray = ls at hl ⊢
  have hl : lv_has ls 5 [(0, .ref aC), (1, .int x1), (2, .int x2), (3, .ref aQ)] := hl
  refine lv_aload_n hx hb dL_cash_0 rfl (lv_at hl 3 rfl) ?_
  refine lv_iconst (v := 0) hx hb dL_cash_1 (by decide) ?_
  refine lv_aload_n hx hb dL_cash_2 rfl (lv_at hl 0 rfl) ?_
  refine lv_iload_n hx hb dL_cash_3 rfl (lv_at hl 1 rfl) ?_
  refine lv_iload_n hx hb dL_cash_4 rfl (lv_at hl 2 rfl) ?_
  refine xcallLi (vx_runV (As := [.int x1, .int x2]) (rest := [.int 0, .ref aQ]) S hM (cwV 2 hts (gd_V wd_491 wd_492 wd_493 wd_61 wd_494) rfl rfl rfl hd5_cash ⟨Nat.le_of_ble_eq_true rfl, Nat.le_of_ble_eq_true rfl⟩) (xPreV2 hK hX hZ hS (wP_l hP) (wD_l hD) (ci := 5) (q := (RX5, TX5, 3)) h0 rfl) rfl rfl hl.1 rfl (lv_room (Nat.le_of_ble_eq_true rfl)) dL_cash_5 ⟨Nat.le_of_ble_eq_true rfl, Nat.le_of_ble_eq_true rfl⟩) hS hP hD (fun ce q9 H locs hk0 hP hS hce hcv hcl => ?_) (fun H locs hk0 hP hS => ?_)
  · obtain rfl := hf1 hk0
    rcases hk with ⟨rfl, rfl⟩ | ⟨rfl, rfl⟩ | ⟨rfl, rfl⟩
    · exact absurd rfl hk0
    · refine vx_catch (own := RL) (name := exn 1) (E := exn 1) hown [] ⟨0, 10, 13, 13⟩ [⟨0, 10, 17, 15⟩] (by rw [htab]; rfl) (fun z hz => absurd hz List.not_mem_nil) (by decide) (by decide) (hts _ wd_274) (cast_exn hX (by decide)) hce hcv hcl ?_
      refine lv_astore (lv' := [(4, .ref q9), (0, .ref aC), (1, .int x1), (2, .int x2), (3, .ref aQ)]) hx hb dL_cash_13 hl (by decide) rfl (fun ls hl => ?_)
      refine lv_iconst (v := 1) hx hb dL_cash_15 (by decide) ?_
      exact ureti hx hb hr hlocks hP hS dL_cash_16
    · refine vx_catch (own := RL) (name := exn 2) (E := exn 2) hown [⟨0, 10, 13, 13⟩] ⟨0, 10, 17, 15⟩ [] (by rw [htab]; rfl) (fun z hz => by simp only [List.mem_cons, List.not_mem_nil, or_false] at hz; subst hz; exact Or.inr ⟨by decide, exn 1, (hts _ wd_274), hY 2 1 (by decide) (by decide) (by decide)⟩) (by decide) (by decide) (hts _ wd_275) (cast_exn hX (by decide)) hce hcv hcl ?_
      refine lv_astore (lv' := [(4, .ref q9), (0, .ref aC), (1, .int x1), (2, .int x2), (3, .ref aQ)]) hx hb dL_cash_17 hl (by decide) rfl (fun ls hl => ?_)
      refine lv_iconst (v := 2) hx hb dL_cash_19 (by decide) ?_
      exact ureti hx hb hr hlocks hP hS dL_cash_20
  · rcases hk with ⟨-, rfl⟩ | ⟨h, -⟩ | ⟨h, -⟩
    · have hf := hf0 hk0
      subst hf
      refine lv_i2l hx hb dL_cash_8 rfl ?_
      refine l_put hx hb hK hP (wD_re hD t) hS dL_cash_9 (fun H locs hP hS => ?_)
      refine lv_goto (tgt := 21) hx hb dL_cash_10 (by decide) ?_
      refine lv_iconst (v := 0) hx hb dL_cash_21 (by decide) ?_
      exact ureti hx hb hr hlocks hP hS dL_cash_22
    · exact absurd (hk0.symm.trans h) (by decide)
    · exact absurd (hk0.symm.trans h) (by decide)
abbrev hhL_voidRun : List (Nat × Nat × Nat × Nat) := [(0, 10, 13, 13), (0, 10, 17, 15)]
abbrev wsL_voidRun : List Cond := .codeWith yL_voidRun cL_voidRun 5 (some .int) hhL_voidRun :: lw_all
set_option maxRecDepth 20000 in
theorem cwL_voidRun : (.codeWith yL_voidRun cL_voidRun 5 (some .int) hhL_voidRun : Cond) ∈ lw_all := in_all 521 (by decide +kernel) (by decide +kernel)
abbrev rmL_voidRun : Room := { frames := 8, cells := 1, slots := 6, locals := 128 }
theorem hdL_voidRun : yL_voidRun.cls ≠ "java/lang/invoke/MethodHandle" ∧ yL_voidRun.cls ≠ "java/lang/invoke/VarHandle" ∧ (parseMethodDescriptor yL_voidRun.desc).map (fun d => d.parameters.length) = some 4 := by decide +kernel
set_option maxHeartbeats 1000000 in
set_option maxRecDepth 20000 in
theorem KL_voidRun (l : Launch) (D : va_G) (cI cZ cS cJ : ClassId) (aC aQ : Nat) (X X' : va_W) (fs : List Value) (h0 : X[0]? = some (aC, .inr (5, fs))) (t : ∀ B : Nat → Prop, va_D B X → va_D B X') (f f' : Nat → Int64) (x1 : Int32) (x2 : Int32) (k : Nat) (r j : Int32) (hk : oc2 1 2 k j) (hf0 : k = 0 → f' = vp_updL f 0 r.toInt64) (hf1 : k ≠ 0 → f' = f) (hM : vx_Met l yX5_voidRun wsX5_voidRun rm5_voidRun (xP D (gT cI cZ cS cJ) X [.ref aC, .int x1, .int x2]) (xQ D k (some (.int r)) (uA X) X') (xX D k (uA X) X') 1 6 (uA X)) : Met l yL_voidRun wsL_voidRun rmL_voidRun (wP D (gT cI cZ cS cJ) (X ++ [(aQ, .inl (cJ, 1, .inr (.inl f)))]) [.ref aC, .int x1, .int x2, .ref aQ]) (uQ D (some (.int j)) (uA (X ++ [(aQ, .inl (cJ, 1, .inr (.inl f)))])) (X' ++ [(aQ, .inl (cJ, 1, .inr (.inl f')))])) 1 6 (uA (X ++ [(aQ, .inl (cJ, 1, .inr (.inl f)))])) := by
  refine va_MetW (cc := cL_voidRun) (maxL := 5) (ret := (some .int)) (hh := hhL_voidRun) (by decide) rfl ?_
  intro p e s m args below meth c s₁ B hml hv
  obtain ⟨⟨ha, hK, hP, hD0, hX, hZ⟩, hY⟩ := hv
  have hx := B.exec
  have hb := B.bytes
  have hr := B.returns
  have hlocks := B.notSynchronized
  have hcw : (Cond.codeWith yL_voidRun cL_voidRun 5 (some .int) hhL_voidRun).before args s = true := atoms_spec (ws := wsL_voidRun) B.pre _ List.mem_cons_self
  have htab : c.exceptionTable.toList = tableOf hhL_voidRun := vx_table (x := yL_voidRun) B hcw
  have hts : ∀ w ∈ lw_all, w.before args s = true := fun w h => atoms_spec (ws := wsL_voidRun) B.pre w (List.mem_cons_of_mem _ h)
  have hown : s.vm.findClass RL = some m.cls := findClass_of_methodNamed B.named
  have S : CallFix p m c cL_voidRun 5 s args lw_all RL := ⟨hx, hb, hml, hown, hts⟩
  have hD := hD0.own
  generalize uA (X ++ [(aQ, .inl (cJ, 1, .inr (.inl f)))]) = A0 at hD hZ ⊢
  have hS : va_S A0 s.heap s.heap [] := va_S.rf
  have hl := lv_entry ([.ref aC, .int x1, .int x2, .ref aQ] : List Value) (n := 5) (Nat.le_of_ble_eq_true rfl)
  refine W.eq (g2 := F0 m 0 ((lg_sl ([.ref aC, .int x1, .int x2, .ref aQ] : List Value) ++ List.replicate (5 - (lg_sl ([.ref aC, .int x1, .int x2, .ref aQ] : List Value)).length) Slot.unset).toArray) []) (by rw [ha]; exact lg_entry_eq _ _ _) ?_
  generalize (lg_sl ([.ref aC, .int x1, .int x2, .ref aQ] : List Value) ++ List.replicate (5 - (lg_sl ([.ref aC, .int x1, .int x2, .ref aQ] : List Value)).length) Slot.unset).toArray = ls at hl ⊢
  have hl : lv_has ls 5 [(0, .ref aC), (1, .int x1), (2, .int x2), (3, .ref aQ)] := hl
  refine lv_aload_n hx hb dL_voidRun_0 rfl (lv_at hl 3 rfl) ?_
  refine lv_iconst (v := 0) hx hb dL_voidRun_1 (by decide) ?_
  refine lv_aload_n hx hb dL_voidRun_2 rfl (lv_at hl 0 rfl) ?_
  refine lv_iload_n hx hb dL_voidRun_3 rfl (lv_at hl 1 rfl) ?_
  refine lv_iload_n hx hb dL_voidRun_4 rfl (lv_at hl 2 rfl) ?_
  refine xcallLi (vx_runV (As := [.int x1, .int x2]) (rest := [.int 0, .ref aQ]) S hM (cwV 2 hts (gd_V wd_522 wd_523 wd_524 wd_61 wd_525) rfl rfl rfl hd5_voidRun ⟨Nat.le_of_ble_eq_true rfl, Nat.le_of_ble_eq_true rfl⟩) (xPreV2 hK hX hZ hS (wP_l hP) (wD_l hD) (ci := 5) (q := (RX5, TX5, 3)) h0 rfl) rfl rfl hl.1 rfl (lv_room (Nat.le_of_ble_eq_true rfl)) dL_voidRun_5 ⟨Nat.le_of_ble_eq_true rfl, Nat.le_of_ble_eq_true rfl⟩) hS hP hD (fun ce q9 H locs hk0 hP hS hce hcv hcl => ?_) (fun H locs hk0 hP hS => ?_)
  · obtain rfl := hf1 hk0
    rcases hk with ⟨rfl, rfl⟩ | ⟨rfl, rfl⟩ | ⟨rfl, rfl⟩
    · exact absurd rfl hk0
    · refine vx_catch (own := RL) (name := exn 1) (E := exn 1) hown [] ⟨0, 10, 13, 13⟩ [⟨0, 10, 17, 15⟩] (by rw [htab]; rfl) (fun z hz => absurd hz List.not_mem_nil) (by decide) (by decide) (hts _ wd_274) (cast_exn hX (by decide)) hce hcv hcl ?_
      refine lv_astore (lv' := [(4, .ref q9), (0, .ref aC), (1, .int x1), (2, .int x2), (3, .ref aQ)]) hx hb dL_voidRun_13 hl (by decide) rfl (fun ls hl => ?_)
      refine lv_iconst (v := 1) hx hb dL_voidRun_15 (by decide) ?_
      exact ureti hx hb hr hlocks hP hS dL_voidRun_16
    · refine vx_catch (own := RL) (name := exn 2) (E := exn 2) hown [⟨0, 10, 13, 13⟩] ⟨0, 10, 17, 15⟩ [] (by rw [htab]; rfl) (fun z hz => by simp only [List.mem_cons, List.not_mem_nil, or_false] at hz; subst hz; exact Or.inr ⟨by decide, exn 1, (hts _ wd_274), hY 2 1 (by decide) (by decide) (by decide)⟩) (by decide) (by decide) (hts _ wd_275) (cast_exn hX (by decide)) hce hcv hcl ?_
      refine lv_astore (lv' := [(4, .ref q9), (0, .ref aC), (1, .int x1), (2, .int x2), (3, .ref aQ)]) hx hb dL_voidRun_17 hl (by decide) rfl (fun ls hl => ?_)
      refine lv_iconst (v := 2) hx hb dL_voidRun_19 (by decide) ?_
      exact ureti hx hb hr hlocks hP hS dL_voidRun_20
  · rcases hk with ⟨-, rfl⟩ | ⟨h, -⟩ | ⟨h, -⟩
    · have hf := hf0 hk0
      subst hf
      refine lv_i2l hx hb dL_voidRun_8 rfl ?_
      refine l_put hx hb hK hP (wD_re hD t) hS dL_voidRun_9 (fun H locs hP hS => ?_)
      refine lv_goto (tgt := 21) hx hb dL_voidRun_10 (by decide) ?_
      refine lv_iconst (v := 0) hx hb dL_voidRun_21 (by decide) ?_
      exact ureti hx hb hr hlocks hP hS dL_voidRun_22
    · exact absurd (hk0.symm.trans h) (by decide)
    · exact absurd (hk0.symm.trans h) (by decide)
abbrev hhL_append : List (Nat × Nat × Nat × Nat) := [(0, 9, 12, 15), (0, 9, 15, 24)]
abbrev wsL_append : List Cond := .codeWith yL_append cL_append 4 (some .int) hhL_append :: lw_all
set_option maxRecDepth 20000 in
theorem cwL_append : (.codeWith yL_append cL_append 4 (some .int) hhL_append : Cond) ∈ lw_all := in_all 545 (by decide +kernel) (by decide +kernel)
abbrev rmL_append : Room := { frames := 7, cells := 1, slots := 6, locals := 103 }
theorem hdL_append : yL_append.cls ≠ "java/lang/invoke/MethodHandle" ∧ yL_append.cls ≠ "java/lang/invoke/VarHandle" ∧ (parseMethodDescriptor yL_append.desc).map (fun d => d.parameters.length) = some 3 := by decide +kernel
set_option maxHeartbeats 1000000 in
set_option maxRecDepth 20000 in
theorem KL_append (l : Launch) (D : va_G) (cI cZ cS cJ : ClassId) (aC aQ : Nat) (X X' : va_W) (fs : List Value) (h0 : X[0]? = some (aC, .inr (5, fs))) (t : ∀ B : Nat → Prop, va_D B X → va_D B X') (f f' : Nat → Int64) (x1 : Int32) (k : Nat) (r j : Int32) (hk : oc2 2 3 k j) (hf0 : k = 0 → f' = vp_updL f 0 r.toInt64) (hf1 : k ≠ 0 → f' = f) (hM : vx_Met l yX5_append wsX5_append rm5_append (xP D (gT cI cZ cS cJ) X [.ref aC, .int x1]) (xQ D k (some (.int r)) (uA X) X') (xX D k (uA X) X') 1 6 (uA X)) : Met l yL_append wsL_append rmL_append (wP D (gT cI cZ cS cJ) (X ++ [(aQ, .inl (cJ, 1, .inr (.inl f)))]) [.ref aC, .int x1, .ref aQ]) (uQ D (some (.int j)) (uA (X ++ [(aQ, .inl (cJ, 1, .inr (.inl f)))])) (X' ++ [(aQ, .inl (cJ, 1, .inr (.inl f')))])) 1 6 (uA (X ++ [(aQ, .inl (cJ, 1, .inr (.inl f)))])) := by
  refine va_MetW (cc := cL_append) (maxL := 4) (ret := (some .int)) (hh := hhL_append) (by decide) rfl ?_
  intro p e s m args below meth c s₁ B hml hv
  obtain ⟨⟨ha, hK, hP, hD0, hX, hZ⟩, hY⟩ := hv
  have hx := B.exec
  have hb := B.bytes
  have hr := B.returns
  have hlocks := B.notSynchronized
  have hcw : (Cond.codeWith yL_append cL_append 4 (some .int) hhL_append).before args s = true := atoms_spec (ws := wsL_append) B.pre _ List.mem_cons_self
  have htab : c.exceptionTable.toList = tableOf hhL_append := vx_table (x := yL_append) B hcw
  have hts : ∀ w ∈ lw_all, w.before args s = true := fun w h => atoms_spec (ws := wsL_append) B.pre w (List.mem_cons_of_mem _ h)
  have hown : s.vm.findClass RL = some m.cls := findClass_of_methodNamed B.named
  have S : CallFix p m c cL_append 4 s args lw_all RL := ⟨hx, hb, hml, hown, hts⟩
  have hD := hD0.own
  generalize uA (X ++ [(aQ, .inl (cJ, 1, .inr (.inl f)))]) = A0 at hD hZ ⊢
  have hS : va_S A0 s.heap s.heap [] := va_S.rf
  have hl := lv_entry ([.ref aC, .int x1, .ref aQ] : List Value) (n := 4) (Nat.le_of_ble_eq_true rfl)
  refine W.eq (g2 := F0 m 0 ((lg_sl ([.ref aC, .int x1, .ref aQ] : List Value) ++ List.replicate (4 - (lg_sl ([.ref aC, .int x1, .ref aQ] : List Value)).length) Slot.unset).toArray) []) (by rw [ha]; exact lg_entry_eq _ _ _) ?_
  generalize (lg_sl ([.ref aC, .int x1, .ref aQ] : List Value) ++ List.replicate (4 - (lg_sl ([.ref aC, .int x1, .ref aQ] : List Value)).length) Slot.unset).toArray = ls at hl ⊢
  have hl : lv_has ls 4 [(0, .ref aC), (1, .int x1), (2, .ref aQ)] := hl
  refine lv_aload_n hx hb dL_append_0 rfl (lv_at hl 2 rfl) ?_
  refine lv_iconst (v := 0) hx hb dL_append_1 (by decide) ?_
  refine lv_aload_n hx hb dL_append_2 rfl (lv_at hl 0 rfl) ?_
  refine lv_iload_n hx hb dL_append_3 rfl (lv_at hl 1 rfl) ?_
  refine xcallLi (vx_runV (As := [.int x1]) (rest := [.int 0, .ref aQ]) S hM (cwV 1 hts (gd_V wd_546 wd_547 wd_548 wd_61 wd_549) rfl rfl rfl hd5_append ⟨Nat.le_of_ble_eq_true rfl, Nat.le_of_ble_eq_true rfl⟩) (xPreV2 hK hX hZ hS (wP_l hP) (wD_l hD) (ci := 5) (q := (RX5, TX5, 3)) h0 rfl) rfl rfl hl.1 rfl (lv_room (Nat.le_of_ble_eq_true rfl)) dL_append_4 ⟨Nat.le_of_ble_eq_true rfl, Nat.le_of_ble_eq_true rfl⟩) hS hP hD (fun ce q9 H locs hk0 hP hS hce hcv hcl => ?_) (fun H locs hk0 hP hS => ?_)
  · obtain rfl := hf1 hk0
    rcases hk with ⟨rfl, rfl⟩ | ⟨rfl, rfl⟩ | ⟨rfl, rfl⟩
    · exact absurd rfl hk0
    · refine vx_catch (own := RL) (name := exn 2) (E := exn 2) hown [] ⟨0, 9, 12, 15⟩ [⟨0, 9, 15, 24⟩] (by rw [htab]; rfl) (fun z hz => absurd hz List.not_mem_nil) (by decide) (by decide) (hts _ wd_275) (cast_exn hX (by decide)) hce hcv hcl ?_
      refine lv_astore_n (lv' := [(3, .ref q9), (0, .ref aC), (1, .int x1), (2, .ref aQ)]) hx hb dL_append_12 rfl hl (by decide) rfl (fun ls hl => ?_)
      refine lv_iconst (v := 1) hx hb dL_append_13 (by decide) ?_
      exact ureti hx hb hr hlocks hP hS dL_append_14
    · refine vx_catch (own := RL) (name := exn 3) (E := exn 3) hown [⟨0, 9, 12, 15⟩] ⟨0, 9, 15, 24⟩ [] (by rw [htab]; rfl) (fun z hz => by simp only [List.mem_cons, List.not_mem_nil, or_false] at hz; subst hz; exact Or.inr ⟨by decide, exn 2, (hts _ wd_275), hY 3 2 (by decide) (by decide) (by decide)⟩) (by decide) (by decide) (hts _ wd_413) (cast_exn hX (by decide)) hce hcv hcl ?_
      refine lv_astore_n (lv' := [(3, .ref q9), (0, .ref aC), (1, .int x1), (2, .ref aQ)]) hx hb dL_append_15 rfl hl (by decide) rfl (fun ls hl => ?_)
      refine lv_iconst (v := 2) hx hb dL_append_16 (by decide) ?_
      exact ureti hx hb hr hlocks hP hS dL_append_17
  · rcases hk with ⟨-, rfl⟩ | ⟨h, -⟩ | ⟨h, -⟩
    · have hf := hf0 hk0
      subst hf
      refine lv_i2l hx hb dL_append_7 rfl ?_
      refine l_put hx hb hK hP (wD_re hD t) hS dL_append_8 (fun H locs hP hS => ?_)
      refine lv_goto (tgt := 18) hx hb dL_append_9 (by decide) ?_
      refine lv_iconst (v := 0) hx hb dL_append_18 (by decide) ?_
      exact ureti hx hb hr hlocks hP hS dL_append_19
    · exact absurd (hk0.symm.trans h) (by decide)
    · exact absurd (hk0.symm.trans h) (by decide)
abbrev hhL_execute : List (Nat × Nat × Nat × Nat) := [(0, 8, 11, 15)]
abbrev wsL_execute : List Cond := .codeWith yL_execute cL_execute 3 (some .int) hhL_execute :: lw_all
set_option maxRecDepth 20000 in
theorem cwL_execute : (.codeWith yL_execute cL_execute 3 (some .int) hhL_execute : Cond) ∈ lw_all := in_all 562 (by decide +kernel) (by decide +kernel)
abbrev rmL_execute : Room := { frames := 7, cells := 1, slots := 6, locals := 163 }
theorem hdL_execute : yL_execute.cls ≠ "java/lang/invoke/MethodHandle" ∧ yL_execute.cls ≠ "java/lang/invoke/VarHandle" ∧ (parseMethodDescriptor yL_execute.desc).map (fun d => d.parameters.length) = some 2 := by decide +kernel
set_option maxHeartbeats 1000000 in
set_option maxRecDepth 20000 in
theorem KL_execute (l : Launch) (D : va_G) (cI cZ cS cJ : ClassId) (aC aQ : Nat) (X X' : va_W) (fs : List Value) (h0 : X[0]? = some (aC, .inr (5, fs))) (t : ∀ B : Nat → Prop, va_D B X → va_D B X') (f f' : Nat → Int64) (k : Nat) (r j : Int32) (hk : oc1 2 k j) (hf0 : k = 0 → f' = vp_updL f 0 r.toInt64) (hf1 : k ≠ 0 → f' = f) (hM : vx_Met l yX5_execute wsX5_execute rm5_execute (xP D (gT cI cZ cS cJ) X [.ref aC]) (xQ D k (some (.int r)) (uA X) X') (xX D k (uA X) X') 1 6 (uA X)) : Met l yL_execute wsL_execute rmL_execute (wP D (gT cI cZ cS cJ) (X ++ [(aQ, .inl (cJ, 1, .inr (.inl f)))]) [.ref aC, .ref aQ]) (uQ D (some (.int j)) (uA (X ++ [(aQ, .inl (cJ, 1, .inr (.inl f)))])) (X' ++ [(aQ, .inl (cJ, 1, .inr (.inl f')))])) 1 6 (uA (X ++ [(aQ, .inl (cJ, 1, .inr (.inl f)))])) := by
  refine va_MetW (cc := cL_execute) (maxL := 3) (ret := (some .int)) (hh := hhL_execute) (by decide) rfl ?_
  intro p e s m args below meth c s₁ B hml hv
  obtain ⟨⟨ha, hK, hP, hD0, hX, hZ⟩, hY⟩ := hv
  have hx := B.exec
  have hb := B.bytes
  have hr := B.returns
  have hlocks := B.notSynchronized
  have hcw : (Cond.codeWith yL_execute cL_execute 3 (some .int) hhL_execute).before args s = true := atoms_spec (ws := wsL_execute) B.pre _ List.mem_cons_self
  have htab : c.exceptionTable.toList = tableOf hhL_execute := vx_table (x := yL_execute) B hcw
  have hts : ∀ w ∈ lw_all, w.before args s = true := fun w h => atoms_spec (ws := wsL_execute) B.pre w (List.mem_cons_of_mem _ h)
  have hown : s.vm.findClass RL = some m.cls := findClass_of_methodNamed B.named
  have S : CallFix p m c cL_execute 3 s args lw_all RL := ⟨hx, hb, hml, hown, hts⟩
  have hD := hD0.own
  generalize uA (X ++ [(aQ, .inl (cJ, 1, .inr (.inl f)))]) = A0 at hD hZ ⊢
  have hS : va_S A0 s.heap s.heap [] := va_S.rf
  have hl := lv_entry ([.ref aC, .ref aQ] : List Value) (n := 3) (Nat.le_of_ble_eq_true rfl)
  refine W.eq (g2 := F0 m 0 ((lg_sl ([.ref aC, .ref aQ] : List Value) ++ List.replicate (3 - (lg_sl ([.ref aC, .ref aQ] : List Value)).length) Slot.unset).toArray) []) (by rw [ha]; exact lg_entry_eq _ _ _) ?_
  generalize (lg_sl ([.ref aC, .ref aQ] : List Value) ++ List.replicate (3 - (lg_sl ([.ref aC, .ref aQ] : List Value)).length) Slot.unset).toArray = ls at hl ⊢
  have hl : lv_has ls 3 [(0, .ref aC), (1, .ref aQ)] := hl
  refine lv_aload_n hx hb dL_execute_0 rfl (lv_at hl 1 rfl) ?_
  refine lv_iconst (v := 0) hx hb dL_execute_1 (by decide) ?_
  refine lv_aload_n hx hb dL_execute_2 rfl (lv_at hl 0 rfl) ?_
  refine xcallLi (vx_runV (As := []) (rest := [.int 0, .ref aQ]) S hM (cwV 0 hts (gd_V wd_563 wd_564 wd_565 wd_61 wd_566) rfl rfl rfl hd5_execute ⟨Nat.le_of_ble_eq_true rfl, Nat.le_of_ble_eq_true rfl⟩) (xPreV2 hK hX hZ hS (wP_l hP) (wD_l hD) (ci := 5) (q := (RX5, TX5, 3)) h0 rfl) rfl rfl hl.1 rfl (lv_room (Nat.le_of_ble_eq_true rfl)) dL_execute_3 ⟨Nat.le_of_ble_eq_true rfl, Nat.le_of_ble_eq_true rfl⟩) hS hP hD (fun ce q9 H locs hk0 hP hS hce hcv hcl => ?_) (fun H locs hk0 hP hS => ?_)
  · obtain rfl := hf1 hk0
    rcases hk with ⟨rfl, rfl⟩ | ⟨rfl, rfl⟩
    · exact absurd rfl hk0
    · refine vx_catch (own := RL) (name := exn 2) (E := exn 2) hown [] ⟨0, 8, 11, 15⟩ [] (by rw [htab]; rfl) (fun z hz => absurd hz List.not_mem_nil) (by decide) (by decide) (hts _ wd_275) (cast_exn hX (by decide)) hce hcv hcl ?_
      refine lv_astore_n (lv' := [(2, .ref q9), (0, .ref aC), (1, .ref aQ)]) hx hb dL_execute_11 rfl hl (by decide) rfl (fun ls hl => ?_)
      refine lv_iconst (v := 1) hx hb dL_execute_12 (by decide) ?_
      exact ureti hx hb hr hlocks hP hS dL_execute_13
  · rcases hk with ⟨-, rfl⟩ | ⟨h, -⟩
    · have hf := hf0 hk0
      subst hf
      refine lv_i2l hx hb dL_execute_6 rfl ?_
      refine l_put hx hb hK hP (wD_re hD t) hS dL_execute_7 (fun H locs hP hS => ?_)
      refine lv_goto (tgt := 14) hx hb dL_execute_8 (by decide) ?_
      refine lv_iconst (v := 0) hx hb dL_execute_14 (by decide) ?_
      exact ureti hx hb hr hlocks hP hS dL_execute_15
    · exact absurd (hk0.symm.trans h) (by decide)
abbrev hhL_undo : List (Nat × Nat × Nat × Nat) := [(0, 8, 11, 24)]
abbrev wsL_undo : List Cond := .codeWith yL_undo cL_undo 3 (some .int) hhL_undo :: lw_all
set_option maxRecDepth 20000 in
theorem cwL_undo : (.codeWith yL_undo cL_undo 3 (some .int) hhL_undo : Cond) ∈ lw_all := in_all 597 (by decide +kernel) (by decide +kernel)
abbrev rmL_undo : Room := { frames := 7, cells := 1, slots := 6, locals := 127 }
theorem hdL_undo : yL_undo.cls ≠ "java/lang/invoke/MethodHandle" ∧ yL_undo.cls ≠ "java/lang/invoke/VarHandle" ∧ (parseMethodDescriptor yL_undo.desc).map (fun d => d.parameters.length) = some 2 := by decide +kernel
set_option maxHeartbeats 1000000 in
set_option maxRecDepth 20000 in
theorem KL_undo (l : Launch) (D : va_G) (cI cZ cS cJ : ClassId) (aC aQ : Nat) (X X' : va_W) (fs : List Value) (h0 : X[0]? = some (aC, .inr (5, fs))) (t : ∀ B : Nat → Prop, va_D B X → va_D B X') (f f' : Nat → Int64) (k : Nat) (r j : Int32) (hk : oc1 3 k j) (hf0 : k = 0 → f' = vp_updL f 0 r.toInt64) (hf1 : k ≠ 0 → f' = f) (hM : vx_Met l yX5_undo wsX5_undo rm5_undo (xP D (gT cI cZ cS cJ) X [.ref aC]) (xQ D k (some (.int r)) (uA X) X') (xX D k (uA X) X') 1 6 (uA X)) : Met l yL_undo wsL_undo rmL_undo (wP D (gT cI cZ cS cJ) (X ++ [(aQ, .inl (cJ, 1, .inr (.inl f)))]) [.ref aC, .ref aQ]) (uQ D (some (.int j)) (uA (X ++ [(aQ, .inl (cJ, 1, .inr (.inl f)))])) (X' ++ [(aQ, .inl (cJ, 1, .inr (.inl f')))])) 1 6 (uA (X ++ [(aQ, .inl (cJ, 1, .inr (.inl f)))])) := by
  refine va_MetW (cc := cL_undo) (maxL := 3) (ret := (some .int)) (hh := hhL_undo) (by decide) rfl ?_
  intro p e s m args below meth c s₁ B hml hv
  obtain ⟨⟨ha, hK, hP, hD0, hX, hZ⟩, hY⟩ := hv
  have hx := B.exec
  have hb := B.bytes
  have hr := B.returns
  have hlocks := B.notSynchronized
  have hcw : (Cond.codeWith yL_undo cL_undo 3 (some .int) hhL_undo).before args s = true := atoms_spec (ws := wsL_undo) B.pre _ List.mem_cons_self
  have htab : c.exceptionTable.toList = tableOf hhL_undo := vx_table (x := yL_undo) B hcw
  have hts : ∀ w ∈ lw_all, w.before args s = true := fun w h => atoms_spec (ws := wsL_undo) B.pre w (List.mem_cons_of_mem _ h)
  have hown : s.vm.findClass RL = some m.cls := findClass_of_methodNamed B.named
  have S : CallFix p m c cL_undo 3 s args lw_all RL := ⟨hx, hb, hml, hown, hts⟩
  have hD := hD0.own
  generalize uA (X ++ [(aQ, .inl (cJ, 1, .inr (.inl f)))]) = A0 at hD hZ ⊢
  have hS : va_S A0 s.heap s.heap [] := va_S.rf
  have hl := lv_entry ([.ref aC, .ref aQ] : List Value) (n := 3) (Nat.le_of_ble_eq_true rfl)
  refine W.eq (g2 := F0 m 0 ((lg_sl ([.ref aC, .ref aQ] : List Value) ++ List.replicate (3 - (lg_sl ([.ref aC, .ref aQ] : List Value)).length) Slot.unset).toArray) []) (by rw [ha]; exact lg_entry_eq _ _ _) ?_
  generalize (lg_sl ([.ref aC, .ref aQ] : List Value) ++ List.replicate (3 - (lg_sl ([.ref aC, .ref aQ] : List Value)).length) Slot.unset).toArray = ls at hl ⊢
  have hl : lv_has ls 3 [(0, .ref aC), (1, .ref aQ)] := hl
  refine lv_aload_n hx hb dL_undo_0 rfl (lv_at hl 1 rfl) ?_
  refine lv_iconst (v := 0) hx hb dL_undo_1 (by decide) ?_
  refine lv_aload_n hx hb dL_undo_2 rfl (lv_at hl 0 rfl) ?_
  refine xcallLi (vx_runV (As := []) (rest := [.int 0, .ref aQ]) S hM (cwV 0 hts (gd_V wd_598 wd_599 wd_600 wd_61 wd_601) rfl rfl rfl hd5_undo ⟨Nat.le_of_ble_eq_true rfl, Nat.le_of_ble_eq_true rfl⟩) (xPreV2 hK hX hZ hS (wP_l hP) (wD_l hD) (ci := 5) (q := (RX5, TX5, 3)) h0 rfl) rfl rfl hl.1 rfl (lv_room (Nat.le_of_ble_eq_true rfl)) dL_undo_3 ⟨Nat.le_of_ble_eq_true rfl, Nat.le_of_ble_eq_true rfl⟩) hS hP hD (fun ce q9 H locs hk0 hP hS hce hcv hcl => ?_) (fun H locs hk0 hP hS => ?_)
  · obtain rfl := hf1 hk0
    rcases hk with ⟨rfl, rfl⟩ | ⟨rfl, rfl⟩
    · exact absurd rfl hk0
    · refine vx_catch (own := RL) (name := exn 3) (E := exn 3) hown [] ⟨0, 8, 11, 24⟩ [] (by rw [htab]; rfl) (fun z hz => absurd hz List.not_mem_nil) (by decide) (by decide) (hts _ wd_413) (cast_exn hX (by decide)) hce hcv hcl ?_
      refine lv_astore_n (lv' := [(2, .ref q9), (0, .ref aC), (1, .ref aQ)]) hx hb dL_undo_11 rfl hl (by decide) rfl (fun ls hl => ?_)
      refine lv_iconst (v := 1) hx hb dL_undo_12 (by decide) ?_
      exact ureti hx hb hr hlocks hP hS dL_undo_13
  · rcases hk with ⟨-, rfl⟩ | ⟨h, -⟩
    · have hf := hf0 hk0
      subst hf
      refine lv_i2l hx hb dL_undo_6 rfl ?_
      refine l_put hx hb hK hP (wD_re hD t) hS dL_undo_7 (fun H locs hP hS => ?_)
      refine lv_goto (tgt := 14) hx hb dL_undo_8 (by decide) ?_
      refine lv_iconst (v := 0) hx hb dL_undo_14 (by decide) ?_
      exact ureti hx hb hr hlocks hP hS dL_undo_15
    · exact absurd (hk0.symm.trans h) (by decide)
abbrev hhL_keep : List (Nat × Nat × Nat × Nat) := [(0, 9, 12, 15)]
abbrev wsL_keep : List Cond := .codeWith yL_keep cL_keep 4 (some .int) hhL_keep :: lw_all
set_option maxRecDepth 20000 in
theorem cwL_keep : (.codeWith yL_keep cL_keep 4 (some .int) hhL_keep : Cond) ∈ lw_all := in_all 609 (by decide +kernel) (by decide +kernel)
abbrev rmL_keep : Room := { frames := 8, cells := 1, slots := 6, locals := 128 }
theorem hdL_keep : yL_keep.cls ≠ "java/lang/invoke/MethodHandle" ∧ yL_keep.cls ≠ "java/lang/invoke/VarHandle" ∧ (parseMethodDescriptor yL_keep.desc).map (fun d => d.parameters.length) = some 3 := by decide +kernel
set_option maxHeartbeats 1000000 in
set_option maxRecDepth 20000 in
theorem KL_keep (l : Launch) (D : va_G) (cI cZ cS cJ : ClassId) (aC aQ : Nat) (X X' : va_W) (fs : List Value) (h0 : X[0]? = some (aC, .inr (5, fs))) (t : ∀ B : Nat → Prop, va_D B X → va_D B X') (f f' : Nat → Int64) (x1 : Int32) (k : Nat) (r j : Int32) (hk : oc1 2 k j) (hf0 : k = 0 → f' = vp_updL f 0 r.toInt64) (hf1 : k ≠ 0 → f' = f) (hM : vx_Met l yX5_keep wsX5_keep rm5_keep (xP D (gT cI cZ cS cJ) X [.ref aC, .int x1]) (xQ D k (some (.int r)) (uA X) X') (xX D k (uA X) X') 1 6 (uA X)) : Met l yL_keep wsL_keep rmL_keep (wP D (gT cI cZ cS cJ) (X ++ [(aQ, .inl (cJ, 1, .inr (.inl f)))]) [.ref aC, .int x1, .ref aQ]) (uQ D (some (.int j)) (uA (X ++ [(aQ, .inl (cJ, 1, .inr (.inl f)))])) (X' ++ [(aQ, .inl (cJ, 1, .inr (.inl f')))])) 1 6 (uA (X ++ [(aQ, .inl (cJ, 1, .inr (.inl f)))])) := by
  refine va_MetW (cc := cL_keep) (maxL := 4) (ret := (some .int)) (hh := hhL_keep) (by decide) rfl ?_
  intro p e s m args below meth c s₁ B hml hv
  obtain ⟨⟨ha, hK, hP, hD0, hX, hZ⟩, hY⟩ := hv
  have hx := B.exec
  have hb := B.bytes
  have hr := B.returns
  have hlocks := B.notSynchronized
  have hcw : (Cond.codeWith yL_keep cL_keep 4 (some .int) hhL_keep).before args s = true := atoms_spec (ws := wsL_keep) B.pre _ List.mem_cons_self
  have htab : c.exceptionTable.toList = tableOf hhL_keep := vx_table (x := yL_keep) B hcw
  have hts : ∀ w ∈ lw_all, w.before args s = true := fun w h => atoms_spec (ws := wsL_keep) B.pre w (List.mem_cons_of_mem _ h)
  have hown : s.vm.findClass RL = some m.cls := findClass_of_methodNamed B.named
  have S : CallFix p m c cL_keep 4 s args lw_all RL := ⟨hx, hb, hml, hown, hts⟩
  have hD := hD0.own
  generalize uA (X ++ [(aQ, .inl (cJ, 1, .inr (.inl f)))]) = A0 at hD hZ ⊢
  have hS : va_S A0 s.heap s.heap [] := va_S.rf
  have hl := lv_entry ([.ref aC, .int x1, .ref aQ] : List Value) (n := 4) (Nat.le_of_ble_eq_true rfl)
  refine W.eq (g2 := F0 m 0 ((lg_sl ([.ref aC, .int x1, .ref aQ] : List Value) ++ List.replicate (4 - (lg_sl ([.ref aC, .int x1, .ref aQ] : List Value)).length) Slot.unset).toArray) []) (by rw [ha]; exact lg_entry_eq _ _ _) ?_
  generalize (lg_sl ([.ref aC, .int x1, .ref aQ] : List Value) ++ List.replicate (4 - (lg_sl ([.ref aC, .int x1, .ref aQ] : List Value)).length) Slot.unset).toArray = ls at hl ⊢
  have hl : lv_has ls 4 [(0, .ref aC), (1, .int x1), (2, .ref aQ)] := hl
  refine lv_aload_n hx hb dL_keep_0 rfl (lv_at hl 2 rfl) ?_
  refine lv_iconst (v := 0) hx hb dL_keep_1 (by decide) ?_
  refine lv_aload_n hx hb dL_keep_2 rfl (lv_at hl 0 rfl) ?_
  refine lv_iload_n hx hb dL_keep_3 rfl (lv_at hl 1 rfl) ?_
  refine xcallLi (vx_runV (As := [.int x1]) (rest := [.int 0, .ref aQ]) S hM (cwV 1 hts (gd_V wd_610 wd_611 wd_612 wd_61 wd_613) rfl rfl rfl hd5_keep ⟨Nat.le_of_ble_eq_true rfl, Nat.le_of_ble_eq_true rfl⟩) (xPreV2 hK hX hZ hS (wP_l hP) (wD_l hD) (ci := 5) (q := (RX5, TX5, 3)) h0 rfl) rfl rfl hl.1 rfl (lv_room (Nat.le_of_ble_eq_true rfl)) dL_keep_4 ⟨Nat.le_of_ble_eq_true rfl, Nat.le_of_ble_eq_true rfl⟩) hS hP hD (fun ce q9 H locs hk0 hP hS hce hcv hcl => ?_) (fun H locs hk0 hP hS => ?_)
  · obtain rfl := hf1 hk0
    rcases hk with ⟨rfl, rfl⟩ | ⟨rfl, rfl⟩
    · exact absurd rfl hk0
    · refine vx_catch (own := RL) (name := exn 2) (E := exn 2) hown [] ⟨0, 9, 12, 15⟩ [] (by rw [htab]; rfl) (fun z hz => absurd hz List.not_mem_nil) (by decide) (by decide) (hts _ wd_275) (cast_exn hX (by decide)) hce hcv hcl ?_
      refine lv_astore_n (lv' := [(3, .ref q9), (0, .ref aC), (1, .int x1), (2, .ref aQ)]) hx hb dL_keep_12 rfl hl (by decide) rfl (fun ls hl => ?_)
      refine lv_iconst (v := 1) hx hb dL_keep_13 (by decide) ?_
      exact ureti hx hb hr hlocks hP hS dL_keep_14
  · rcases hk with ⟨-, rfl⟩ | ⟨h, -⟩
    · have hf := hf0 hk0
      subst hf
      refine lv_i2l hx hb dL_keep_7 rfl ?_
      refine l_put hx hb hK hP (wD_re hD t) hS dL_keep_8 (fun H locs hP hS => ?_)
      refine lv_goto (tgt := 15) hx hb dL_keep_9 (by decide) ?_
      refine lv_iconst (v := 0) hx hb dL_keep_15 (by decide) ?_
      exact ureti hx hb hr hlocks hP hS dL_keep_16
    · exact absurd (hk0.symm.trans h) (by decide)
abbrev hhL_goBack : List (Nat × Nat × Nat × Nat) := [(0, 9, 12, 15), (0, 9, 15, 24)]
abbrev wsL_goBack : List Cond := .codeWith yL_goBack cL_goBack 4 (some .int) hhL_goBack :: lw_all
set_option maxRecDepth 20000 in
theorem cwL_goBack : (.codeWith yL_goBack cL_goBack 4 (some .int) hhL_goBack : Cond) ∈ lw_all := in_all 624 (by decide +kernel) (by decide +kernel)
abbrev rmL_goBack : Room := { frames := 8, cells := 2, slots := 12, locals := 128 }
theorem hdL_goBack : yL_goBack.cls ≠ "java/lang/invoke/MethodHandle" ∧ yL_goBack.cls ≠ "java/lang/invoke/VarHandle" ∧ (parseMethodDescriptor yL_goBack.desc).map (fun d => d.parameters.length) = some 3 := by decide +kernel
set_option maxHeartbeats 1000000 in
set_option maxRecDepth 20000 in
theorem KL_goBack (l : Launch) (D : va_G) (cI cZ cS cJ : ClassId) (aC aQ : Nat) (X X' : va_W) (fs : List Value) (h0 : X[0]? = some (aC, .inr (5, fs))) (t : ∀ B : Nat → Prop, va_D B X → va_D B X') (f f' : Nat → Int64) (x1 : Int32) (k : Nat) (r j : Int32) (hk : oc2 2 3 k j) (hf0 : k = 0 → f' = vp_updL f 0 r.toInt64) (hf1 : k ≠ 0 → f' = f) (hM : vx_Met l yX5_goBack wsX5_goBack rm5_goBack (xP D (gT cI cZ cS cJ) X [.ref aC, .int x1]) (xQ D k (some (.int r)) (uA X) X') (xX D k (uA X) X') 2 12 (uA X)) : Met l yL_goBack wsL_goBack rmL_goBack (wP D (gT cI cZ cS cJ) (X ++ [(aQ, .inl (cJ, 1, .inr (.inl f)))]) [.ref aC, .int x1, .ref aQ]) (uQ D (some (.int j)) (uA (X ++ [(aQ, .inl (cJ, 1, .inr (.inl f)))])) (X' ++ [(aQ, .inl (cJ, 1, .inr (.inl f')))])) 2 12 (uA (X ++ [(aQ, .inl (cJ, 1, .inr (.inl f)))])) := by
  refine va_MetW (cc := cL_goBack) (maxL := 4) (ret := (some .int)) (hh := hhL_goBack) (by decide) rfl ?_
  intro p e s m args below meth c s₁ B hml hv
  obtain ⟨⟨ha, hK, hP, hD0, hX, hZ⟩, hY⟩ := hv
  have hx := B.exec
  have hb := B.bytes
  have hr := B.returns
  have hlocks := B.notSynchronized
  have hcw : (Cond.codeWith yL_goBack cL_goBack 4 (some .int) hhL_goBack).before args s = true := atoms_spec (ws := wsL_goBack) B.pre _ List.mem_cons_self
  have htab : c.exceptionTable.toList = tableOf hhL_goBack := vx_table (x := yL_goBack) B hcw
  have hts : ∀ w ∈ lw_all, w.before args s = true := fun w h => atoms_spec (ws := wsL_goBack) B.pre w (List.mem_cons_of_mem _ h)
  have hown : s.vm.findClass RL = some m.cls := findClass_of_methodNamed B.named
  have S : CallFix p m c cL_goBack 4 s args lw_all RL := ⟨hx, hb, hml, hown, hts⟩
  have hD := hD0.own
  generalize uA (X ++ [(aQ, .inl (cJ, 1, .inr (.inl f)))]) = A0 at hD hZ ⊢
  have hS : va_S A0 s.heap s.heap [] := va_S.rf
  have hl := lv_entry ([.ref aC, .int x1, .ref aQ] : List Value) (n := 4) (Nat.le_of_ble_eq_true rfl)
  refine W.eq (g2 := F0 m 0 ((lg_sl ([.ref aC, .int x1, .ref aQ] : List Value) ++ List.replicate (4 - (lg_sl ([.ref aC, .int x1, .ref aQ] : List Value)).length) Slot.unset).toArray) []) (by rw [ha]; exact lg_entry_eq _ _ _) ?_
  generalize (lg_sl ([.ref aC, .int x1, .ref aQ] : List Value) ++ List.replicate (4 - (lg_sl ([.ref aC, .int x1, .ref aQ] : List Value)).length) Slot.unset).toArray = ls at hl ⊢
  have hl : lv_has ls 4 [(0, .ref aC), (1, .int x1), (2, .ref aQ)] := hl
  refine lv_aload_n hx hb dL_goBack_0 rfl (lv_at hl 2 rfl) ?_
  refine lv_iconst (v := 0) hx hb dL_goBack_1 (by decide) ?_
  refine lv_aload_n hx hb dL_goBack_2 rfl (lv_at hl 0 rfl) ?_
  refine lv_iload_n hx hb dL_goBack_3 rfl (lv_at hl 1 rfl) ?_
  refine xcallLi (vx_runV (As := [.int x1]) (rest := [.int 0, .ref aQ]) S hM (cwV 1 hts (gd_V wd_625 wd_626 wd_627 wd_61 wd_628) rfl rfl rfl hd5_goBack ⟨Nat.le_of_ble_eq_true rfl, Nat.le_of_ble_eq_true rfl⟩) (xPreV2 hK hX hZ hS (wP_l hP) (wD_l hD) (ci := 5) (q := (RX5, TX5, 3)) h0 rfl) rfl rfl hl.1 rfl (lv_room (Nat.le_of_ble_eq_true rfl)) dL_goBack_4 ⟨Nat.le_of_ble_eq_true rfl, Nat.le_of_ble_eq_true rfl⟩) hS hP hD (fun ce q9 H locs hk0 hP hS hce hcv hcl => ?_) (fun H locs hk0 hP hS => ?_)
  · obtain rfl := hf1 hk0
    rcases hk with ⟨rfl, rfl⟩ | ⟨rfl, rfl⟩ | ⟨rfl, rfl⟩
    · exact absurd rfl hk0
    · refine vx_catch (own := RL) (name := exn 2) (E := exn 2) hown [] ⟨0, 9, 12, 15⟩ [⟨0, 9, 15, 24⟩] (by rw [htab]; rfl) (fun z hz => absurd hz List.not_mem_nil) (by decide) (by decide) (hts _ wd_275) (cast_exn hX (by decide)) hce hcv hcl ?_
      refine lv_astore_n (lv' := [(3, .ref q9), (0, .ref aC), (1, .int x1), (2, .ref aQ)]) hx hb dL_goBack_12 rfl hl (by decide) rfl (fun ls hl => ?_)
      refine lv_iconst (v := 1) hx hb dL_goBack_13 (by decide) ?_
      exact ureti hx hb hr hlocks hP hS dL_goBack_14
    · refine vx_catch (own := RL) (name := exn 3) (E := exn 3) hown [⟨0, 9, 12, 15⟩] ⟨0, 9, 15, 24⟩ [] (by rw [htab]; rfl) (fun z hz => by simp only [List.mem_cons, List.not_mem_nil, or_false] at hz; subst hz; exact Or.inr ⟨by decide, exn 2, (hts _ wd_275), hY 3 2 (by decide) (by decide) (by decide)⟩) (by decide) (by decide) (hts _ wd_413) (cast_exn hX (by decide)) hce hcv hcl ?_
      refine lv_astore_n (lv' := [(3, .ref q9), (0, .ref aC), (1, .int x1), (2, .ref aQ)]) hx hb dL_goBack_15 rfl hl (by decide) rfl (fun ls hl => ?_)
      refine lv_iconst (v := 2) hx hb dL_goBack_16 (by decide) ?_
      exact ureti hx hb hr hlocks hP hS dL_goBack_17
  · rcases hk with ⟨-, rfl⟩ | ⟨h, -⟩ | ⟨h, -⟩
    · have hf := hf0 hk0
      subst hf
      refine lv_i2l hx hb dL_goBack_7 rfl ?_
      refine l_put hx hb hK hP (wD_re hD t) hS dL_goBack_8 (fun H locs hP hS => ?_)
      refine lv_goto (tgt := 18) hx hb dL_goBack_9 (by decide) ?_
      refine lv_iconst (v := 0) hx hb dL_goBack_18 (by decide) ?_
      exact ureti hx hb hr hlocks hP hS dL_goBack_19
    · exact absurd (hk0.symm.trans h) (by decide)
    · exact absurd (hk0.symm.trans h) (by decide)
abbrev hhL_letter : List (Nat × Nat × Nat × Nat) := [(0, 9, 12, 13)]
abbrev wsL_letter : List Cond := .codeWith yL_letter cL_letter 4 (some .int) hhL_letter :: lw_all
set_option maxRecDepth 20000 in
theorem cwL_letter : (.codeWith yL_letter cL_letter 4 (some .int) hhL_letter : Cond) ∈ lw_all := in_all 640 (by decide +kernel) (by decide +kernel)
abbrev rmL_letter : Room := { frames := 8, cells := 1, slots := 6, locals := 123 }
theorem hdL_letter : yL_letter.cls ≠ "java/lang/invoke/MethodHandle" ∧ yL_letter.cls ≠ "java/lang/invoke/VarHandle" ∧ (parseMethodDescriptor yL_letter.desc).map (fun d => d.parameters.length) = some 3 := by decide +kernel
set_option maxHeartbeats 1000000 in
set_option maxRecDepth 20000 in
theorem KL_letter (l : Launch) (D : va_G) (cI cZ cS cJ : ClassId) (aC aQ : Nat) (X X' : va_W) (fs : List Value) (h0 : X[0]? = some (aC, .inr (5, fs))) (t : ∀ B : Nat → Prop, va_D B X → va_D B X') (f f' : Nat → Int64) (x1 : Int32) (k : Nat) (r j : Int32) (hk : oc1 1 k j) (hf0 : k = 0 → f' = vp_updL f 0 r.toInt64) (hf1 : k ≠ 0 → f' = f) (hM : vx_Met l yX5_letter wsX5_letter rm5_letter (xP D (gT cI cZ cS cJ) X [.ref aC, .int x1]) (xQ D k (some (.int r)) (uA X) X') (xX D k (uA X) X') 1 6 (uA X)) : Met l yL_letter wsL_letter rmL_letter (wP D (gT cI cZ cS cJ) (X ++ [(aQ, .inl (cJ, 1, .inr (.inl f)))]) [.ref aC, .int x1, .ref aQ]) (uQ D (some (.int j)) (uA (X ++ [(aQ, .inl (cJ, 1, .inr (.inl f)))])) (X' ++ [(aQ, .inl (cJ, 1, .inr (.inl f')))])) 1 6 (uA (X ++ [(aQ, .inl (cJ, 1, .inr (.inl f)))])) := by
  refine va_MetW (cc := cL_letter) (maxL := 4) (ret := (some .int)) (hh := hhL_letter) (by decide) rfl ?_
  intro p e s m args below meth c s₁ B hml hv
  obtain ⟨⟨ha, hK, hP, hD0, hX, hZ⟩, hY⟩ := hv
  have hx := B.exec
  have hb := B.bytes
  have hr := B.returns
  have hlocks := B.notSynchronized
  have hcw : (Cond.codeWith yL_letter cL_letter 4 (some .int) hhL_letter).before args s = true := atoms_spec (ws := wsL_letter) B.pre _ List.mem_cons_self
  have htab : c.exceptionTable.toList = tableOf hhL_letter := vx_table (x := yL_letter) B hcw
  have hts : ∀ w ∈ lw_all, w.before args s = true := fun w h => atoms_spec (ws := wsL_letter) B.pre w (List.mem_cons_of_mem _ h)
  have hown : s.vm.findClass RL = some m.cls := findClass_of_methodNamed B.named
  have S : CallFix p m c cL_letter 4 s args lw_all RL := ⟨hx, hb, hml, hown, hts⟩
  have hD := hD0.own
  generalize uA (X ++ [(aQ, .inl (cJ, 1, .inr (.inl f)))]) = A0 at hD hZ ⊢
  have hS : va_S A0 s.heap s.heap [] := va_S.rf
  have hl := lv_entry ([.ref aC, .int x1, .ref aQ] : List Value) (n := 4) (Nat.le_of_ble_eq_true rfl)
  refine W.eq (g2 := F0 m 0 ((lg_sl ([.ref aC, .int x1, .ref aQ] : List Value) ++ List.replicate (4 - (lg_sl ([.ref aC, .int x1, .ref aQ] : List Value)).length) Slot.unset).toArray) []) (by rw [ha]; exact lg_entry_eq _ _ _) ?_
  generalize (lg_sl ([.ref aC, .int x1, .ref aQ] : List Value) ++ List.replicate (4 - (lg_sl ([.ref aC, .int x1, .ref aQ] : List Value)).length) Slot.unset).toArray = ls at hl ⊢
  have hl : lv_has ls 4 [(0, .ref aC), (1, .int x1), (2, .ref aQ)] := hl
  refine lv_aload_n hx hb dL_letter_0 rfl (lv_at hl 2 rfl) ?_
  refine lv_iconst (v := 0) hx hb dL_letter_1 (by decide) ?_
  refine lv_aload_n hx hb dL_letter_2 rfl (lv_at hl 0 rfl) ?_
  refine lv_iload_n hx hb dL_letter_3 rfl (lv_at hl 1 rfl) ?_
  refine xcallLi (vx_runV (As := [.int x1]) (rest := [.int 0, .ref aQ]) S hM (cwV 1 hts (gd_V wd_641 wd_642 wd_643 wd_61 wd_644) rfl rfl rfl hd5_letter ⟨Nat.le_of_ble_eq_true rfl, Nat.le_of_ble_eq_true rfl⟩) (xPreV2 hK hX hZ hS (wP_l hP) (wD_l hD) (ci := 5) (q := (RX5, TX5, 3)) h0 rfl) rfl rfl hl.1 rfl (lv_room (Nat.le_of_ble_eq_true rfl)) dL_letter_4 ⟨Nat.le_of_ble_eq_true rfl, Nat.le_of_ble_eq_true rfl⟩) hS hP hD (fun ce q9 H locs hk0 hP hS hce hcv hcl => ?_) (fun H locs hk0 hP hS => ?_)
  · obtain rfl := hf1 hk0
    rcases hk with ⟨rfl, rfl⟩ | ⟨rfl, rfl⟩
    · exact absurd rfl hk0
    · refine vx_catch (own := RL) (name := exn 1) (E := exn 1) hown [] ⟨0, 9, 12, 13⟩ [] (by rw [htab]; rfl) (fun z hz => absurd hz List.not_mem_nil) (by decide) (by decide) (hts _ wd_274) (cast_exn hX (by decide)) hce hcv hcl ?_
      refine lv_astore_n (lv' := [(3, .ref q9), (0, .ref aC), (1, .int x1), (2, .ref aQ)]) hx hb dL_letter_12 rfl hl (by decide) rfl (fun ls hl => ?_)
      refine lv_iconst (v := 1) hx hb dL_letter_13 (by decide) ?_
      exact ureti hx hb hr hlocks hP hS dL_letter_14
  · rcases hk with ⟨-, rfl⟩ | ⟨h, -⟩
    · have hf := hf0 hk0
      subst hf
      refine lv_i2l hx hb dL_letter_7 rfl ?_
      refine l_put hx hb hK hP (wD_re hD t) hS dL_letter_8 (fun H locs hP hS => ?_)
      refine lv_goto (tgt := 15) hx hb dL_letter_9 (by decide) ?_
      refine lv_iconst (v := 0) hx hb dL_letter_15 (by decide) ?_
      exact ureti hx hb hr hlocks hP hS dL_letter_16
    · exact absurd (hk0.symm.trans h) (by decide)
abbrev hhL_cheque : List (Nat × Nat × Nat × Nat) := [(0, 10, 13, 13), (0, 10, 17, 15)]
abbrev wsL_cheque : List Cond := .codeWith yL_cheque cL_cheque 5 (some .int) hhL_cheque :: lw_all
set_option maxRecDepth 20000 in
theorem cwL_cheque : (.codeWith yL_cheque cL_cheque 5 (some .int) hhL_cheque : Cond) ∈ lw_all := in_all 647 (by decide +kernel) (by decide +kernel)
abbrev rmL_cheque : Room := { frames := 7, cells := 1, slots := 6, locals := 105 }
theorem hdL_cheque : yL_cheque.cls ≠ "java/lang/invoke/MethodHandle" ∧ yL_cheque.cls ≠ "java/lang/invoke/VarHandle" ∧ (parseMethodDescriptor yL_cheque.desc).map (fun d => d.parameters.length) = some 4 := by decide +kernel
set_option maxHeartbeats 1000000 in
set_option maxRecDepth 20000 in
theorem KL_cheque (l : Launch) (D : va_G) (cI cZ cS cJ : ClassId) (aC aQ : Nat) (X X' : va_W) (fs : List Value) (h0 : X[0]? = some (aC, .inr (5, fs))) (t : ∀ B : Nat → Prop, va_D B X → va_D B X') (f f' : Nat → Int64) (x1 : Int32) (x2 : Int32) (k : Nat) (r j : Int32) (hk : oc2 1 2 k j) (hf0 : k = 0 → f' = vp_updL f 0 r.toInt64) (hf1 : k ≠ 0 → f' = f) (hM : vx_Met l yX5_cheque wsX5_cheque rm5_cheque (xP D (gT cI cZ cS cJ) X [.ref aC, .int x1, .int x2]) (xQ D k (some (.int r)) (uA X) X') (xX D k (uA X) X') 1 6 (uA X)) : Met l yL_cheque wsL_cheque rmL_cheque (wP D (gT cI cZ cS cJ) (X ++ [(aQ, .inl (cJ, 1, .inr (.inl f)))]) [.ref aC, .int x1, .int x2, .ref aQ]) (uQ D (some (.int j)) (uA (X ++ [(aQ, .inl (cJ, 1, .inr (.inl f)))])) (X' ++ [(aQ, .inl (cJ, 1, .inr (.inl f')))])) 1 6 (uA (X ++ [(aQ, .inl (cJ, 1, .inr (.inl f)))])) := by
  refine va_MetW (cc := cL_cheque) (maxL := 5) (ret := (some .int)) (hh := hhL_cheque) (by decide) rfl ?_
  intro p e s m args below meth c s₁ B hml hv
  obtain ⟨⟨ha, hK, hP, hD0, hX, hZ⟩, hY⟩ := hv
  have hx := B.exec
  have hb := B.bytes
  have hr := B.returns
  have hlocks := B.notSynchronized
  have hcw : (Cond.codeWith yL_cheque cL_cheque 5 (some .int) hhL_cheque).before args s = true := atoms_spec (ws := wsL_cheque) B.pre _ List.mem_cons_self
  have htab : c.exceptionTable.toList = tableOf hhL_cheque := vx_table (x := yL_cheque) B hcw
  have hts : ∀ w ∈ lw_all, w.before args s = true := fun w h => atoms_spec (ws := wsL_cheque) B.pre w (List.mem_cons_of_mem _ h)
  have hown : s.vm.findClass RL = some m.cls := findClass_of_methodNamed B.named
  have S : CallFix p m c cL_cheque 5 s args lw_all RL := ⟨hx, hb, hml, hown, hts⟩
  have hD := hD0.own
  generalize uA (X ++ [(aQ, .inl (cJ, 1, .inr (.inl f)))]) = A0 at hD hZ ⊢
  have hS : va_S A0 s.heap s.heap [] := va_S.rf
  have hl := lv_entry ([.ref aC, .int x1, .int x2, .ref aQ] : List Value) (n := 5) (Nat.le_of_ble_eq_true rfl)
  refine W.eq (g2 := F0 m 0 ((lg_sl ([.ref aC, .int x1, .int x2, .ref aQ] : List Value) ++ List.replicate (5 - (lg_sl ([.ref aC, .int x1, .int x2, .ref aQ] : List Value)).length) Slot.unset).toArray) []) (by rw [ha]; exact lg_entry_eq _ _ _) ?_
  generalize (lg_sl ([.ref aC, .int x1, .int x2, .ref aQ] : List Value) ++ List.replicate (5 - (lg_sl ([.ref aC, .int x1, .int x2, .ref aQ] : List Value)).length) Slot.unset).toArray = ls at hl ⊢
  have hl : lv_has ls 5 [(0, .ref aC), (1, .int x1), (2, .int x2), (3, .ref aQ)] := hl
  refine lv_aload_n hx hb dL_cheque_0 rfl (lv_at hl 3 rfl) ?_
  refine lv_iconst (v := 0) hx hb dL_cheque_1 (by decide) ?_
  refine lv_aload_n hx hb dL_cheque_2 rfl (lv_at hl 0 rfl) ?_
  refine lv_iload_n hx hb dL_cheque_3 rfl (lv_at hl 1 rfl) ?_
  refine lv_iload_n hx hb dL_cheque_4 rfl (lv_at hl 2 rfl) ?_
  refine xcallLi (vx_runV (As := [.int x1, .int x2]) (rest := [.int 0, .ref aQ]) S hM (cwV 2 hts (gd_V wd_648 wd_649 wd_650 wd_61 wd_651) rfl rfl rfl hd5_cheque ⟨Nat.le_of_ble_eq_true rfl, Nat.le_of_ble_eq_true rfl⟩) (xPreV2 hK hX hZ hS (wP_l hP) (wD_l hD) (ci := 5) (q := (RX5, TX5, 3)) h0 rfl) rfl rfl hl.1 rfl (lv_room (Nat.le_of_ble_eq_true rfl)) dL_cheque_5 ⟨Nat.le_of_ble_eq_true rfl, Nat.le_of_ble_eq_true rfl⟩) hS hP hD (fun ce q9 H locs hk0 hP hS hce hcv hcl => ?_) (fun H locs hk0 hP hS => ?_)
  · obtain rfl := hf1 hk0
    rcases hk with ⟨rfl, rfl⟩ | ⟨rfl, rfl⟩ | ⟨rfl, rfl⟩
    · exact absurd rfl hk0
    · refine vx_catch (own := RL) (name := exn 1) (E := exn 1) hown [] ⟨0, 10, 13, 13⟩ [⟨0, 10, 17, 15⟩] (by rw [htab]; rfl) (fun z hz => absurd hz List.not_mem_nil) (by decide) (by decide) (hts _ wd_274) (cast_exn hX (by decide)) hce hcv hcl ?_
      refine lv_astore (lv' := [(4, .ref q9), (0, .ref aC), (1, .int x1), (2, .int x2), (3, .ref aQ)]) hx hb dL_cheque_13 hl (by decide) rfl (fun ls hl => ?_)
      refine lv_iconst (v := 1) hx hb dL_cheque_15 (by decide) ?_
      exact ureti hx hb hr hlocks hP hS dL_cheque_16
    · refine vx_catch (own := RL) (name := exn 2) (E := exn 2) hown [⟨0, 10, 13, 13⟩] ⟨0, 10, 17, 15⟩ [] (by rw [htab]; rfl) (fun z hz => by simp only [List.mem_cons, List.not_mem_nil, or_false] at hz; subst hz; exact Or.inr ⟨by decide, exn 1, (hts _ wd_274), hY 2 1 (by decide) (by decide) (by decide)⟩) (by decide) (by decide) (hts _ wd_275) (cast_exn hX (by decide)) hce hcv hcl ?_
      refine lv_astore (lv' := [(4, .ref q9), (0, .ref aC), (1, .int x1), (2, .int x2), (3, .ref aQ)]) hx hb dL_cheque_17 hl (by decide) rfl (fun ls hl => ?_)
      refine lv_iconst (v := 2) hx hb dL_cheque_19 (by decide) ?_
      exact ureti hx hb hr hlocks hP hS dL_cheque_20
  · rcases hk with ⟨-, rfl⟩ | ⟨h, -⟩ | ⟨h, -⟩
    · have hf := hf0 hk0
      subst hf
      refine lv_i2l hx hb dL_cheque_8 rfl ?_
      refine l_put hx hb hK hP (wD_re hD t) hS dL_cheque_9 (fun H locs hP hS => ?_)
      refine lv_goto (tgt := 21) hx hb dL_cheque_10 (by decide) ?_
      refine lv_iconst (v := 0) hx hb dL_cheque_21 (by decide) ?_
      exact ureti hx hb hr hlocks hP hS dL_cheque_22
    · exact absurd (hk0.symm.trans h) (by decide)
    · exact absurd (hk0.symm.trans h) (by decide)
abbrev hhL_bookOf : List (Nat × Nat × Nat × Nat) := [(0, 10, 13, 13), (0, 10, 17, 15)]
abbrev wsL_bookOf : List Cond := .codeWith yL_bookOf cL_bookOf 5 (some .int) hhL_bookOf :: lw_all
set_option maxRecDepth 20000 in
theorem cwL_bookOf : (.codeWith yL_bookOf cL_bookOf 5 (some .int) hhL_bookOf : Cond) ∈ lw_all := in_all 661 (by decide +kernel) (by decide +kernel)
abbrev rmL_bookOf : Room := { frames := 7, cells := 1, slots := 6, locals := 104 }
theorem hdL_bookOf : yL_bookOf.cls ≠ "java/lang/invoke/MethodHandle" ∧ yL_bookOf.cls ≠ "java/lang/invoke/VarHandle" ∧ (parseMethodDescriptor yL_bookOf.desc).map (fun d => d.parameters.length) = some 4 := by decide +kernel
set_option maxHeartbeats 1000000 in
set_option maxRecDepth 20000 in
theorem KL_bookOf (l : Launch) (D : va_G) (cI cZ cS cJ : ClassId) (aC aQ : Nat) (X X' : va_W) (fs : List Value) (h0 : X[0]? = some (aC, .inr (5, fs))) (t : ∀ B : Nat → Prop, va_D B X → va_D B X') (f f' : Nat → Int64) (x1 : Int32) (x2 : Int32) (k : Nat) (r j : Int32) (hk : oc2 1 2 k j) (hf0 : k = 0 → f' = vp_updL f 0 r.toInt64) (hf1 : k ≠ 0 → f' = f) (hM : vx_Met l yX5_bookOf wsX5_bookOf rm5_bookOf (xP D (gT cI cZ cS cJ) X [.ref aC, .int x1, .int x2]) (xQ D k (some (.int r)) (uA X) X') (xX D k (uA X) X') 1 6 (uA X)) : Met l yL_bookOf wsL_bookOf rmL_bookOf (wP D (gT cI cZ cS cJ) (X ++ [(aQ, .inl (cJ, 1, .inr (.inl f)))]) [.ref aC, .int x1, .int x2, .ref aQ]) (uQ D (some (.int j)) (uA (X ++ [(aQ, .inl (cJ, 1, .inr (.inl f)))])) (X' ++ [(aQ, .inl (cJ, 1, .inr (.inl f')))])) 1 6 (uA (X ++ [(aQ, .inl (cJ, 1, .inr (.inl f)))])) := by
  refine va_MetW (cc := cL_bookOf) (maxL := 5) (ret := (some .int)) (hh := hhL_bookOf) (by decide) rfl ?_
  intro p e s m args below meth c s₁ B hml hv
  obtain ⟨⟨ha, hK, hP, hD0, hX, hZ⟩, hY⟩ := hv
  have hx := B.exec
  have hb := B.bytes
  have hr := B.returns
  have hlocks := B.notSynchronized
  have hcw : (Cond.codeWith yL_bookOf cL_bookOf 5 (some .int) hhL_bookOf).before args s = true := atoms_spec (ws := wsL_bookOf) B.pre _ List.mem_cons_self
  have htab : c.exceptionTable.toList = tableOf hhL_bookOf := vx_table (x := yL_bookOf) B hcw
  have hts : ∀ w ∈ lw_all, w.before args s = true := fun w h => atoms_spec (ws := wsL_bookOf) B.pre w (List.mem_cons_of_mem _ h)
  have hown : s.vm.findClass RL = some m.cls := findClass_of_methodNamed B.named
  have S : CallFix p m c cL_bookOf 5 s args lw_all RL := ⟨hx, hb, hml, hown, hts⟩
  have hD := hD0.own
  generalize uA (X ++ [(aQ, .inl (cJ, 1, .inr (.inl f)))]) = A0 at hD hZ ⊢
  have hS : va_S A0 s.heap s.heap [] := va_S.rf
  have hl := lv_entry ([.ref aC, .int x1, .int x2, .ref aQ] : List Value) (n := 5) (Nat.le_of_ble_eq_true rfl)
  refine W.eq (g2 := F0 m 0 ((lg_sl ([.ref aC, .int x1, .int x2, .ref aQ] : List Value) ++ List.replicate (5 - (lg_sl ([.ref aC, .int x1, .int x2, .ref aQ] : List Value)).length) Slot.unset).toArray) []) (by rw [ha]; exact lg_entry_eq _ _ _) ?_
  generalize (lg_sl ([.ref aC, .int x1, .int x2, .ref aQ] : List Value) ++ List.replicate (5 - (lg_sl ([.ref aC, .int x1, .int x2, .ref aQ] : List Value)).length) Slot.unset).toArray = ls at hl ⊢
  have hl : lv_has ls 5 [(0, .ref aC), (1, .int x1), (2, .int x2), (3, .ref aQ)] := hl
  refine lv_aload_n hx hb dL_bookOf_0 rfl (lv_at hl 3 rfl) ?_
  refine lv_iconst (v := 0) hx hb dL_bookOf_1 (by decide) ?_
  refine lv_aload_n hx hb dL_bookOf_2 rfl (lv_at hl 0 rfl) ?_
  refine lv_iload_n hx hb dL_bookOf_3 rfl (lv_at hl 1 rfl) ?_
  refine lv_iload_n hx hb dL_bookOf_4 rfl (lv_at hl 2 rfl) ?_
  refine xcallLi (vx_runV (As := [.int x1, .int x2]) (rest := [.int 0, .ref aQ]) S hM (cwV 2 hts (gd_V wd_662 wd_663 wd_664 wd_61 wd_665) rfl rfl rfl hd5_bookOf ⟨Nat.le_of_ble_eq_true rfl, Nat.le_of_ble_eq_true rfl⟩) (xPreV2 hK hX hZ hS (wP_l hP) (wD_l hD) (ci := 5) (q := (RX5, TX5, 3)) h0 rfl) rfl rfl hl.1 rfl (lv_room (Nat.le_of_ble_eq_true rfl)) dL_bookOf_5 ⟨Nat.le_of_ble_eq_true rfl, Nat.le_of_ble_eq_true rfl⟩) hS hP hD (fun ce q9 H locs hk0 hP hS hce hcv hcl => ?_) (fun H locs hk0 hP hS => ?_)
  · obtain rfl := hf1 hk0
    rcases hk with ⟨rfl, rfl⟩ | ⟨rfl, rfl⟩ | ⟨rfl, rfl⟩
    · exact absurd rfl hk0
    · refine vx_catch (own := RL) (name := exn 1) (E := exn 1) hown [] ⟨0, 10, 13, 13⟩ [⟨0, 10, 17, 15⟩] (by rw [htab]; rfl) (fun z hz => absurd hz List.not_mem_nil) (by decide) (by decide) (hts _ wd_274) (cast_exn hX (by decide)) hce hcv hcl ?_
      refine lv_astore (lv' := [(4, .ref q9), (0, .ref aC), (1, .int x1), (2, .int x2), (3, .ref aQ)]) hx hb dL_bookOf_13 hl (by decide) rfl (fun ls hl => ?_)
      refine lv_iconst (v := 1) hx hb dL_bookOf_15 (by decide) ?_
      exact ureti hx hb hr hlocks hP hS dL_bookOf_16
    · refine vx_catch (own := RL) (name := exn 2) (E := exn 2) hown [⟨0, 10, 13, 13⟩] ⟨0, 10, 17, 15⟩ [] (by rw [htab]; rfl) (fun z hz => by simp only [List.mem_cons, List.not_mem_nil, or_false] at hz; subst hz; exact Or.inr ⟨by decide, exn 1, (hts _ wd_274), hY 2 1 (by decide) (by decide) (by decide)⟩) (by decide) (by decide) (hts _ wd_275) (cast_exn hX (by decide)) hce hcv hcl ?_
      refine lv_astore (lv' := [(4, .ref q9), (0, .ref aC), (1, .int x1), (2, .int x2), (3, .ref aQ)]) hx hb dL_bookOf_17 hl (by decide) rfl (fun ls hl => ?_)
      refine lv_iconst (v := 2) hx hb dL_bookOf_19 (by decide) ?_
      exact ureti hx hb hr hlocks hP hS dL_bookOf_20
  · rcases hk with ⟨-, rfl⟩ | ⟨h, -⟩ | ⟨h, -⟩
    · have hf := hf0 hk0
      subst hf
      refine lv_i2l hx hb dL_bookOf_8 rfl ?_
      refine l_put hx hb hK hP (wD_re hD t) hS dL_bookOf_9 (fun H locs hP hS => ?_)
      refine lv_goto (tgt := 21) hx hb dL_bookOf_10 (by decide) ?_
      refine lv_iconst (v := 0) hx hb dL_bookOf_21 (by decide) ?_
      exact ureti hx hb hr hlocks hP hS dL_bookOf_22
    · exact absurd (hk0.symm.trans h) (by decide)
    · exact absurd (hk0.symm.trans h) (by decide)
abbrev hhL_count : List (Nat × Nat × Nat × Nat) := [(0, 9, 12, 15)]
abbrev wsL_count : List Cond := .codeWith yL_count cL_count 4 (some .int) hhL_count :: lw_all
set_option maxRecDepth 20000 in
theorem cwL_count : (.codeWith yL_count cL_count 4 (some .int) hhL_count : Cond) ∈ lw_all := in_all 671 (by decide +kernel) (by decide +kernel)
abbrev rmL_count : Room := { frames := 7, cells := 1, slots := 6, locals := 113 }
theorem hdL_count : yL_count.cls ≠ "java/lang/invoke/MethodHandle" ∧ yL_count.cls ≠ "java/lang/invoke/VarHandle" ∧ (parseMethodDescriptor yL_count.desc).map (fun d => d.parameters.length) = some 3 := by decide +kernel
set_option maxHeartbeats 1000000 in
set_option maxRecDepth 20000 in
theorem KL_count (l : Launch) (D : va_G) (cI cZ cS cJ : ClassId) (aC aQ : Nat) (X X' : va_W) (fs : List Value) (h0 : X[0]? = some (aC, .inr (5, fs))) (t : ∀ B : Nat → Prop, va_D B X → va_D B X') (f f' : Nat → Int64) (x1 : Int32) (k : Nat) (r j : Int32) (hk : oc1 2 k j) (hf0 : k = 0 → f' = vp_updL f 0 r.toInt64) (hf1 : k ≠ 0 → f' = f) (hM : vx_Met l yX5_count wsX5_count rm5_count (xP D (gT cI cZ cS cJ) X [.ref aC, .int x1]) (xQ D k (some (.int r)) (uA X) X') (xX D k (uA X) X') 1 6 (uA X)) : Met l yL_count wsL_count rmL_count (wP D (gT cI cZ cS cJ) (X ++ [(aQ, .inl (cJ, 1, .inr (.inl f)))]) [.ref aC, .int x1, .ref aQ]) (uQ D (some (.int j)) (uA (X ++ [(aQ, .inl (cJ, 1, .inr (.inl f)))])) (X' ++ [(aQ, .inl (cJ, 1, .inr (.inl f')))])) 1 6 (uA (X ++ [(aQ, .inl (cJ, 1, .inr (.inl f)))])) := by
  refine va_MetW (cc := cL_count) (maxL := 4) (ret := (some .int)) (hh := hhL_count) (by decide) rfl ?_
  intro p e s m args below meth c s₁ B hml hv
  obtain ⟨⟨ha, hK, hP, hD0, hX, hZ⟩, hY⟩ := hv
  have hx := B.exec
  have hb := B.bytes
  have hr := B.returns
  have hlocks := B.notSynchronized
  have hcw : (Cond.codeWith yL_count cL_count 4 (some .int) hhL_count).before args s = true := atoms_spec (ws := wsL_count) B.pre _ List.mem_cons_self
  have htab : c.exceptionTable.toList = tableOf hhL_count := vx_table (x := yL_count) B hcw
  have hts : ∀ w ∈ lw_all, w.before args s = true := fun w h => atoms_spec (ws := wsL_count) B.pre w (List.mem_cons_of_mem _ h)
  have hown : s.vm.findClass RL = some m.cls := findClass_of_methodNamed B.named
  have S : CallFix p m c cL_count 4 s args lw_all RL := ⟨hx, hb, hml, hown, hts⟩
  have hD := hD0.own
  generalize uA (X ++ [(aQ, .inl (cJ, 1, .inr (.inl f)))]) = A0 at hD hZ ⊢
  have hS : va_S A0 s.heap s.heap [] := va_S.rf
  have hl := lv_entry ([.ref aC, .int x1, .ref aQ] : List Value) (n := 4) (Nat.le_of_ble_eq_true rfl)
  refine W.eq (g2 := F0 m 0 ((lg_sl ([.ref aC, .int x1, .ref aQ] : List Value) ++ List.replicate (4 - (lg_sl ([.ref aC, .int x1, .ref aQ] : List Value)).length) Slot.unset).toArray) []) (by rw [ha]; exact lg_entry_eq _ _ _) ?_
  generalize (lg_sl ([.ref aC, .int x1, .ref aQ] : List Value) ++ List.replicate (4 - (lg_sl ([.ref aC, .int x1, .ref aQ] : List Value)).length) Slot.unset).toArray = ls at hl ⊢
  have hl : lv_has ls 4 [(0, .ref aC), (1, .int x1), (2, .ref aQ)] := hl
  refine lv_aload_n hx hb dL_count_0 rfl (lv_at hl 2 rfl) ?_
  refine lv_iconst (v := 0) hx hb dL_count_1 (by decide) ?_
  refine lv_aload_n hx hb dL_count_2 rfl (lv_at hl 0 rfl) ?_
  refine lv_iload_n hx hb dL_count_3 rfl (lv_at hl 1 rfl) ?_
  refine xcallLi (vx_runV (As := [.int x1]) (rest := [.int 0, .ref aQ]) S hM (cwV 1 hts (gd_V wd_672 wd_673 wd_674 wd_61 wd_675) rfl rfl rfl hd5_count ⟨Nat.le_of_ble_eq_true rfl, Nat.le_of_ble_eq_true rfl⟩) (xPreV2 hK hX hZ hS (wP_l hP) (wD_l hD) (ci := 5) (q := (RX5, TX5, 3)) h0 rfl) rfl rfl hl.1 rfl (lv_room (Nat.le_of_ble_eq_true rfl)) dL_count_4 ⟨Nat.le_of_ble_eq_true rfl, Nat.le_of_ble_eq_true rfl⟩) hS hP hD (fun ce q9 H locs hk0 hP hS hce hcv hcl => ?_) (fun H locs hk0 hP hS => ?_)
  · obtain rfl := hf1 hk0
    rcases hk with ⟨rfl, rfl⟩ | ⟨rfl, rfl⟩
    · exact absurd rfl hk0
    · refine vx_catch (own := RL) (name := exn 2) (E := exn 2) hown [] ⟨0, 9, 12, 15⟩ [] (by rw [htab]; rfl) (fun z hz => absurd hz List.not_mem_nil) (by decide) (by decide) (hts _ wd_275) (cast_exn hX (by decide)) hce hcv hcl ?_
      refine lv_astore_n (lv' := [(3, .ref q9), (0, .ref aC), (1, .int x1), (2, .ref aQ)]) hx hb dL_count_12 rfl hl (by decide) rfl (fun ls hl => ?_)
      refine lv_iconst (v := 1) hx hb dL_count_13 (by decide) ?_
      exact ureti hx hb hr hlocks hP hS dL_count_14
  · rcases hk with ⟨-, rfl⟩ | ⟨h, -⟩
    · have hf := hf0 hk0
      subst hf
      refine lv_i2l hx hb dL_count_7 rfl ?_
      refine l_put hx hb hK hP (wD_re hD t) hS dL_count_8 (fun H locs hP hS => ?_)
      refine lv_goto (tgt := 15) hx hb dL_count_9 (by decide) ?_
      refine lv_iconst (v := 0) hx hb dL_count_15 (by decide) ?_
      exact ureti hx hb hr hlocks hP hS dL_count_16
    · exact absurd (hk0.symm.trans h) (by decide)
abbrev hhL_ranked : List (Nat × Nat × Nat × Nat) := [(0, 9, 12, 15)]
abbrev wsL_ranked : List Cond := .codeWith yL_ranked cL_ranked 4 (some .int) hhL_ranked :: lw_all
set_option maxRecDepth 20000 in
theorem cwL_ranked : (.codeWith yL_ranked cL_ranked 4 (some .int) hhL_ranked : Cond) ∈ lw_all := in_all 679 (by decide +kernel) (by decide +kernel)
abbrev rmL_ranked : Room := { frames := 7, cells := 1, slots := 6, locals := 112 }
theorem hdL_ranked : yL_ranked.cls ≠ "java/lang/invoke/MethodHandle" ∧ yL_ranked.cls ≠ "java/lang/invoke/VarHandle" ∧ (parseMethodDescriptor yL_ranked.desc).map (fun d => d.parameters.length) = some 3 := by decide +kernel
set_option maxHeartbeats 1000000 in
set_option maxRecDepth 20000 in
theorem KL_ranked (l : Launch) (D : va_G) (cI cZ cS cJ : ClassId) (aC aQ : Nat) (X X' : va_W) (fs : List Value) (h0 : X[0]? = some (aC, .inr (5, fs))) (t : ∀ B : Nat → Prop, va_D B X → va_D B X') (f f' : Nat → Int64) (x1 : Int32) (k : Nat) (r j : Int32) (hk : oc1 2 k j) (hf0 : k = 0 → f' = vp_updL f 0 r.toInt64) (hf1 : k ≠ 0 → f' = f) (hM : vx_Met l yX5_ranked wsX5_ranked rm5_ranked (xP D (gT cI cZ cS cJ) X [.ref aC, .int x1]) (xQ D k (some (.int r)) (uA X) X') (xX D k (uA X) X') 1 6 (uA X)) : Met l yL_ranked wsL_ranked rmL_ranked (wP D (gT cI cZ cS cJ) (X ++ [(aQ, .inl (cJ, 1, .inr (.inl f)))]) [.ref aC, .int x1, .ref aQ]) (uQ D (some (.int j)) (uA (X ++ [(aQ, .inl (cJ, 1, .inr (.inl f)))])) (X' ++ [(aQ, .inl (cJ, 1, .inr (.inl f')))])) 1 6 (uA (X ++ [(aQ, .inl (cJ, 1, .inr (.inl f)))])) := by
  refine va_MetW (cc := cL_ranked) (maxL := 4) (ret := (some .int)) (hh := hhL_ranked) (by decide) rfl ?_
  intro p e s m args below meth c s₁ B hml hv
  obtain ⟨⟨ha, hK, hP, hD0, hX, hZ⟩, hY⟩ := hv
  have hx := B.exec
  have hb := B.bytes
  have hr := B.returns
  have hlocks := B.notSynchronized
  have hcw : (Cond.codeWith yL_ranked cL_ranked 4 (some .int) hhL_ranked).before args s = true := atoms_spec (ws := wsL_ranked) B.pre _ List.mem_cons_self
  have htab : c.exceptionTable.toList = tableOf hhL_ranked := vx_table (x := yL_ranked) B hcw
  have hts : ∀ w ∈ lw_all, w.before args s = true := fun w h => atoms_spec (ws := wsL_ranked) B.pre w (List.mem_cons_of_mem _ h)
  have hown : s.vm.findClass RL = some m.cls := findClass_of_methodNamed B.named
  have S : CallFix p m c cL_ranked 4 s args lw_all RL := ⟨hx, hb, hml, hown, hts⟩
  have hD := hD0.own
  generalize uA (X ++ [(aQ, .inl (cJ, 1, .inr (.inl f)))]) = A0 at hD hZ ⊢
  have hS : va_S A0 s.heap s.heap [] := va_S.rf
  have hl := lv_entry ([.ref aC, .int x1, .ref aQ] : List Value) (n := 4) (Nat.le_of_ble_eq_true rfl)
  refine W.eq (g2 := F0 m 0 ((lg_sl ([.ref aC, .int x1, .ref aQ] : List Value) ++ List.replicate (4 - (lg_sl ([.ref aC, .int x1, .ref aQ] : List Value)).length) Slot.unset).toArray) []) (by rw [ha]; exact lg_entry_eq _ _ _) ?_
  generalize (lg_sl ([.ref aC, .int x1, .ref aQ] : List Value) ++ List.replicate (4 - (lg_sl ([.ref aC, .int x1, .ref aQ] : List Value)).length) Slot.unset).toArray = ls at hl ⊢
  have hl : lv_has ls 4 [(0, .ref aC), (1, .int x1), (2, .ref aQ)] := hl
  refine lv_aload_n hx hb dL_ranked_0 rfl (lv_at hl 2 rfl) ?_
  refine lv_iconst (v := 0) hx hb dL_ranked_1 (by decide) ?_
  refine lv_aload_n hx hb dL_ranked_2 rfl (lv_at hl 0 rfl) ?_
  refine lv_iload_n hx hb dL_ranked_3 rfl (lv_at hl 1 rfl) ?_
  refine xcallLi (vx_runV (As := [.int x1]) (rest := [.int 0, .ref aQ]) S hM (cwV 1 hts (gd_V wd_680 wd_681 wd_682 wd_61 wd_683) rfl rfl rfl hd5_ranked ⟨Nat.le_of_ble_eq_true rfl, Nat.le_of_ble_eq_true rfl⟩) (xPreV2 hK hX hZ hS (wP_l hP) (wD_l hD) (ci := 5) (q := (RX5, TX5, 3)) h0 rfl) rfl rfl hl.1 rfl (lv_room (Nat.le_of_ble_eq_true rfl)) dL_ranked_4 ⟨Nat.le_of_ble_eq_true rfl, Nat.le_of_ble_eq_true rfl⟩) hS hP hD (fun ce q9 H locs hk0 hP hS hce hcv hcl => ?_) (fun H locs hk0 hP hS => ?_)
  · obtain rfl := hf1 hk0
    rcases hk with ⟨rfl, rfl⟩ | ⟨rfl, rfl⟩
    · exact absurd rfl hk0
    · refine vx_catch (own := RL) (name := exn 2) (E := exn 2) hown [] ⟨0, 9, 12, 15⟩ [] (by rw [htab]; rfl) (fun z hz => absurd hz List.not_mem_nil) (by decide) (by decide) (hts _ wd_275) (cast_exn hX (by decide)) hce hcv hcl ?_
      refine lv_astore_n (lv' := [(3, .ref q9), (0, .ref aC), (1, .int x1), (2, .ref aQ)]) hx hb dL_ranked_12 rfl hl (by decide) rfl (fun ls hl => ?_)
      refine lv_iconst (v := 1) hx hb dL_ranked_13 (by decide) ?_
      exact ureti hx hb hr hlocks hP hS dL_ranked_14
  · rcases hk with ⟨-, rfl⟩ | ⟨h, -⟩
    · have hf := hf0 hk0
      subst hf
      refine lv_i2l hx hb dL_ranked_7 rfl ?_
      refine l_put hx hb hK hP (wD_re hD t) hS dL_ranked_8 (fun H locs hP hS => ?_)
      refine lv_goto (tgt := 15) hx hb dL_ranked_9 (by decide) ?_
      refine lv_iconst (v := 0) hx hb dL_ranked_15 (by decide) ?_
      exact ureti hx hb hr hlocks hP hS dL_ranked_16
    · exact absurd (hk0.symm.trans h) (by decide)
abbrev hhL_missed : List (Nat × Nat × Nat × Nat) := [(0, 10, 13, 13), (0, 10, 17, 15)]
abbrev wsL_missed : List Cond := .codeWith yL_missed cL_missed 5 (some .int) hhL_missed :: lw_all
set_option maxRecDepth 20000 in
theorem cwL_missed : (.codeWith yL_missed cL_missed 5 (some .int) hhL_missed : Cond) ∈ lw_all := in_all 699 (by decide +kernel) (by decide +kernel)
abbrev rmL_missed : Room := { frames := 8, cells := 2, slots := 12, locals := 124 }
theorem hdL_missed : yL_missed.cls ≠ "java/lang/invoke/MethodHandle" ∧ yL_missed.cls ≠ "java/lang/invoke/VarHandle" ∧ (parseMethodDescriptor yL_missed.desc).map (fun d => d.parameters.length) = some 4 := by decide +kernel
set_option maxHeartbeats 1000000 in
set_option maxRecDepth 20000 in
theorem KL_missed (l : Launch) (D : va_G) (cI cZ cS cJ : ClassId) (aC aQ : Nat) (X X' : va_W) (fs : List Value) (h0 : X[0]? = some (aC, .inr (5, fs))) (t : ∀ B : Nat → Prop, va_D B X → va_D B X') (f f' : Nat → Int64) (x1 : Int32) (x2 : Int32) (k : Nat) (r j : Int32) (hk : oc2 1 2 k j) (hf0 : k = 0 → f' = vp_updL f 0 r.toInt64) (hf1 : k ≠ 0 → f' = f) (hM : vx_Met l yX5_missed wsX5_missed rm5_missed (xP D (gT cI cZ cS cJ) X [.ref aC, .int x1, .int x2]) (xQ D k (some (.int r)) (uA X) X') (xX D k (uA X) X') 2 12 (uA X)) : Met l yL_missed wsL_missed rmL_missed (wP D (gT cI cZ cS cJ) (X ++ [(aQ, .inl (cJ, 1, .inr (.inl f)))]) [.ref aC, .int x1, .int x2, .ref aQ]) (uQ D (some (.int j)) (uA (X ++ [(aQ, .inl (cJ, 1, .inr (.inl f)))])) (X' ++ [(aQ, .inl (cJ, 1, .inr (.inl f')))])) 2 12 (uA (X ++ [(aQ, .inl (cJ, 1, .inr (.inl f)))])) := by
  refine va_MetW (cc := cL_missed) (maxL := 5) (ret := (some .int)) (hh := hhL_missed) (by decide) rfl ?_
  intro p e s m args below meth c s₁ B hml hv
  obtain ⟨⟨ha, hK, hP, hD0, hX, hZ⟩, hY⟩ := hv
  have hx := B.exec
  have hb := B.bytes
  have hr := B.returns
  have hlocks := B.notSynchronized
  have hcw : (Cond.codeWith yL_missed cL_missed 5 (some .int) hhL_missed).before args s = true := atoms_spec (ws := wsL_missed) B.pre _ List.mem_cons_self
  have htab : c.exceptionTable.toList = tableOf hhL_missed := vx_table (x := yL_missed) B hcw
  have hts : ∀ w ∈ lw_all, w.before args s = true := fun w h => atoms_spec (ws := wsL_missed) B.pre w (List.mem_cons_of_mem _ h)
  have hown : s.vm.findClass RL = some m.cls := findClass_of_methodNamed B.named
  have S : CallFix p m c cL_missed 5 s args lw_all RL := ⟨hx, hb, hml, hown, hts⟩
  have hD := hD0.own
  generalize uA (X ++ [(aQ, .inl (cJ, 1, .inr (.inl f)))]) = A0 at hD hZ ⊢
  have hS : va_S A0 s.heap s.heap [] := va_S.rf
  have hl := lv_entry ([.ref aC, .int x1, .int x2, .ref aQ] : List Value) (n := 5) (Nat.le_of_ble_eq_true rfl)
  refine W.eq (g2 := F0 m 0 ((lg_sl ([.ref aC, .int x1, .int x2, .ref aQ] : List Value) ++ List.replicate (5 - (lg_sl ([.ref aC, .int x1, .int x2, .ref aQ] : List Value)).length) Slot.unset).toArray) []) (by rw [ha]; exact lg_entry_eq _ _ _) ?_
  generalize (lg_sl ([.ref aC, .int x1, .int x2, .ref aQ] : List Value) ++ List.replicate (5 - (lg_sl ([.ref aC, .int x1, .int x2, .ref aQ] : List Value)).length) Slot.unset).toArray = ls at hl ⊢
  have hl : lv_has ls 5 [(0, .ref aC), (1, .int x1), (2, .int x2), (3, .ref aQ)] := hl
  refine lv_aload_n hx hb dL_missed_0 rfl (lv_at hl 3 rfl) ?_
  refine lv_iconst (v := 0) hx hb dL_missed_1 (by decide) ?_
  refine lv_aload_n hx hb dL_missed_2 rfl (lv_at hl 0 rfl) ?_
  refine lv_iload_n hx hb dL_missed_3 rfl (lv_at hl 1 rfl) ?_
  refine lv_iload_n hx hb dL_missed_4 rfl (lv_at hl 2 rfl) ?_
  refine xcallLi (vx_runV (As := [.int x1, .int x2]) (rest := [.int 0, .ref aQ]) S hM (cwV 2 hts (gd_V wd_700 wd_701 wd_702 wd_61 wd_703) rfl rfl rfl hd5_missed ⟨Nat.le_of_ble_eq_true rfl, Nat.le_of_ble_eq_true rfl⟩) (xPreV2 hK hX hZ hS (wP_l hP) (wD_l hD) (ci := 5) (q := (RX5, TX5, 3)) h0 rfl) rfl rfl hl.1 rfl (lv_room (Nat.le_of_ble_eq_true rfl)) dL_missed_5 ⟨Nat.le_of_ble_eq_true rfl, Nat.le_of_ble_eq_true rfl⟩) hS hP hD (fun ce q9 H locs hk0 hP hS hce hcv hcl => ?_) (fun H locs hk0 hP hS => ?_)
  · obtain rfl := hf1 hk0
    rcases hk with ⟨rfl, rfl⟩ | ⟨rfl, rfl⟩ | ⟨rfl, rfl⟩
    · exact absurd rfl hk0
    · refine vx_catch (own := RL) (name := exn 1) (E := exn 1) hown [] ⟨0, 10, 13, 13⟩ [⟨0, 10, 17, 15⟩] (by rw [htab]; rfl) (fun z hz => absurd hz List.not_mem_nil) (by decide) (by decide) (hts _ wd_274) (cast_exn hX (by decide)) hce hcv hcl ?_
      refine lv_astore (lv' := [(4, .ref q9), (0, .ref aC), (1, .int x1), (2, .int x2), (3, .ref aQ)]) hx hb dL_missed_13 hl (by decide) rfl (fun ls hl => ?_)
      refine lv_iconst (v := 1) hx hb dL_missed_15 (by decide) ?_
      exact ureti hx hb hr hlocks hP hS dL_missed_16
    · refine vx_catch (own := RL) (name := exn 2) (E := exn 2) hown [⟨0, 10, 13, 13⟩] ⟨0, 10, 17, 15⟩ [] (by rw [htab]; rfl) (fun z hz => by simp only [List.mem_cons, List.not_mem_nil, or_false] at hz; subst hz; exact Or.inr ⟨by decide, exn 1, (hts _ wd_274), hY 2 1 (by decide) (by decide) (by decide)⟩) (by decide) (by decide) (hts _ wd_275) (cast_exn hX (by decide)) hce hcv hcl ?_
      refine lv_astore (lv' := [(4, .ref q9), (0, .ref aC), (1, .int x1), (2, .int x2), (3, .ref aQ)]) hx hb dL_missed_17 hl (by decide) rfl (fun ls hl => ?_)
      refine lv_iconst (v := 2) hx hb dL_missed_19 (by decide) ?_
      exact ureti hx hb hr hlocks hP hS dL_missed_20
  · rcases hk with ⟨-, rfl⟩ | ⟨h, -⟩ | ⟨h, -⟩
    · have hf := hf0 hk0
      subst hf
      refine lv_i2l hx hb dL_missed_8 rfl ?_
      refine l_put hx hb hK hP (wD_re hD t) hS dL_missed_9 (fun H locs hP hS => ?_)
      refine lv_goto (tgt := 21) hx hb dL_missed_10 (by decide) ?_
      refine lv_iconst (v := 0) hx hb dL_missed_21 (by decide) ?_
      exact ureti hx hb hr hlocks hP hS dL_missed_22
    · exact absurd (hk0.symm.trans h) (by decide)
    · exact absurd (hk0.symm.trans h) (by decide)
abbrev hhL_weak : List (Nat × Nat × Nat × Nat) := [(0, 12, 15, 13), (0, 12, 19, 15)]
abbrev wsL_weak : List Cond := .codeWith yL_weak cL_weak 6 (some .int) hhL_weak :: lw_all
set_option maxRecDepth 20000 in
theorem cwL_weak : (.codeWith yL_weak cL_weak 6 (some .int) hhL_weak : Cond) ∈ lw_all := in_all 729 (by decide +kernel) (by decide +kernel)
abbrev rmL_weak : Room := { frames := 7, cells := 1, slots := 6, locals := 106 }
theorem hdL_weak : yL_weak.cls ≠ "java/lang/invoke/MethodHandle" ∧ yL_weak.cls ≠ "java/lang/invoke/VarHandle" ∧ (parseMethodDescriptor yL_weak.desc).map (fun d => d.parameters.length) = some 5 := by decide +kernel
set_option maxHeartbeats 1000000 in
set_option maxRecDepth 20000 in
theorem KL_weak (l : Launch) (D : va_G) (cI cZ cS cJ : ClassId) (aC aQ : Nat) (X X' : va_W) (fs : List Value) (h0 : X[0]? = some (aC, .inr (5, fs))) (t : ∀ B : Nat → Prop, va_D B X → va_D B X') (f f' : Nat → Int64) (x1 : Int32) (x2 : Int32) (x3 : Int32) (k : Nat) (r j : Int32) (hk : oc2 1 2 k j) (hf0 : k = 0 → f' = vp_updL f 0 r.toInt64) (hf1 : k ≠ 0 → f' = f) (hM : vx_Met l yX5_weak wsX5_weak rm5_weak (xP D (gT cI cZ cS cJ) X [.ref aC, .int x1, .int x2, .int x3]) (xQ D k (some (.int r)) (uA X) X') (xX D k (uA X) X') 1 6 (uA X)) : Met l yL_weak wsL_weak rmL_weak (wP D (gT cI cZ cS cJ) (X ++ [(aQ, .inl (cJ, 1, .inr (.inl f)))]) [.ref aC, .int x1, .int x2, .int x3, .ref aQ]) (uQ D (some (.int j)) (uA (X ++ [(aQ, .inl (cJ, 1, .inr (.inl f)))])) (X' ++ [(aQ, .inl (cJ, 1, .inr (.inl f')))])) 1 6 (uA (X ++ [(aQ, .inl (cJ, 1, .inr (.inl f)))])) := by
  refine va_MetW (cc := cL_weak) (maxL := 6) (ret := (some .int)) (hh := hhL_weak) (by decide) rfl ?_
  intro p e s m args below meth c s₁ B hml hv
  obtain ⟨⟨ha, hK, hP, hD0, hX, hZ⟩, hY⟩ := hv
  have hx := B.exec
  have hb := B.bytes
  have hr := B.returns
  have hlocks := B.notSynchronized
  have hcw : (Cond.codeWith yL_weak cL_weak 6 (some .int) hhL_weak).before args s = true := atoms_spec (ws := wsL_weak) B.pre _ List.mem_cons_self
  have htab : c.exceptionTable.toList = tableOf hhL_weak := vx_table (x := yL_weak) B hcw
  have hts : ∀ w ∈ lw_all, w.before args s = true := fun w h => atoms_spec (ws := wsL_weak) B.pre w (List.mem_cons_of_mem _ h)
  have hown : s.vm.findClass RL = some m.cls := findClass_of_methodNamed B.named
  have S : CallFix p m c cL_weak 6 s args lw_all RL := ⟨hx, hb, hml, hown, hts⟩
  have hD := hD0.own
  generalize uA (X ++ [(aQ, .inl (cJ, 1, .inr (.inl f)))]) = A0 at hD hZ ⊢
  have hS : va_S A0 s.heap s.heap [] := va_S.rf
  have hl := lv_entry ([.ref aC, .int x1, .int x2, .int x3, .ref aQ] : List Value) (n := 6) (Nat.le_of_ble_eq_true rfl)
  refine W.eq (g2 := F0 m 0 ((lg_sl ([.ref aC, .int x1, .int x2, .int x3, .ref aQ] : List Value) ++ List.replicate (6 - (lg_sl ([.ref aC, .int x1, .int x2, .int x3, .ref aQ] : List Value)).length) Slot.unset).toArray) []) (by rw [ha]; exact lg_entry_eq _ _ _) ?_
  generalize (lg_sl ([.ref aC, .int x1, .int x2, .int x3, .ref aQ] : List Value) ++ List.replicate (6 - (lg_sl ([.ref aC, .int x1, .int x2, .int x3, .ref aQ] : List Value)).length) Slot.unset).toArray = ls at hl ⊢
  have hl : lv_has ls 6 [(0, .ref aC), (1, .int x1), (2, .int x2), (3, .int x3), (4, .ref aQ)] := hl
  refine lv_aload hx hb dL_weak_0 (lv_at hl 4 rfl) ?_
  refine lv_iconst (v := 0) hx hb dL_weak_2 (by decide) ?_
  refine lv_aload_n hx hb dL_weak_3 rfl (lv_at hl 0 rfl) ?_
  refine lv_iload_n hx hb dL_weak_4 rfl (lv_at hl 1 rfl) ?_
  refine lv_iload_n hx hb dL_weak_5 rfl (lv_at hl 2 rfl) ?_
  refine lv_iload_n hx hb dL_weak_6 rfl (lv_at hl 3 rfl) ?_
  refine xcallLi (vx_runV (As := [.int x1, .int x2, .int x3]) (rest := [.int 0, .ref aQ]) S hM (cwV 3 hts (gd_V wd_730 wd_731 wd_732 wd_61 wd_733) rfl rfl rfl hd5_weak ⟨Nat.le_of_ble_eq_true rfl, Nat.le_of_ble_eq_true rfl⟩) (xPreV2 hK hX hZ hS (wP_l hP) (wD_l hD) (ci := 5) (q := (RX5, TX5, 3)) h0 rfl) rfl rfl hl.1 rfl (lv_room (Nat.le_of_ble_eq_true rfl)) dL_weak_7 ⟨Nat.le_of_ble_eq_true rfl, Nat.le_of_ble_eq_true rfl⟩) hS hP hD (fun ce q9 H locs hk0 hP hS hce hcv hcl => ?_) (fun H locs hk0 hP hS => ?_)
  · obtain rfl := hf1 hk0
    rcases hk with ⟨rfl, rfl⟩ | ⟨rfl, rfl⟩ | ⟨rfl, rfl⟩
    · exact absurd rfl hk0
    · refine vx_catch (own := RL) (name := exn 1) (E := exn 1) hown [] ⟨0, 12, 15, 13⟩ [⟨0, 12, 19, 15⟩] (by rw [htab]; rfl) (fun z hz => absurd hz List.not_mem_nil) (by decide) (by decide) (hts _ wd_274) (cast_exn hX (by decide)) hce hcv hcl ?_
      refine lv_astore (lv' := [(5, .ref q9), (0, .ref aC), (1, .int x1), (2, .int x2), (3, .int x3), (4, .ref aQ)]) hx hb dL_weak_15 hl (by decide) rfl (fun ls hl => ?_)
      refine lv_iconst (v := 1) hx hb dL_weak_17 (by decide) ?_
      exact ureti hx hb hr hlocks hP hS dL_weak_18
    · refine vx_catch (own := RL) (name := exn 2) (E := exn 2) hown [⟨0, 12, 15, 13⟩] ⟨0, 12, 19, 15⟩ [] (by rw [htab]; rfl) (fun z hz => by simp only [List.mem_cons, List.not_mem_nil, or_false] at hz; subst hz; exact Or.inr ⟨by decide, exn 1, (hts _ wd_274), hY 2 1 (by decide) (by decide) (by decide)⟩) (by decide) (by decide) (hts _ wd_275) (cast_exn hX (by decide)) hce hcv hcl ?_
      refine lv_astore (lv' := [(5, .ref q9), (0, .ref aC), (1, .int x1), (2, .int x2), (3, .int x3), (4, .ref aQ)]) hx hb dL_weak_19 hl (by decide) rfl (fun ls hl => ?_)
      refine lv_iconst (v := 2) hx hb dL_weak_21 (by decide) ?_
      exact ureti hx hb hr hlocks hP hS dL_weak_22
  · rcases hk with ⟨-, rfl⟩ | ⟨h, -⟩ | ⟨h, -⟩
    · have hf := hf0 hk0
      subst hf
      refine lv_i2l hx hb dL_weak_10 rfl ?_
      refine l_put hx hb hK hP (wD_re hD t) hS dL_weak_11 (fun H locs hP hS => ?_)
      refine lv_goto (tgt := 23) hx hb dL_weak_12 (by decide) ?_
      refine lv_iconst (v := 0) hx hb dL_weak_23 (by decide) ?_
      exact ureti hx hb hr hlocks hP hS dL_weak_24
    · exact absurd (hk0.symm.trans h) (by decide)
    · exact absurd (hk0.symm.trans h) (by decide)
abbrev hhL_finds : List (Nat × Nat × Nat × Nat) := [(0, 16, 19, 15)]
abbrev wsL_finds : List Cond := .codeWith yL_finds cL_finds 4 (some .int) hhL_finds :: lw_all
set_option maxRecDepth 20000 in
theorem cwL_finds : (.codeWith yL_finds cL_finds 4 (some .int) hhL_finds : Cond) ∈ lw_all := in_all 749 (by decide +kernel) (by decide +kernel)
abbrev rmL_finds : Room := { frames := 8, cells := 1, slots := 6, locals := 123 }
theorem hdL_finds : yL_finds.cls ≠ "java/lang/invoke/MethodHandle" ∧ yL_finds.cls ≠ "java/lang/invoke/VarHandle" ∧ (parseMethodDescriptor yL_finds.desc).map (fun d => d.parameters.length) = some 3 := by decide +kernel
set_option maxHeartbeats 1000000 in
set_option maxRecDepth 20000 in
theorem KL_finds (l : Launch) (D : va_G) (cI cZ cS cJ : ClassId) (aC aQ : Nat) (X X' : va_W) (fs : List Value) (h0 : X[0]? = some (aC, .inr (5, fs))) (t : ∀ B : Nat → Prop, va_D B X → va_D B X') (f f' : Nat → Int64) (x1 : Int32) (k : Nat) (r j : Int32) (hk : oc1 2 k j) (hf0 : k = 0 → f' = vp_updL f 0 (if r = 0 then (0 : Int64) else 1)) (hf1 : k ≠ 0 → f' = f) (hM : vx_Met l yX5_finds wsX5_finds rm5_finds (xP D (gT cI cZ cS cJ) X [.ref aC, .int x1]) (xQ D k (some (.int r)) (uA X) X') (xX D k (uA X) X') 1 6 (uA X)) : Met l yL_finds wsL_finds rmL_finds (wP D (gT cI cZ cS cJ) (X ++ [(aQ, .inl (cJ, 1, .inr (.inl f)))]) [.ref aC, .int x1, .ref aQ]) (uQ D (some (.int j)) (uA (X ++ [(aQ, .inl (cJ, 1, .inr (.inl f)))])) (X' ++ [(aQ, .inl (cJ, 1, .inr (.inl f')))])) 1 6 (uA (X ++ [(aQ, .inl (cJ, 1, .inr (.inl f)))])) := by
  refine va_MetW (cc := cL_finds) (maxL := 4) (ret := (some .int)) (hh := hhL_finds) (by decide) rfl ?_
  intro p e s m args below meth c s₁ B hml hv
  obtain ⟨⟨ha, hK, hP, hD0, hX, hZ⟩, hY⟩ := hv
  have hx := B.exec
  have hb := B.bytes
  have hr := B.returns
  have hlocks := B.notSynchronized
  have hcw : (Cond.codeWith yL_finds cL_finds 4 (some .int) hhL_finds).before args s = true := atoms_spec (ws := wsL_finds) B.pre _ List.mem_cons_self
  have htab : c.exceptionTable.toList = tableOf hhL_finds := vx_table (x := yL_finds) B hcw
  have hts : ∀ w ∈ lw_all, w.before args s = true := fun w h => atoms_spec (ws := wsL_finds) B.pre w (List.mem_cons_of_mem _ h)
  have hown : s.vm.findClass RL = some m.cls := findClass_of_methodNamed B.named
  have S : CallFix p m c cL_finds 4 s args lw_all RL := ⟨hx, hb, hml, hown, hts⟩
  have hD := hD0.own
  generalize uA (X ++ [(aQ, .inl (cJ, 1, .inr (.inl f)))]) = A0 at hD hZ ⊢
  have hS : va_S A0 s.heap s.heap [] := va_S.rf
  have hl := lv_entry ([.ref aC, .int x1, .ref aQ] : List Value) (n := 4) (Nat.le_of_ble_eq_true rfl)
  refine W.eq (g2 := F0 m 0 ((lg_sl ([.ref aC, .int x1, .ref aQ] : List Value) ++ List.replicate (4 - (lg_sl ([.ref aC, .int x1, .ref aQ] : List Value)).length) Slot.unset).toArray) []) (by rw [ha]; exact lg_entry_eq _ _ _) ?_
  generalize (lg_sl ([.ref aC, .int x1, .ref aQ] : List Value) ++ List.replicate (4 - (lg_sl ([.ref aC, .int x1, .ref aQ] : List Value)).length) Slot.unset).toArray = ls at hl ⊢
  have hl : lv_has ls 4 [(0, .ref aC), (1, .int x1), (2, .ref aQ)] := hl
  refine lv_aload_n hx hb dL_finds_0 rfl (lv_at hl 2 rfl) ?_
  refine lv_iconst (v := 0) hx hb dL_finds_1 (by decide) ?_
  refine lv_aload_n hx hb dL_finds_2 rfl (lv_at hl 0 rfl) ?_
  refine lv_iload_n hx hb dL_finds_3 rfl (lv_at hl 1 rfl) ?_
  refine xcallLi (vx_runV (As := [.int x1]) (rest := [.int 0, .ref aQ]) S hM (cwV 1 hts (gd_V wd_750 wd_751 wd_752 wd_61 wd_753) rfl rfl rfl hd5_finds ⟨Nat.le_of_ble_eq_true rfl, Nat.le_of_ble_eq_true rfl⟩) (xPreV2 hK hX hZ hS (wP_l hP) (wD_l hD) (ci := 5) (q := (RX5, TX5, 3)) h0 rfl) rfl rfl hl.1 rfl (lv_room (Nat.le_of_ble_eq_true rfl)) dL_finds_4 ⟨Nat.le_of_ble_eq_true rfl, Nat.le_of_ble_eq_true rfl⟩) hS hP hD (fun ce q9 H locs hk0 hP hS hce hcv hcl => ?_) (fun H locs hk0 hP hS => ?_)
  · obtain rfl := hf1 hk0
    rcases hk with ⟨rfl, rfl⟩ | ⟨rfl, rfl⟩
    · exact absurd rfl hk0
    · refine vx_catch (own := RL) (name := exn 2) (E := exn 2) hown [] ⟨0, 16, 19, 15⟩ [] (by rw [htab]; rfl) (fun z hz => absurd hz List.not_mem_nil) (by decide) (by decide) (hts _ wd_275) (cast_exn hX (by decide)) hce hcv hcl ?_
      refine lv_astore_n (lv' := [(3, .ref q9), (0, .ref aC), (1, .int x1), (2, .ref aQ)]) hx hb dL_finds_19 rfl hl (by decide) rfl (fun ls hl => ?_)
      refine lv_iconst (v := 1) hx hb dL_finds_20 (by decide) ?_
      exact ureti hx hb hr hlocks hP hS dL_finds_21
  · rcases hk with ⟨-, rfl⟩ | ⟨h, -⟩
    · have hf := hf0 hk0
      refine lv_if_eq (tgt := 14) hx hb dL_finds_7 (by decide) (fun hr0 => ?_) (fun hr0 => ?_)
      · rw [if_pos hr0] at hf
        subst hf
        refine lv_lconst (v := 0) hx hb dL_finds_14 (by decide) ?_
        refine l_put hx hb hK hP (wD_re hD t) hS dL_finds_15 (fun H locs hP hS => ?_)
        refine lv_goto (tgt := 22) hx hb dL_finds_16 (by decide) ?_
        refine lv_iconst (v := 0) hx hb dL_finds_22 (by decide) ?_
        exact ureti hx hb hr hlocks hP hS dL_finds_23
      · rw [if_neg hr0] at hf
        subst hf
        refine lv_lconst (v := 1) hx hb dL_finds_10 (by decide) ?_
        refine lv_goto (tgt := 15) hx hb dL_finds_11 (by decide) ?_
        refine l_put hx hb hK hP (wD_re hD t) hS dL_finds_15 (fun H locs hP hS => ?_)
        refine lv_goto (tgt := 22) hx hb dL_finds_16 (by decide) ?_
        refine lv_iconst (v := 0) hx hb dL_finds_22 (by decide) ?_
        exact ureti hx hb hr hlocks hP hS dL_finds_23
    · exact absurd (hk0.symm.trans h) (by decide)
abbrev hhL_bestWeight : List (Nat × Nat × Nat × Nat) := [(0, 9, 12, 13)]
abbrev wsL_bestWeight : List Cond := .codeWith yL_bestWeight cL_bestWeight 4 (some .int) hhL_bestWeight :: lw_all
set_option maxRecDepth 20000 in
theorem cwL_bestWeight : (.codeWith yL_bestWeight cL_bestWeight 4 (some .int) hhL_bestWeight : Cond) ∈ lw_all := in_all 762 (by decide +kernel) (by decide +kernel)
abbrev rmL_bestWeight : Room := { frames := 8, cells := 1, slots := 6, locals := 127 }
theorem hdL_bestWeight : yL_bestWeight.cls ≠ "java/lang/invoke/MethodHandle" ∧ yL_bestWeight.cls ≠ "java/lang/invoke/VarHandle" ∧ (parseMethodDescriptor yL_bestWeight.desc).map (fun d => d.parameters.length) = some 3 := by decide +kernel
set_option maxHeartbeats 1000000 in
set_option maxRecDepth 20000 in
theorem KL_bestWeight (l : Launch) (D : va_G) (cI cZ cS cJ : ClassId) (aC aQ : Nat) (X X' : va_W) (fs : List Value) (h0 : X[0]? = some (aC, .inr (5, fs))) (t : ∀ B : Nat → Prop, va_D B X → va_D B X') (f f' : Nat → Int64) (x1 : Int32) (k : Nat) (r j : Int32) (hk : oc1 1 k j) (hf0 : k = 0 → f' = vp_updL f 0 r.toInt64) (hf1 : k ≠ 0 → f' = f) (hM : vx_Met l yX5_bestWeight wsX5_bestWeight rm5_bestWeight (xP D (gT cI cZ cS cJ) X [.ref aC, .int x1]) (xQ D k (some (.int r)) (uA X) X') (xX D k (uA X) X') 1 6 (uA X)) : Met l yL_bestWeight wsL_bestWeight rmL_bestWeight (wP D (gT cI cZ cS cJ) (X ++ [(aQ, .inl (cJ, 1, .inr (.inl f)))]) [.ref aC, .int x1, .ref aQ]) (uQ D (some (.int j)) (uA (X ++ [(aQ, .inl (cJ, 1, .inr (.inl f)))])) (X' ++ [(aQ, .inl (cJ, 1, .inr (.inl f')))])) 1 6 (uA (X ++ [(aQ, .inl (cJ, 1, .inr (.inl f)))])) := by
  refine va_MetW (cc := cL_bestWeight) (maxL := 4) (ret := (some .int)) (hh := hhL_bestWeight) (by decide) rfl ?_
  intro p e s m args below meth c s₁ B hml hv
  obtain ⟨⟨ha, hK, hP, hD0, hX, hZ⟩, hY⟩ := hv
  have hx := B.exec
  have hb := B.bytes
  have hr := B.returns
  have hlocks := B.notSynchronized
  have hcw : (Cond.codeWith yL_bestWeight cL_bestWeight 4 (some .int) hhL_bestWeight).before args s = true := atoms_spec (ws := wsL_bestWeight) B.pre _ List.mem_cons_self
  have htab : c.exceptionTable.toList = tableOf hhL_bestWeight := vx_table (x := yL_bestWeight) B hcw
  have hts : ∀ w ∈ lw_all, w.before args s = true := fun w h => atoms_spec (ws := wsL_bestWeight) B.pre w (List.mem_cons_of_mem _ h)
  have hown : s.vm.findClass RL = some m.cls := findClass_of_methodNamed B.named
  have S : CallFix p m c cL_bestWeight 4 s args lw_all RL := ⟨hx, hb, hml, hown, hts⟩
  have hD := hD0.own
  generalize uA (X ++ [(aQ, .inl (cJ, 1, .inr (.inl f)))]) = A0 at hD hZ ⊢
  have hS : va_S A0 s.heap s.heap [] := va_S.rf
  have hl := lv_entry ([.ref aC, .int x1, .ref aQ] : List Value) (n := 4) (Nat.le_of_ble_eq_true rfl)
  refine W.eq (g2 := F0 m 0 ((lg_sl ([.ref aC, .int x1, .ref aQ] : List Value) ++ List.replicate (4 - (lg_sl ([.ref aC, .int x1, .ref aQ] : List Value)).length) Slot.unset).toArray) []) (by rw [ha]; exact lg_entry_eq _ _ _) ?_
  generalize (lg_sl ([.ref aC, .int x1, .ref aQ] : List Value) ++ List.replicate (4 - (lg_sl ([.ref aC, .int x1, .ref aQ] : List Value)).length) Slot.unset).toArray = ls at hl ⊢
  have hl : lv_has ls 4 [(0, .ref aC), (1, .int x1), (2, .ref aQ)] := hl
  refine lv_aload_n hx hb dL_bestWeight_0 rfl (lv_at hl 2 rfl) ?_
  refine lv_iconst (v := 0) hx hb dL_bestWeight_1 (by decide) ?_
  refine lv_aload_n hx hb dL_bestWeight_2 rfl (lv_at hl 0 rfl) ?_
  refine lv_iload_n hx hb dL_bestWeight_3 rfl (lv_at hl 1 rfl) ?_
  refine xcallLi (vx_runV (As := [.int x1]) (rest := [.int 0, .ref aQ]) S hM (cwV 1 hts (gd_V wd_763 wd_764 wd_765 wd_61 wd_766) rfl rfl rfl hd5_bestWeight ⟨Nat.le_of_ble_eq_true rfl, Nat.le_of_ble_eq_true rfl⟩) (xPreV2 hK hX hZ hS (wP_l hP) (wD_l hD) (ci := 5) (q := (RX5, TX5, 3)) h0 rfl) rfl rfl hl.1 rfl (lv_room (Nat.le_of_ble_eq_true rfl)) dL_bestWeight_4 ⟨Nat.le_of_ble_eq_true rfl, Nat.le_of_ble_eq_true rfl⟩) hS hP hD (fun ce q9 H locs hk0 hP hS hce hcv hcl => ?_) (fun H locs hk0 hP hS => ?_)
  · obtain rfl := hf1 hk0
    rcases hk with ⟨rfl, rfl⟩ | ⟨rfl, rfl⟩
    · exact absurd rfl hk0
    · refine vx_catch (own := RL) (name := exn 1) (E := exn 1) hown [] ⟨0, 9, 12, 13⟩ [] (by rw [htab]; rfl) (fun z hz => absurd hz List.not_mem_nil) (by decide) (by decide) (hts _ wd_274) (cast_exn hX (by decide)) hce hcv hcl ?_
      refine lv_astore_n (lv' := [(3, .ref q9), (0, .ref aC), (1, .int x1), (2, .ref aQ)]) hx hb dL_bestWeight_12 rfl hl (by decide) rfl (fun ls hl => ?_)
      refine lv_iconst (v := 1) hx hb dL_bestWeight_13 (by decide) ?_
      exact ureti hx hb hr hlocks hP hS dL_bestWeight_14
  · rcases hk with ⟨-, rfl⟩ | ⟨h, -⟩
    · have hf := hf0 hk0
      subst hf
      refine lv_i2l hx hb dL_bestWeight_7 rfl ?_
      refine l_put hx hb hK hP (wD_re hD t) hS dL_bestWeight_8 (fun H locs hP hS => ?_)
      refine lv_goto (tgt := 15) hx hb dL_bestWeight_9 (by decide) ?_
      refine lv_iconst (v := 0) hx hb dL_bestWeight_15 (by decide) ?_
      exact ureti hx hb hr hlocks hP hS dL_bestWeight_16
    · exact absurd (hk0.symm.trans h) (by decide)
abbrev hhL_meant : List (Nat × Nat × Nat × Nat) := [(0, 12, 15, 13), (0, 12, 19, 15)]
abbrev wsL_meant : List Cond := .codeWith yL_meant cL_meant 6 (some .int) hhL_meant :: lw_all
set_option maxRecDepth 20000 in
theorem cwL_meant : (.codeWith yL_meant cL_meant 6 (some .int) hhL_meant : Cond) ∈ lw_all := in_all 773 (by decide +kernel) (by decide +kernel)
abbrev rmL_meant : Room := { frames := 8, cells := 3, slots := 18, locals := 144 }
theorem hdL_meant : yL_meant.cls ≠ "java/lang/invoke/MethodHandle" ∧ yL_meant.cls ≠ "java/lang/invoke/VarHandle" ∧ (parseMethodDescriptor yL_meant.desc).map (fun d => d.parameters.length) = some 5 := by decide +kernel
set_option maxHeartbeats 1000000 in
set_option maxRecDepth 20000 in
theorem KL_meant (l : Launch) (D : va_G) (cI cZ cS cJ : ClassId) (aC aQ : Nat) (X X' : va_W) (fs : List Value) (h0 : X[0]? = some (aC, .inr (5, fs))) (t : ∀ B : Nat → Prop, va_D B X → va_D B X') (f f' : Nat → Int64) (x1 : Int32) (x2 : Int32) (x3 : Int32) (k : Nat) (r j : Int32) (hk : oc2 1 2 k j) (hf0 : k = 0 → f' = vp_updL f 0 r.toInt64) (hf1 : k ≠ 0 → f' = f) (hM : vx_Met l yX5_meant wsX5_meant rm5_meant (xP D (gT cI cZ cS cJ) X [.ref aC, .int x1, .int x2, .int x3]) (xQ D k (some (.int r)) (uA X) X') (xX D k (uA X) X') 3 18 (uA X)) : Met l yL_meant wsL_meant rmL_meant (wP D (gT cI cZ cS cJ) (X ++ [(aQ, .inl (cJ, 1, .inr (.inl f)))]) [.ref aC, .int x1, .int x2, .int x3, .ref aQ]) (uQ D (some (.int j)) (uA (X ++ [(aQ, .inl (cJ, 1, .inr (.inl f)))])) (X' ++ [(aQ, .inl (cJ, 1, .inr (.inl f')))])) 3 18 (uA (X ++ [(aQ, .inl (cJ, 1, .inr (.inl f)))])) := by
  refine va_MetW (cc := cL_meant) (maxL := 6) (ret := (some .int)) (hh := hhL_meant) (by decide) rfl ?_
  intro p e s m args below meth c s₁ B hml hv
  obtain ⟨⟨ha, hK, hP, hD0, hX, hZ⟩, hY⟩ := hv
  have hx := B.exec
  have hb := B.bytes
  have hr := B.returns
  have hlocks := B.notSynchronized
  have hcw : (Cond.codeWith yL_meant cL_meant 6 (some .int) hhL_meant).before args s = true := atoms_spec (ws := wsL_meant) B.pre _ List.mem_cons_self
  have htab : c.exceptionTable.toList = tableOf hhL_meant := vx_table (x := yL_meant) B hcw
  have hts : ∀ w ∈ lw_all, w.before args s = true := fun w h => atoms_spec (ws := wsL_meant) B.pre w (List.mem_cons_of_mem _ h)
  have hown : s.vm.findClass RL = some m.cls := findClass_of_methodNamed B.named
  have S : CallFix p m c cL_meant 6 s args lw_all RL := ⟨hx, hb, hml, hown, hts⟩
  have hD := hD0.own
  generalize uA (X ++ [(aQ, .inl (cJ, 1, .inr (.inl f)))]) = A0 at hD hZ ⊢
  have hS : va_S A0 s.heap s.heap [] := va_S.rf
  have hl := lv_entry ([.ref aC, .int x1, .int x2, .int x3, .ref aQ] : List Value) (n := 6) (Nat.le_of_ble_eq_true rfl)
  refine W.eq (g2 := F0 m 0 ((lg_sl ([.ref aC, .int x1, .int x2, .int x3, .ref aQ] : List Value) ++ List.replicate (6 - (lg_sl ([.ref aC, .int x1, .int x2, .int x3, .ref aQ] : List Value)).length) Slot.unset).toArray) []) (by rw [ha]; exact lg_entry_eq _ _ _) ?_
  generalize (lg_sl ([.ref aC, .int x1, .int x2, .int x3, .ref aQ] : List Value) ++ List.replicate (6 - (lg_sl ([.ref aC, .int x1, .int x2, .int x3, .ref aQ] : List Value)).length) Slot.unset).toArray = ls at hl ⊢
  have hl : lv_has ls 6 [(0, .ref aC), (1, .int x1), (2, .int x2), (3, .int x3), (4, .ref aQ)] := hl
  refine lv_aload hx hb dL_meant_0 (lv_at hl 4 rfl) ?_
  refine lv_iconst (v := 0) hx hb dL_meant_2 (by decide) ?_
  refine lv_aload_n hx hb dL_meant_3 rfl (lv_at hl 0 rfl) ?_
  refine lv_iload_n hx hb dL_meant_4 rfl (lv_at hl 1 rfl) ?_
  refine lv_iload_n hx hb dL_meant_5 rfl (lv_at hl 2 rfl) ?_
  refine lv_iload_n hx hb dL_meant_6 rfl (lv_at hl 3 rfl) ?_
  refine xcallLi (vx_runV (As := [.int x1, .int x2, .int x3]) (rest := [.int 0, .ref aQ]) S hM (cwV 3 hts (gd_V wd_774 wd_775 wd_776 wd_61 wd_777) rfl rfl rfl hd5_meant ⟨Nat.le_of_ble_eq_true rfl, Nat.le_of_ble_eq_true rfl⟩) (xPreV2 hK hX hZ hS (wP_l hP) (wD_l hD) (ci := 5) (q := (RX5, TX5, 3)) h0 rfl) rfl rfl hl.1 rfl (lv_room (Nat.le_of_ble_eq_true rfl)) dL_meant_7 ⟨Nat.le_of_ble_eq_true rfl, Nat.le_of_ble_eq_true rfl⟩) hS hP hD (fun ce q9 H locs hk0 hP hS hce hcv hcl => ?_) (fun H locs hk0 hP hS => ?_)
  · obtain rfl := hf1 hk0
    rcases hk with ⟨rfl, rfl⟩ | ⟨rfl, rfl⟩ | ⟨rfl, rfl⟩
    · exact absurd rfl hk0
    · refine vx_catch (own := RL) (name := exn 1) (E := exn 1) hown [] ⟨0, 12, 15, 13⟩ [⟨0, 12, 19, 15⟩] (by rw [htab]; rfl) (fun z hz => absurd hz List.not_mem_nil) (by decide) (by decide) (hts _ wd_274) (cast_exn hX (by decide)) hce hcv hcl ?_
      refine lv_astore (lv' := [(5, .ref q9), (0, .ref aC), (1, .int x1), (2, .int x2), (3, .int x3), (4, .ref aQ)]) hx hb dL_meant_15 hl (by decide) rfl (fun ls hl => ?_)
      refine lv_iconst (v := 1) hx hb dL_meant_17 (by decide) ?_
      exact ureti hx hb hr hlocks hP hS dL_meant_18
    · refine vx_catch (own := RL) (name := exn 2) (E := exn 2) hown [⟨0, 12, 15, 13⟩] ⟨0, 12, 19, 15⟩ [] (by rw [htab]; rfl) (fun z hz => by simp only [List.mem_cons, List.not_mem_nil, or_false] at hz; subst hz; exact Or.inr ⟨by decide, exn 1, (hts _ wd_274), hY 2 1 (by decide) (by decide) (by decide)⟩) (by decide) (by decide) (hts _ wd_275) (cast_exn hX (by decide)) hce hcv hcl ?_
      refine lv_astore (lv' := [(5, .ref q9), (0, .ref aC), (1, .int x1), (2, .int x2), (3, .int x3), (4, .ref aQ)]) hx hb dL_meant_19 hl (by decide) rfl (fun ls hl => ?_)
      refine lv_iconst (v := 2) hx hb dL_meant_21 (by decide) ?_
      exact ureti hx hb hr hlocks hP hS dL_meant_22
  · rcases hk with ⟨-, rfl⟩ | ⟨h, -⟩ | ⟨h, -⟩
    · have hf := hf0 hk0
      subst hf
      refine lv_i2l hx hb dL_meant_10 rfl ?_
      refine l_put hx hb hK hP (wD_re hD t) hS dL_meant_11 (fun H locs hP hS => ?_)
      refine lv_goto (tgt := 23) hx hb dL_meant_12 (by decide) ?_
      refine lv_iconst (v := 0) hx hb dL_meant_23 (by decide) ?_
      exact ureti hx hb hr hlocks hP hS dL_meant_24
    · exact absurd (hk0.symm.trans h) (by decide)
    · exact absurd (hk0.symm.trans h) (by decide)
abbrev hhL_slip : List (Nat × Nat × Nat × Nat) := [(0, 12, 15, 13), (0, 12, 19, 15)]
abbrev wsL_slip : List Cond := .codeWith yL_slip cL_slip 6 (some .int) hhL_slip :: lw_all
set_option maxRecDepth 20000 in
theorem cwL_slip : (.codeWith yL_slip cL_slip 6 (some .int) hhL_slip : Cond) ∈ lw_all := in_all 799 (by decide +kernel) (by decide +kernel)
abbrev rmL_slip : Room := { frames := 8, cells := 3, slots := 18, locals := 125 }
theorem hdL_slip : yL_slip.cls ≠ "java/lang/invoke/MethodHandle" ∧ yL_slip.cls ≠ "java/lang/invoke/VarHandle" ∧ (parseMethodDescriptor yL_slip.desc).map (fun d => d.parameters.length) = some 5 := by decide +kernel
set_option maxHeartbeats 1000000 in
set_option maxRecDepth 20000 in
theorem KL_slip (l : Launch) (D : va_G) (cI cZ cS cJ : ClassId) (aC aQ : Nat) (X X' : va_W) (fs : List Value) (h0 : X[0]? = some (aC, .inr (5, fs))) (t : ∀ B : Nat → Prop, va_D B X → va_D B X') (f f' : Nat → Int64) (x1 : Int32) (x2 : Int32) (x3 : Int32) (k : Nat) (r j : Int32) (hk : oc2 1 2 k j) (hf0 : k = 0 → f' = vp_updL f 0 r.toInt64) (hf1 : k ≠ 0 → f' = f) (hM : vx_Met l yX5_slip wsX5_slip rm5_slip (xP D (gT cI cZ cS cJ) X [.ref aC, .int x1, .int x2, .int x3]) (xQ D k (some (.int r)) (uA X) X') (xX D k (uA X) X') 3 18 (uA X)) : Met l yL_slip wsL_slip rmL_slip (wP D (gT cI cZ cS cJ) (X ++ [(aQ, .inl (cJ, 1, .inr (.inl f)))]) [.ref aC, .int x1, .int x2, .int x3, .ref aQ]) (uQ D (some (.int j)) (uA (X ++ [(aQ, .inl (cJ, 1, .inr (.inl f)))])) (X' ++ [(aQ, .inl (cJ, 1, .inr (.inl f')))])) 3 18 (uA (X ++ [(aQ, .inl (cJ, 1, .inr (.inl f)))])) := by
  refine va_MetW (cc := cL_slip) (maxL := 6) (ret := (some .int)) (hh := hhL_slip) (by decide) rfl ?_
  intro p e s m args below meth c s₁ B hml hv
  obtain ⟨⟨ha, hK, hP, hD0, hX, hZ⟩, hY⟩ := hv
  have hx := B.exec
  have hb := B.bytes
  have hr := B.returns
  have hlocks := B.notSynchronized
  have hcw : (Cond.codeWith yL_slip cL_slip 6 (some .int) hhL_slip).before args s = true := atoms_spec (ws := wsL_slip) B.pre _ List.mem_cons_self
  have htab : c.exceptionTable.toList = tableOf hhL_slip := vx_table (x := yL_slip) B hcw
  have hts : ∀ w ∈ lw_all, w.before args s = true := fun w h => atoms_spec (ws := wsL_slip) B.pre w (List.mem_cons_of_mem _ h)
  have hown : s.vm.findClass RL = some m.cls := findClass_of_methodNamed B.named
  have S : CallFix p m c cL_slip 6 s args lw_all RL := ⟨hx, hb, hml, hown, hts⟩
  have hD := hD0.own
  generalize uA (X ++ [(aQ, .inl (cJ, 1, .inr (.inl f)))]) = A0 at hD hZ ⊢
  have hS : va_S A0 s.heap s.heap [] := va_S.rf
  have hl := lv_entry ([.ref aC, .int x1, .int x2, .int x3, .ref aQ] : List Value) (n := 6) (Nat.le_of_ble_eq_true rfl)
  refine W.eq (g2 := F0 m 0 ((lg_sl ([.ref aC, .int x1, .int x2, .int x3, .ref aQ] : List Value) ++ List.replicate (6 - (lg_sl ([.ref aC, .int x1, .int x2, .int x3, .ref aQ] : List Value)).length) Slot.unset).toArray) []) (by rw [ha]; exact lg_entry_eq _ _ _) ?_
  generalize (lg_sl ([.ref aC, .int x1, .int x2, .int x3, .ref aQ] : List Value) ++ List.replicate (6 - (lg_sl ([.ref aC, .int x1, .int x2, .int x3, .ref aQ] : List Value)).length) Slot.unset).toArray = ls at hl ⊢
  have hl : lv_has ls 6 [(0, .ref aC), (1, .int x1), (2, .int x2), (3, .int x3), (4, .ref aQ)] := hl
  refine lv_aload hx hb dL_slip_0 (lv_at hl 4 rfl) ?_
  refine lv_iconst (v := 0) hx hb dL_slip_2 (by decide) ?_
  refine lv_aload_n hx hb dL_slip_3 rfl (lv_at hl 0 rfl) ?_
  refine lv_iload_n hx hb dL_slip_4 rfl (lv_at hl 1 rfl) ?_
  refine lv_iload_n hx hb dL_slip_5 rfl (lv_at hl 2 rfl) ?_
  refine lv_iload_n hx hb dL_slip_6 rfl (lv_at hl 3 rfl) ?_
  refine xcallLi (vx_runV (As := [.int x1, .int x2, .int x3]) (rest := [.int 0, .ref aQ]) S hM (cwV 3 hts (gd_V wd_800 wd_801 wd_802 wd_61 wd_803) rfl rfl rfl hd5_slip ⟨Nat.le_of_ble_eq_true rfl, Nat.le_of_ble_eq_true rfl⟩) (xPreV2 hK hX hZ hS (wP_l hP) (wD_l hD) (ci := 5) (q := (RX5, TX5, 3)) h0 rfl) rfl rfl hl.1 rfl (lv_room (Nat.le_of_ble_eq_true rfl)) dL_slip_7 ⟨Nat.le_of_ble_eq_true rfl, Nat.le_of_ble_eq_true rfl⟩) hS hP hD (fun ce q9 H locs hk0 hP hS hce hcv hcl => ?_) (fun H locs hk0 hP hS => ?_)
  · obtain rfl := hf1 hk0
    rcases hk with ⟨rfl, rfl⟩ | ⟨rfl, rfl⟩ | ⟨rfl, rfl⟩
    · exact absurd rfl hk0
    · refine vx_catch (own := RL) (name := exn 1) (E := exn 1) hown [] ⟨0, 12, 15, 13⟩ [⟨0, 12, 19, 15⟩] (by rw [htab]; rfl) (fun z hz => absurd hz List.not_mem_nil) (by decide) (by decide) (hts _ wd_274) (cast_exn hX (by decide)) hce hcv hcl ?_
      refine lv_astore (lv' := [(5, .ref q9), (0, .ref aC), (1, .int x1), (2, .int x2), (3, .int x3), (4, .ref aQ)]) hx hb dL_slip_15 hl (by decide) rfl (fun ls hl => ?_)
      refine lv_iconst (v := 1) hx hb dL_slip_17 (by decide) ?_
      exact ureti hx hb hr hlocks hP hS dL_slip_18
    · refine vx_catch (own := RL) (name := exn 2) (E := exn 2) hown [⟨0, 12, 15, 13⟩] ⟨0, 12, 19, 15⟩ [] (by rw [htab]; rfl) (fun z hz => by simp only [List.mem_cons, List.not_mem_nil, or_false] at hz; subst hz; exact Or.inr ⟨by decide, exn 1, (hts _ wd_274), hY 2 1 (by decide) (by decide) (by decide)⟩) (by decide) (by decide) (hts _ wd_275) (cast_exn hX (by decide)) hce hcv hcl ?_
      refine lv_astore (lv' := [(5, .ref q9), (0, .ref aC), (1, .int x1), (2, .int x2), (3, .int x3), (4, .ref aQ)]) hx hb dL_slip_19 hl (by decide) rfl (fun ls hl => ?_)
      refine lv_iconst (v := 2) hx hb dL_slip_21 (by decide) ?_
      exact ureti hx hb hr hlocks hP hS dL_slip_22
  · rcases hk with ⟨-, rfl⟩ | ⟨h, -⟩ | ⟨h, -⟩
    · have hf := hf0 hk0
      subst hf
      refine lv_i2l hx hb dL_slip_10 rfl ?_
      refine l_put hx hb hK hP (wD_re hD t) hS dL_slip_11 (fun H locs hP hS => ?_)
      refine lv_goto (tgt := 23) hx hb dL_slip_12 (by decide) ?_
      refine lv_iconst (v := 0) hx hb dL_slip_23 (by decide) ?_
      exact ureti hx hb hr hlocks hP hS dL_slip_24
    · exact absurd (hk0.symm.trans h) (by decide)
    · exact absurd (hk0.symm.trans h) (by decide)
