
/-! ===== the start: what the tables give, what the law makes ===== -/
theorem ar_of {args : Array Value} {s : State} {ty : FieldType} (h : (Cond.arrayClass ty).before args s = true) : ∃ cA : ClassId, ArrOfT s cA ty ∧ s.vm.findClass ("[" ++ ty.toString) = some cA := by
  obtain ⟨c, k, comp, h1, h2, h3⟩ := Cond.arrayClass_spec h
  exact ⟨c, fun n z => ⟨(fun k h => by cases h), k, h2, comp, h3⟩, h1⟩
theorem ar_obj {s : State} {C : String} (h : va_AO C s) : ∃ cA : ClassId, ArrOfT s cA (.object C) ∧ va_RA s cA (.object C) := by
  obtain ⟨comp, c, k, h1, h2, h3, h4, h5⟩ := Cond.arrayOver_spec h
  exact ⟨c, fun n z => ⟨(fun k h => by cases h), k, h3, comp, h4⟩, k, comp, h3, h4, h1, h5⟩
theorem str_tbl : ∀ q ∈ strs, Cond.stringRef RX5 q.1 q.2 ∈ lw_tbl := by decide +kernel
theorem gxw_tbl : ∀ w ∈ gxw, w ∈ lw_tbl := by decide +kernel
set_option maxRecDepth 100000 in
theorem start_K {args : Array Value} {s : State} (hts0 : ∀ w ∈ lw_tbl, w.before args s = true) : ∃ (D : va_G) (cI cZ cS cJ : ClassId), gK D (gT cI cZ cS cJ) s ∧ gM s ∧ gX s := by
  have hts : ∀ w ∈ lw_all, w.before args s = true := fun w h => hts0 w (lw_all_tbl h)
  obtain ⟨c0, j0, k0⟩ := u_known (C := RX0) (T := TX0) (N := 5) (n := 5) hts i_X0 (hts _ wd_65)
  obtain ⟨c1, j1, k1⟩ := u_known (C := RX1) (T := TX1) (N := 4) (n := 4) hts i_X1 (hts _ wd_102)
  obtain ⟨c2, j2, k2⟩ := u_known (C := RX2) (T := TX2) (N := 2) (n := 2) hts i_X2 (hts _ wd_50)
  obtain ⟨c3, j3, k3⟩ := u_known (C := RX3) (T := TX3) (N := 2) (n := 2) hts i_X3 (hts _ wd_126)
  obtain ⟨c4, j4, k4⟩ := u_known (C := RX4) (T := TX4) (N := 3) (n := 3) hts i_X4 (hts _ wd_44)
  obtain ⟨c5, j5, k5⟩ := u_known (C := RX5) (T := TX5) (N := 3) (n := 3) hts i_X5 (hts _ wd_36)
  obtain ⟨cI, i1, i2⟩ := ar_of (hts _ wd_63)
  obtain ⟨cZ, z1, z2⟩ := ar_of (hts _ wd_124)
  obtain ⟨cJ, l1, l2⟩ := ar_of (hts _ wd_784)
  have hO : va_AO RX4 s := va_AO.of (hts0 (.arrayOver (.object RX4)) (List.mem_of_getElem? (i := 108) (by decide +kernel)))
  obtain ⟨cS, s1, s2⟩ := ar_obj hO
  have hKn : ∀ (k : Nat) (q : vw_C), vwCl[k]? = some q → u_Kn s q.1 q.2.1 q.2.2 ((fun k => match k with | 0 => c0 | 1 => c1 | 2 => c2 | 3 => c3 | 4 => c4 | _ => c5 : Nat → ClassId) k) ((fun k => match k with | 0 => j0 | 1 => j1 | 2 => j2 | 3 => j3 | 4 => j4 | _ => j5 : Nat → Nat → Nat) k) := by
    intro k q hq
    match k, hq with
    | 0, hq => cases hq; exact k0
    | 1, hq => cases hq; exact k1
    | 2, hq => cases hq; exact k2
    | 3, hq => cases hq; exact k3
    | 4, hq => cases hq; exact k4
    | 5, hq => cases hq; exact k5
    | k + 6, hq => simp [vwCl] at hq
  have hT : ∀ (k : Nat) (q : ClassId × FieldType), (gT cI cZ cS cJ)[k]? = some q → ArrOfT s q.1 q.2 ∧ va_RA s q.1 q.2 := by
    intro k q hq
    match k, hq with
    | 0, hq => cases hq; exact ⟨i1, i2⟩
    | 1, hq => cases hq; exact ⟨z1, z2⟩
    | 2, hq => cases hq; exact ⟨s1, s2⟩
    | 3, hq => cases hq; exact ⟨l1, l2⟩
    | k + 4, hq => simp [gT] at hq
  have hc5 : s.vm.findClass RX5 = some c5 := k5.2.1
  refine ⟨(_, _), cI, cZ, cS, cJ, ⟨⟨hKn, hT⟩, va_Nw.of rfl (hts0 _ (List.mem_of_getElem? (i := 295) (by decide +kernel))), va_Nw.of rfl (hts0 _ (List.mem_of_getElem? (i := 302) (by decide +kernel))), va_Nw.of rfl (hts0 _ (List.mem_of_getElem? (i := 696) (by decide +kernel)))⟩, ⟨va_Nw.of rfl (hts0 _ (List.mem_of_getElem? (i := 45) (by decide +kernel))), va_Nw.of rfl (hts0 _ (List.mem_of_getElem? (i := 66) (by decide +kernel))), va_Nw.of rfl (hts0 _ (List.mem_of_getElem? (i := 109) (by decide +kernel))), va_Nw.of rfl (hts0 _ (List.mem_of_getElem? (i := 127) (by decide +kernel))), hO⟩, fun q hq => ?_, fun w hw => va_Nw.of (gxw_tabs w hw) (hts0 w (gxw_tbl w hw))⟩
  have h1 := hts0 _ (str_tbl q hq)
  obtain ⟨-, -, -, sa, -, -, -, -, -, hev⟩ := Cond.stringRef_spec hc5 h1
  exact ⟨sa, vk_R.of h1 hev⟩
theorem start_Y {args : Array Value} {s : State} (hgv : (Jvm.Cond.and given_1 narrow_1).before args s = true) : gY s := by
  have hs := flat_of_before _ hgv
  intro i j hi hj hn
  simp only [List.mem_cons, List.not_mem_nil, or_false] at hi hj
  rcases hi with rfl | rfl | rfl <;> rcases hj with rfl | rfl | rfl
  · exact absurd rfl hn
  · exact va_Nc.of (hs (Cond.not (.castable "java/lang/IndexOutOfBoundsException" "java/lang/IllegalArgumentException")) (by decide +kernel))
  · exact va_Nc.of (hs (Cond.not (.castable "java/lang/IndexOutOfBoundsException" "java/lang/IllegalStateException")) (by decide +kernel))
  · exact va_Nc.of (hs (Cond.not (.castable "java/lang/IllegalArgumentException" "java/lang/IndexOutOfBoundsException")) (by decide +kernel))
  · exact absurd rfl hn
  · exact va_Nc.of (hs (Cond.not (.castable "java/lang/IllegalArgumentException" "java/lang/IllegalStateException")) (by decide +kernel))
  · exact va_Nc.of (hs (Cond.not (.castable "java/lang/IllegalStateException" "java/lang/IndexOutOfBoundsException")) (by decide +kernel))
  · exact va_Nc.of (hs (Cond.not (.castable "java/lang/IllegalStateException" "java/lang/IllegalArgumentException")) (by decide +kernel))
  · exact absurd rfl hn
theorem start_Z {args : Array Value} {s : State} (hts0 : ∀ w ∈ lw_tbl, w.before args s = true) (hgv : (Jvm.Cond.and given_1 narrow_1).before args s = true) : gZ (lA s) s s.heap := by
  have hs := flat_of_before _ hgv
  have hini := hts0 (.initialized "java/lang/Throwable") (List.mem_of_getElem? (i := 28) (by decide +kernel))
  exact ⟨vx_Zqof (hts0 _ (List.mem_of_getElem? (i := 203) (by decide +kernel))) hini (hs _ (by decide +kernel)) (fun a h => Nat.not_le.mpr h), vx_Zqof (hts0 _ (List.mem_of_getElem? (i := 205) (by decide +kernel))) hini (hs _ (by decide +kernel)) (fun a h => Nat.not_le.mpr h)⟩
section Start
variable {p : Program} {l : Launch} {e : Env} {s : State} {m : MethodId} {below : List Frame} {meth : Method} {c : Code} {Q : State → Prop} {b nL : Nat} {xs : Nat → Int32} {D : va_G} {cI cZ cS cJ : ClassId}
set_option maxHeartbeats 8000000 in
set_option maxRecDepth 100000 in
/-- the law from its entry -/
theorem law_from (hfl : l.stackTraces = false) (C : LC p s m c b nL xs D cI cZ cS cJ) (kend : ∀ (H : Heap) (locs : List Loc) (cells slots pc : Nat) (ls : Array Slot), va_S (lA s) s.heap H locs → cells ≤ 600130 → slots ≤ 7301080 → decode cL_law pc = .ok (.ireturn, 1) → W p l e room_1 s m #[Value.ref b] below meth c H locs cells slots Q (F0 m pc ls [.int 1])) (h1 : fL_lettersB st0 = some (1 : Int32)) (h2 : fL_chequesB st0 = some (1 : Int32)) (h3 : fL_textsB st0 = some (1 : Int32)) (hF : fL_lawB nL st0 (fun _ => 0) xs = some (1 : Int32)) : W p l e room_1 s m #[Value.ref b] below meth c s.heap [] 0 0 Q (entryFrame m ([Value.ref b] : List Value).toArray 16) := by
  obtain ⟨hx, hb, hml, hown, hts, hXs, hbl, hK, hM, hX, hZ, hY⟩ := id C
  have hA : ∀ q : Nat, s.heap.size ≤ q → lA s q := fun _ h => h
  have S : CallFix p m c cL_law 16 s #[Value.ref b] lw_all RL := ⟨hx, hb, hml, hown, hts⟩
  have hS : va_S (lA s) s.heap s.heap [] := va_S.rf
  have hl := lv_entry ([.ref b]) (n := 16) (Nat.le_of_ble_eq_true rfl)
  rw [lg_entry_eq]
  generalize (lg_sl ([.ref b]) ++ List.replicate (16 - (lg_sl ([.ref b])).length) Slot.unset).toArray = ls at hl ⊢
  have hl : lv_has ls 16 [(0, .ref b)] := hl
  refine ncall (x := 1) (va_runS (As := []) (rest := []) S (KL_letters l hfl D cI cZ cS cJ _ 1 h1) (va_cwS 0 hts (gd_S wd_716 wd_717 wd_21 wd_718) rfl rfl rfl hdnL_letters ⟨(Nat.le_of_ble_eq_true rfl), (Nat.le_of_ble_eq_true rfl)⟩) (nPreS hK hM hX hZ hY hS (fun q h => hA q (Nat.le_trans hS.1 h))) rfl rfl hl.1 rfl (lv_room ((Nat.le_of_ble_eq_true rfl))) dL_law_0 ⟨(Nat.le_of_ble_eq_true rfl), (Nat.le_of_ble_eq_true rfl)⟩) hS (fun q h => hA q (Nat.le_trans hS.1 h)) (fun H locs hS => ?_)
  refine lv_if_eq (tgt := 18) hx hb dL_law_3 (by decide) (fun h => absurd h (by decide)) (fun _ => ?_)
  refine ncall (x := 1) (va_runS (As := []) (rest := []) S (KL_cheques l hfl D cI cZ cS cJ _ 1 h2) (va_cwS 0 hts (gd_S wd_725 wd_726 wd_21 wd_727) rfl rfl rfl hdnL_cheques ⟨(Nat.le_of_ble_eq_true rfl), (Nat.le_of_ble_eq_true rfl)⟩) (nPreS hK hM hX hZ hY hS (fun q h => hA q (Nat.le_trans hS.1 h))) rfl rfl hl.1 rfl (lv_room ((Nat.le_of_ble_eq_true rfl))) dL_law_6 ⟨(Nat.le_of_ble_eq_true rfl), (Nat.le_of_ble_eq_true rfl)⟩) hS (fun q h => hA q (Nat.le_trans hS.1 h)) (fun H locs hS => ?_)
  refine lv_if_eq (tgt := 18) hx hb dL_law_9 (by decide) (fun h => absurd h (by decide)) (fun _ => ?_)
  refine ncall (x := 1) (va_runS (As := []) (rest := []) S (KL_texts l hfl D cI cZ cS cJ _ 1 h3) (va_cwS 0 hts (gd_S wd_729 wd_730 wd_21 wd_731) rfl rfl rfl hdnL_texts ⟨(Nat.le_of_ble_eq_true rfl), (Nat.le_of_ble_eq_true rfl)⟩) (nPreS hK hM hX hZ hY hS (fun q h => hA q (Nat.le_trans hS.1 h))) rfl rfl hl.1 rfl (lv_room ((Nat.le_of_ble_eq_true rfl))) dL_law_12 ⟨(Nat.le_of_ble_eq_true rfl), (Nat.le_of_ble_eq_true rfl)⟩) hS (fun q h => hA q (Nat.le_trans hS.1 h)) (fun H locs hS => ?_)
  refine lv_if_ne (tgt := 20) hx hb dL_law_15 (by decide) (fun _ => ?_) (fun h => absurd h (by decide))
  have hP : va_P D vwCl [] H := fun k q h => by simp at h
  have hD : va_D (lA s) [] := ⟨fun i j p q h => by simp at h, fun k q h => by simp at h⟩
  refine va_new (D := D) (ci := 5) (fs := [.null, .null, .null]) (C := RX5) (T := TX5) (N := 3) hx hb hts i_X5 tyX5 tyX5_ok hown (hts _ wd_35) (hts _ wd_36) (hts _ wd_22) hK.1 hP hD hS hA rfl (fun j hj => by rcases (show j = 0 ∨ j = 1 ∨ j = 2 by omega) with rfl | rfl | rfl <;> rfl) ((Nat.le_of_ble_eq_true rfl)) ((Nat.le_of_ble_eq_true rfl)) dL_law_20 (fun q1 H hP hD hS => ?_)
  have hP : va_P D vwCl ([] ++ [(q1, .inr (5, [.null, .null, .null]))]) H := hP
  have hD : va_D (lA s) ([] ++ [(q1, .inr (5, [.null, .null, .null]))]) := hD
  refine lv_dup hx hb dL_law_23 rfl ?_
  have hFc := c_free hD hS hA
  refine va_callv (va_runI (As := []) (rest := [.ref q1]) S (K5_init l D cI cZ cS cJ q1 H.size) (cwI 0 hts (gd_all wd_39) rfl rfl rfl (hts _ wd_22) (hts _ wd_37) (hts _ wd_38) rfl (by decide +kernel) ⟨(Nat.le_of_ble_eq_true rfl), (Nat.le_of_ble_eq_true rfl)⟩) (cPreS hK hM (wP_r hP) (wD_r hD)) rfl rfl hl.1 rfl (lv_room ((Nat.le_of_ble_eq_true rfl))) dL_law_24 ⟨(Nat.le_of_ble_eq_true rfl), (Nat.le_of_ble_eq_true rfl)⟩) hS (fun q _ h => hFc q h) hFc (fun u t H1 locs ht hvm hw hB hz1 hk1 hS => ?_)
  obtain ⟨hP1, hD1⟩ := hB
  rw [ht] at hP1
  have hP1 : va_P D vwCl (WS cI cZ cS (q1, u) st0) H1 := hP1
  have hD1 : va_D (va_A [(q1, .inr (5, [.null, .null, .null]))] H.size) (WS cI cZ cS (q1, u) st0) := hD1
  have hD2 := hD1.weaken (B := (lA s)) (fun k q _ h => hFc q.1 h)
  refine lv_astore_n (lv' := [(1, .ref q1), (0, .ref b)]) hx hb dL_law_27 rfl hl (by decide) rfl (fun ls hl => ?_)
  refine lv_bipush (v := 64) hx hb dL_law_28 (by decide) ?_
  refine va_newa (atype := .long) (ty := .long) (a0 := (64, .inr (.inl (fun _ => 0)))) hx hb (hts _ wd_784) rfl hK.1 hP1 hD2 hS hA (fun _ => rfl) (by decide) (by decide) (by decide) ((Nat.le_of_ble_eq_true rfl)) ((Nat.le_of_ble_eq_true rfl)) dL_law_30 (fun q3 cA H hK2 hP hD hS => ?_)
  have g1 : s.vm.findClass ("[" ++ FieldType.long.toString) = some cA := (hK2.2 4 (cA, .long) rfl).2
  have g2 : s.vm.findClass ("[" ++ FieldType.long.toString) = some cJ := (hK.1.2 3 (cJ, .long) rfl).2
  obtain rfl : cA = cJ := Option.some.inj (g1.symm.trans g2)
  refine lv_astore_n (lv' := [(2, .ref q3), (1, .ref q1), (0, .ref b)]) hx hb dL_law_32 rfl hl (by decide) rfl (fun ls hl => ?_)
  exact law_body hfl C (q1, u) q3 (fun _ => 0) st0 kend hF H locs _ _ ((Nat.le_of_ble_eq_true rfl)) ((Nat.le_of_ble_eq_true rfl)) hP hD hS ls (lv_sub hl [2, 1, 0] rfl)
end Start
