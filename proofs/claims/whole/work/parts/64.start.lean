
/-! ===== the start: what the tables give, what the law makes ===== -/
theorem ar_of {args : Array Value} {s : State} {ty : FieldType} (h : (Cond.arrayClass ty).before args s = true) : ∃ cA : ClassId, ArrOfT s cA ty ∧ s.vm.findClass ("[" ++ ty.toString) = some cA := by
  obtain ⟨c, k, comp, h1, h2, h3⟩ := Cond.arrayClass_spec h
  exact ⟨c, fun n z => ⟨(fun k h => by cases h), k, h2, comp, h3⟩, h1⟩
theorem ar_obj {s : State} {C : String} (h : va_AO C s) : ∃ cA : ClassId, ArrOfT s cA (.object C) ∧ va_RA s cA (.object C) := by
  obtain ⟨comp, c, k, h1, h2, h3, h4, h5⟩ := Cond.arrayOver_spec h
  exact ⟨c, fun n z => ⟨(fun k h => by cases h), k, h3, comp, h4⟩, k, comp, h3, h4, h1, h5⟩
theorem str_tbl : ∀ q ∈ strs, Cond.stringRef RX5 q.1 q.2 ∈ lw_tbl := by decide +kernel
theorem gxw_tbl : ∀ w ∈ gxw, w ∈ lw_tbl := by decide +kernel
set_option maxRecDepth 100000 in
theorem start_K {args : Array Value} {s : State} (hts0 : ∀ w ∈ lw_tbl, w.before args s = true) : ∃ (D : va_G) (cI cZ cS cJ : ClassId), gK D (gT cI cZ cS cJ) s ∧ gM s ∧ gX s := by
  have hts : ∀ w ∈ lw_all, w.before args s = true := fun w h => hts0 w (lw_all_tbl h)
  obtain ⟨c0, j0, k0⟩ := u_known (C := RX0) (T := TX0) (N := 5) (n := 5) hts i_X0 (hts _ wd_105)
  obtain ⟨c1, j1, k1⟩ := u_known (C := RX1) (T := TX1) (N := 4) (n := 4) hts i_X1 (hts _ wd_142)
  obtain ⟨c2, j2, k2⟩ := u_known (C := RX2) (T := TX2) (N := 2) (n := 2) hts i_X2 (hts _ wd_90)
  obtain ⟨c3, j3, k3⟩ := u_known (C := RX3) (T := TX3) (N := 2) (n := 2) hts i_X3 (hts _ wd_166)
  obtain ⟨c4, j4, k4⟩ := u_known (C := RX4) (T := TX4) (N := 3) (n := 3) hts i_X4 (hts _ wd_84)
  obtain ⟨c5, j5, k5⟩ := u_known (C := RX5) (T := TX5) (N := 3) (n := 3) hts i_X5 (hts _ wd_76)
  obtain ⟨c6, j6, k6⟩ := u_known (C := RX6) (T := TX6) (N := 11) (n := 11) hts i_X6 (hts _ wd_806)
  obtain ⟨cI, i1, i2⟩ := ar_of (hts _ wd_103)
  obtain ⟨cZ, z1, z2⟩ := ar_of (hts _ wd_164)
  obtain ⟨cJ, l1, l2⟩ := ar_of (hts _ wd_1124)
  have hO : va_AO RX4 s := va_AO.of (hts0 (.arrayOver (.object RX4)) (List.mem_of_getElem? (i := 148) (by decide +kernel)))
  obtain ⟨cS, s1, s2⟩ := ar_obj hO
  have hKn : ∀ (k : Nat) (q : vw_C), vwCl[k]? = some q → u_Kn s q.1 q.2.1 q.2.2 ((fun k => match k with | 0 => c0 | 1 => c1 | 2 => c2 | 3 => c3 | 4 => c4 | 5 => c5 | _ => c6 : Nat → ClassId) k) ((fun k => match k with | 0 => j0 | 1 => j1 | 2 => j2 | 3 => j3 | 4 => j4 | 5 => j5 | _ => j6 : Nat → Nat → Nat) k) := by
    intro k q hq
    match k, hq with
    | 0, hq => cases hq; exact k0
    | 1, hq => cases hq; exact k1
    | 2, hq => cases hq; exact k2
    | 3, hq => cases hq; exact k3
    | 4, hq => cases hq; exact k4
    | 5, hq => cases hq; exact k5
    | 6, hq => cases hq; exact k6
    | k + 7, hq => simp [vwCl] at hq
  have hT : ∀ (k : Nat) (q : ClassId × FieldType), (gT cI cZ cS cJ)[k]? = some q → ArrOfT s q.1 q.2 ∧ va_RA s q.1 q.2 := by
    intro k q hq
    match k, hq with
    | 0, hq => cases hq; exact ⟨i1, i2⟩
    | 1, hq => cases hq; exact ⟨z1, z2⟩
    | 2, hq => cases hq; exact ⟨s1, s2⟩
    | 3, hq => cases hq; exact ⟨l1, l2⟩
    | k + 4, hq => simp [gT] at hq
  have hc5 : s.vm.findClass RX5 = some c5 := k5.2.1
  refine ⟨(_, _), cI, cZ, cS, cJ, ⟨⟨hKn, hT⟩, va_Nw.of rfl (hts0 _ (List.mem_of_getElem? (i := 386) (by decide +kernel))), va_Nw.of rfl (hts0 _ (List.mem_of_getElem? (i := 393) (by decide +kernel))), va_Nw.of rfl (hts0 _ (List.mem_of_getElem? (i := 758) (by decide +kernel)))⟩, ⟨va_Nw.of rfl (hts0 _ (List.mem_of_getElem? (i := 85) (by decide +kernel))), va_Nw.of rfl (hts0 _ (List.mem_of_getElem? (i := 106) (by decide +kernel))), va_Nw.of rfl (hts0 _ (List.mem_of_getElem? (i := 149) (by decide +kernel))), va_Nw.of rfl (hts0 _ (List.mem_of_getElem? (i := 167) (by decide +kernel))), hO⟩, fun q hq => ?_, fun w hw => va_Nw.of (gxw_tabs w hw) (hts0 w (gxw_tbl w hw))⟩
  have h1 := hts0 _ (str_tbl q hq)
  obtain ⟨-, -, -, sa, -, -, -, -, -, hev⟩ := Cond.stringRef_spec hc5 h1
  exact ⟨sa, vk_R.of h1 hev⟩
theorem start_Y {args : Array Value} {s : State} (hgv : (Jvm.Cond.and given_1 narrow_1).before args s = true) : gY s := by
  have hs := flat_of_before _ hgv
  intro i j hi hj hn
  simp only [List.mem_cons, List.not_mem_nil, or_false] at hi hj
  rcases hi with rfl | rfl | rfl <;> rcases hj with rfl | rfl | rfl
  · exact absurd rfl hn
  · exact va_Nc.of (hs (Cond.not (.castable "java/lang/IndexOutOfBoundsException" "java/lang/IllegalArgumentException")) (by decide +kernel))
  · exact va_Nc.of (hs (Cond.not (.castable "java/lang/IndexOutOfBoundsException" "java/lang/IllegalStateException")) (by decide +kernel))
  · exact va_Nc.of (hs (Cond.not (.castable "java/lang/IllegalArgumentException" "java/lang/IndexOutOfBoundsException")) (by decide +kernel))
  · exact absurd rfl hn
  · exact va_Nc.of (hs (Cond.not (.castable "java/lang/IllegalArgumentException" "java/lang/IllegalStateException")) (by decide +kernel))
  · exact va_Nc.of (hs (Cond.not (.castable "java/lang/IllegalStateException" "java/lang/IndexOutOfBoundsException")) (by decide +kernel))
  · exact va_Nc.of (hs (Cond.not (.castable "java/lang/IllegalStateException" "java/lang/IllegalArgumentException")) (by decide +kernel))
  · exact absurd rfl hn
theorem start_Z {args : Array Value} {s : State} (hts0 : ∀ w ∈ lw_tbl, w.before args s = true) (hgv : (Jvm.Cond.and given_1 narrow_1).before args s = true) : gZ (lA s) s s.heap := by
  have hs := flat_of_before _ hgv
  have hini := hts0 (.initialized "java/lang/Throwable") (List.mem_of_getElem? (i := 68) (by decide +kernel))
  exact ⟨vx_Zqof (hts0 _ (List.mem_of_getElem? (i := 310) (by decide +kernel))) hini (hs _ (by decide +kernel)) (fun a h => Nat.not_le.mpr h), vx_Zqof (hts0 _ (List.mem_of_getElem? (i := 312) (by decide +kernel))) hini (hs _ (by decide +kernel)) (fun a h => Nat.not_le.mpr h)⟩
/-- a new piece behind others: what it has become stands beside them -/
theorem c_join {A : Nat → Prop} {D : va_G} {cl : List vw_C} {X w1 : va_W} {c1 : Nat × va_E} {H H1 : Heap} (hP : va_P D cl (X ++ [c1]) H) (hD : va_D A (X ++ [c1])) (hk1 : ∀ q : Nat, q < H.size → ¬ va_A [c1] H.size q → H1[q]? = H[q]?) (hF : ∀ q, va_A [c1] H.size q → A q) (hP1 : va_P D cl w1 H1) (hD1 : va_D (va_A [c1] H.size) w1) : va_P D cl (X ++ w1) H1 ∧ va_D A (X ++ w1) := by
  have key : ∀ (i : Nat) (x : Nat × va_E), X[i]? = some x → ¬ va_A [c1] H.size x.1 := by
    intro i x hi h
    rcases h with ⟨k, e, hk⟩ | h
    · exact wD_x hD (uA_mem hi) (List.mem_map.mpr ⟨_, List.mem_of_getElem? hk, rfl⟩)
    · have := (wP_l hP i x hi).lt
      omega
  refine ⟨va_P.app ((wP_l hP).kept (fun i x hi => hk1 x.1 (wP_l hP i x hi).lt (key i x hi))) hP1, va_D.app (wD_l hD) (hD1.weaken (fun k q _ h => hF q.1 h)) (fun i j x y hi hj e => key i x hi ?_)⟩
  rw [e]
  exact hD1.2 j y hj
theorem c_free {A : Nat → Prop} {X : va_W} {c1 : Nat × va_E} {H0 H : Heap} {locs : List Loc} (hD : va_D A (X ++ [c1])) (hS : va_S A H0 H locs) (hA : ∀ q, H0.size ≤ q → A q) : ∀ q, va_A [c1] H.size q → A q := by
  intro q h
  rcases h with ⟨k, e, hk⟩ | h
  · exact (wD_r hD).2 k _ hk
  · exact hA q (Nat.le_trans hS.1 h)
theorem swap_P {D : va_G} {cl : List vw_C} {x y z : va_W} {H : Heap} (h : va_P D cl ((x ++ y) ++ z) H) : va_P D cl ((x ++ z) ++ y) H := va_P.app (va_P.app (wP_l (wP_l h)) (wP_r h)) (wP_r (wP_l h))
theorem swap_D {A : Nat → Prop} {x y z : va_W} (h : va_D A ((x ++ y) ++ z)) : va_D A ((x ++ z) ++ y) := by
  refine va_D.app (va_D.app (wD_l (wD_l h)) (wD_r h) (fun i j p q hi hj e => ?_)) (wD_r (wD_l h)) (fun i j p q hi hj e => ?_)
  · exact wD_x h (uA_mem (app_l hi)) (by rw [e]; exact uA_mem hj)
  · rcases app_e hi with h1 | ⟨j1, -, h1⟩
    · exact wD_x (wD_l h) (uA_mem h1) (by rw [e]; exact uA_mem hj)
    · exact wD_x h (uA_mem (app_r hj)) (by rw [← e]; exact uA_mem h1)
section Start
variable {p : Program} {l : Launch} {e : Env} {s : State} {m : MethodId} {below : List Frame} {meth : Method} {c : Code} {Q : State → Prop} {b L : Nat} {xs : Nat → Int32} {D : va_G} {cI cZ cS cJ : ClassId}
set_option maxHeartbeats 4000000 in
set_option maxRecDepth 100000 in
/-- the law from its entry -/
theorem law_from (hfl : l.stackTraces = false) (C : LC p s m c b L xs D cI cZ cS cJ) (hM : gM s) (hL : L ≤ 2048)
    (kend : ∀ (H : Heap) (locs : List Loc) (cells slots : Nat) (ls : Array Slot), va_S (lA s) s.heap H locs → cells ≤ 601024 → slots ≤ 7293034 → W p l e room_1 s m #[Value.ref b] below meth c H locs cells slots Q (F0 m 1609 ls [.int 1])) :
    W p l e room_1 s m #[Value.ref b] below meth c s.heap [] 0 0 Q (entryFrame m ([Value.ref b] : List Value).toArray 9) := by
  obtain ⟨hx, hb, hml, hown, hts, hXs, hbl, hK, hX, hZ, hY⟩ := id C
  have hA : ∀ q : Nat, s.heap.size ≤ q → lA s q := fun _ h => h
  have S : CallFix p m c cL_law 9 s #[Value.ref b] lw_all RL := ⟨hx, hb, hml, hown, hts⟩
  have hS : va_S (lA s) s.heap s.heap [] := va_S.rf
  have hP : va_P D vwCl [] s.heap := fun k q h => by simp at h
  have hD : va_D (lA s) [] := ⟨fun i j p q h => by simp at h, fun k q h => by simp at h⟩
  have hl := lv_entry ([.ref b]) (n := 9) (Nat.le_of_ble_eq_true rfl)
  rw [lg_entry_eq]
  generalize (lg_sl ([.ref b]) ++ List.replicate (9 - (lg_sl ([.ref b])).length) Slot.unset).toArray = ls at hl ⊢
  have hl : lv_has ls 9 [(0, .ref b)] := hl
  refine va_new (D := D) (ci := 5) (fs := [.null, .null, .null]) (C := RX5) (T := TX5) (N := 3) hx hb hts i_X5 tyX5 tyX5_ok hown (hts _ wd_75) (hts _ wd_76) (hts _ wd_61) hK.1 hP hD hS hA rfl (fun j hj => by rcases (show j = 0 ∨ j = 1 ∨ j = 2 by omega) with rfl | rfl | rfl <;> rfl) (Nat.le_of_ble_eq_true rfl) (Nat.le_of_ble_eq_true rfl) dL_law_0 (fun q1 H hP hD hS => ?_)
  have hP : va_P D vwCl ([] ++ [(q1, .inr (5, [.null, .null, .null]))]) H := hP
  have hD : va_D (lA s) ([] ++ [(q1, .inr (5, [.null, .null, .null]))]) := hD
  refine lv_dup hx hb dL_law_3 rfl ?_
  have hFc := c_free hD hS hA
  refine va_callv (va_runI (As := []) (rest := [.ref q1]) S (K5_init l D cI cZ cS cJ q1 H.size) (cwI 0 hts (gd_all wd_79) rfl rfl rfl (hts _ wd_61) (hts _ wd_77) (hts _ wd_78) rfl (by decide +kernel) ⟨Nat.le_of_ble_eq_true rfl, Nat.le_of_ble_eq_true rfl⟩) (cPreS hK hM (wP_r hP) (wD_r hD)) rfl rfl hl.1 rfl (lv_room (Nat.le_of_ble_eq_true rfl)) dL_law_4 ⟨Nat.le_of_ble_eq_true rfl, Nat.le_of_ble_eq_true rfl⟩) hS (fun q _ h => hFc q h) hFc (fun u t H1 locs ht hvm hw hB hz1 hk1 hS => ?_)
  obtain ⟨hP1, hD1⟩ := hB
  rw [ht] at hP1
  have hP1 : va_P D vwCl (W5x cI q1 u.1.1 u.1.2.1 u.1.2.2.1 u.1.2.2.2.1 u.1.2.2.2.2.1 u.1.2.2.2.2.2.1 u.1.2.2.2.2.2.2.1 u.1.2.2.2.2.2.2.2 u.2.1 u.2.2.1 u.2.2.2.1 0 11 iW 0 i0 i0 i0 i0 0 i0 ++ HB cI cZ cS u.2.2.2.1 u.2.2.2.2.1 u.2.2.2.2.2.1 u.2.2.2.2.2.2.1 0 i0 u.2.2.2.2.2.2.2.1 (fun _ => iV) u.2.2.2.2.2.2.2.2 (fun _ => iV)) H1 := hP1
  have hD1 : va_D (va_A [(q1, .inr (5, [.null, .null, .null]))] H.size) (W5x cI q1 u.1.1 u.1.2.1 u.1.2.2.1 u.1.2.2.2.1 u.1.2.2.2.2.1 u.1.2.2.2.2.2.1 u.1.2.2.2.2.2.2.1 u.1.2.2.2.2.2.2.2 u.2.1 u.2.2.1 u.2.2.2.1 0 11 iW 0 i0 i0 i0 i0 0 i0 ++ HB cI cZ cS u.2.2.2.1 u.2.2.2.2.1 u.2.2.2.2.2.1 u.2.2.2.2.2.2.1 0 i0 u.2.2.2.2.2.2.2.1 (fun _ => iV) u.2.2.2.2.2.2.2.2 (fun _ => iV)) := hD1
  have hD2 := hD1.weaken (B := lA s) (fun k q _ h => hFc q.1 h)
  clear hP hD hFc hk1 hD1
  generalize H1 = H at hP1 hS ⊢
  refine lv_astore_n (lv' := [(1, .ref q1), (0, .ref b)]) hx hb dL_law_7 rfl hl (by decide) rfl (fun ls hl => ?_)
  refine va_new (D := D) (ci := 6) (fs := [.null, .null, .int 0, .null, .null, .null, .int 0, .int 0, .int 0, .null, .int 0]) (C := RX6) (T := TX6) (N := 11) hx hb hts i_X6 tyX6 tyX6_ok hown (hts _ wd_805) (hts _ wd_806) (hts _ wd_67) hK.1 hP1 hD2 hS hA rfl (fun j hj => by rcases (show j = 0 ∨ j = 1 ∨ j = 2 ∨ j = 3 ∨ j = 4 ∨ j = 5 ∨ j = 6 ∨ j = 7 ∨ j = 8 ∨ j = 9 ∨ j = 10 by omega) with rfl | rfl | rfl | rfl | rfl | rfl | rfl | rfl | rfl | rfl | rfl <;> rfl) (Nat.le_of_ble_eq_true rfl) (Nat.le_of_ble_eq_true rfl) dL_law_8 (fun q2 H hP hD hS => ?_)
  refine lv_dup hx hb dL_law_11 rfl ?_
  have hFc := c_free hD hS hA
  refine va_callv (va_runI (As := []) (rest := [.ref q2]) S (K6_init l D cI cZ cS cJ q2 H.size) (cwI 0 hts (gd_all wd_809) rfl rfl rfl (hts _ wd_67) (hts _ wd_807) (hts _ wd_808) rfl (by decide +kernel) ⟨Nat.le_of_ble_eq_true rfl, Nat.le_of_ble_eq_true rfl⟩) (cPreS hK hM (wP_r hP) (wD_r hD)) rfl rfl hl.1 rfl (lv_room (Nat.le_of_ble_eq_true rfl)) dL_law_12 ⟨Nat.le_of_ble_eq_true rfl, Nat.le_of_ble_eq_true rfl⟩) hS (fun q _ h => hFc q h) hFc (fun v t H1 locs ht hvm hw hB hz1 hk1 hS => ?_)
  obtain ⟨hP6, hD6⟩ := hB
  have hP6 : va_P D vwCl (W6 cI q2 v.1 v.2.1 v.2.2.1 v.2.2.2.1 v.2.2.2.2.1 v.2.2.2.2.2 0 0 0 0 0 iN i0 i0 i0 i0 i0) t.heap := hP6
  have hD6 : va_D (va_A [(q2, .inr (6, [.null, .null, .int 0, .null, .null, .null, .int 0, .int 0, .int 0, .null, .int 0]))] H.size) (W6 cI q2 v.1 v.2.1 v.2.2.1 v.2.2.2.1 v.2.2.2.2.1 v.2.2.2.2.2 0 0 0 0 0 iN i0 i0 i0 i0 i0) := hD6
  rw [ht] at hP6
  obtain ⟨hP, hD⟩ := c_join hP hD hk1 hFc hP6 hD6
  generalize H1 = H at hP hS ⊢
  refine lv_astore_n (lv' := [(2, .ref q2), (1, .ref q1), (0, .ref b)]) hx hb dL_law_15 rfl hl (by decide) rfl (fun ls hl => ?_)
  refine lv_iconst (v := 1) hx hb dL_law_16 (by decide) ?_
  refine va_newa (atype := .long) (ty := .long) (a0 := (1, .inr (.inl (fun _ => 0)))) hx hb (hts _ wd_1124) rfl hK.1 hP hD hS hA (fun _ => rfl) (by decide) rfl (by decide) (Nat.le_of_ble_eq_true rfl) (Nat.le_of_ble_eq_true rfl) dL_law_17 (fun q3 cA H hK2 hP hD hS => ?_)
  have g1 : s.vm.findClass ("[" ++ FieldType.long.toString) = some cA := (hK2.2 4 (cA, .long) rfl).2
  have g2 : s.vm.findClass ("[" ++ FieldType.long.toString) = some cJ := (hK.1.2 3 (cJ, .long) rfl).2
  obtain rfl : cA = cJ := Option.some.inj (g1.symm.trans g2)
  have hP := swap_P hP
  have hD := swap_D hD
  refine lv_astore_n (lv' := [(3, .ref q3), (2, .ref q2), (1, .ref q1), (0, .ref b)]) hx hb dL_law_19 rfl hl (by decide) rfl (fun ls hl => ?_)
  refine lv_iconst (v := 0) hx hb dL_law_20 (by decide) ?_
  refine lv_istore (lv' := [(4, .int 0), (3, .ref q3), (2, .ref q2), (1, .ref q1), (0, .ref b)]) hx hb dL_law_21 hl (by decide) rfl (fun ls hl => ?_)
  refine W.widen (k := 87 + 3 * 0) (n := 9258 + 18 * 0) (Nat.le_of_ble_eq_true rfl) (Nat.le_of_ble_eq_true rfl) ?_
  exact law_loop hfl C hL kend (L + 1) 0 0 (by omega) (by omega) rfl H locs ls ⟨0, 11, iW, 0, i0, i0, i0, i0, 0, i0, 0, i0, u.2.2.2.2.2.2.2.1, (fun _ => iV), (fun _ => iV), 0, 0, 0, 0, 0, iN, i0, i0, i0, i0, i0, (fun _ => 0), Inv_new, hP, hD, hS⟩ (lv_sub hl [4, 3, 2, 1, 0] rfl)
end Start
