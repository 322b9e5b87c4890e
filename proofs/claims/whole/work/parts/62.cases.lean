
/-! ===== the law's cases ===== -/
abbrev lA (s : State) : Nat → Prop := fun q => s.heap.size ≤ q
/-- what the law has of its start -/
def LC (p : Program) (s : State) (m : MethodId) (c : Code) (b L : Nat) (xs : Nat → Int32) (D : va_G) (cI cZ cS cJ : ClassId) : Prop :=
  p.tables.exec = Jvm.exec ∧ c.code = cL_law ∧ c.maxLocals = 9 ∧ s.vm.findClass RL = some m.cls ∧ (∀ w ∈ lw_all, w.before #[Value.ref b] s = true) ∧ va_X b L xs s s.heap ∧ b < s.heap.size ∧ gK D (gT cI cZ cS cJ) s ∧ gX s ∧ gZ (lA s) s s.heap ∧ gY s
/-- what holds at the loop's head: the object and the reference tell the same -/
def LI (s : State) (D : va_G) (cI cZ cS cJ : ClassId) (aC aS aL aW aB aF aZ aK aM aO aT aY aV aU aR aQ aX aN aP aJ aI aG aD : Nat) (kQ : Nat → SA) (H : Heap) (locs : List Loc) : Prop :=
  ∃ (sr : Int32) (wm : Int32) (wW : Nat → Int32) (bh : Int32) (bF : Nat → Int32) (bZ : Nat → Int32) (bK : Nat → Int32) (bM : Nat → Int32) (ol : Int32) (oS : Nat → Int32) (kd : Int32) (kf : Nat → Int32) (kA : Nat → SA) (kV : Nat → SV) (kP : Nat → SV) (ms : Int32) (ml : Int32) (mt : Int32) (mq : Int32) (mu : Int32) (mN : Nat → Int32) (mP : Nat → Int32) (mK : Nat → Int32) (mI : Nat → Int32) (mT : Nat → Int32) (mD : Nat → Int32) (f : Nat → Int64), Inv sr wm wW bh bF bZ bK bM ol oS kd kf kV kP mN mP ms mK mI mT ml ∧ va_P D vwCl ((((W5x cI aC aS aL aW aB aF aZ aK aM aO aT aY sr wm wW bh bF bZ bK bM ol oS) ++ (HB cI cZ cS aY aV aU aR kd kf kA kV kQ kP)) ++ [(aQ, .inl (cJ, 1, .inr (.inl f)))]) ++ (W6 cI aX aN aP aJ aI aG aD ms ml mt mq mu mN mP mK mI mT mD)) H ∧ va_D (lA s) ((((W5x cI aC aS aL aW aB aF aZ aK aM aO aT aY sr wm wW bh bF bZ bK bM ol oS) ++ (HB cI cZ cS aY aV aU aR kd kf kA kV kQ kP)) ++ [(aQ, .inl (cJ, 1, .inr (.inl f)))]) ++ (W6 cI aX aN aP aJ aI aG aD ms ml mt mq mu mN mP mK mI mT mD)) ∧ va_S (lA s) s.heap H locs
theorem in_arg {i j L : Nat} (h : i + j < L) (hL : L ≤ 2048) : vp_in (nI i + nI j) L := by
  rw [nI_add]
  exact vp_in_nI h (by omega)
theorem as_P {D : va_G} {cl : List vw_C} {x y z : va_W} {H : Heap} (h : va_P D cl ((x ++ y) ++ z) H) : va_P D cl (x ++ (y ++ z)) H := by rwa [List.append_assoc] at h
theorem sa_P {D : va_G} {cl : List vw_C} {x y z : va_W} {H : Heap} (h : va_P D cl (x ++ (y ++ z)) H) : va_P D cl ((x ++ y) ++ z) H := by rwa [← List.append_assoc] at h
theorem as_D {A : Nat → Prop} {x y z : va_W} (h : va_D A ((x ++ y) ++ z)) : va_D A (x ++ (y ++ z)) := by rwa [List.append_assoc] at h
theorem oc1_0 {a k : Nat} {j : Int32} (h : oc1 a k j) (hj : j = 0) : k = 0 := by
  rcases h with ⟨h, -⟩ | ⟨-, h⟩
  · exact h
  · rw [hj] at h; exact absurd h (by decide)
theorem oc2_0 {a b k : Nat} {j : Int32} (h : oc2 a b k j) (hj : j = 0) : k = 0 := by
  rcases h with ⟨h, -⟩ | ⟨-, h⟩ | ⟨-, h⟩
  · exact h
  · rw [hj] at h; exact absurd h (by decide)
  · rw [hj] at h; exact absurd h (by decide)
theorem oc3_0 {a b d k : Nat} {j : Int32} (h : oc3 a b d k j) (hj : j = 0) : k = 0 := by
  rcases h with ⟨h, -⟩ | ⟨-, h⟩ | ⟨-, h⟩ | ⟨-, h⟩
  · exact h
  · rw [hj] at h; exact absurd h (by decide)
  · rw [hj] at h; exact absurd h (by decide)
  · rw [hj] at h; exact absurd h (by decide)
section Cases
variable {p : Program} {l : Launch} {e : Env} {s : State} {m : MethodId} {below : List Frame} {meth : Method} {c : Code} {Q : State → Prop} {b L : Nat} {xs : Nat → Int32} {D : va_G} {cI cZ cS cJ : ClassId} {aC aS aL aW aB aF aZ aK aM aO aT aY aV aU aR aQ aX aN aP aJ aI aG aD : Nat} {kQ : Nat → SA} {H : Heap} {locs : List Loc} {cells slots : Nat} {ls : Array Slot}
set_option maxHeartbeats 4000000 in
set_option maxRecDepth 100000 in
theorem C_weight (hfl : l.stackTraces = false) (C : LC p s m c b L xs D cI cZ cS cJ) {i : Nat} {i4 : Int32} (hi : i + 4 ≤ L) (hL : L ≤ 2048) (e4 : i4 = nI i) (hcs : cells + 3 ≤ 601024 ∧ slots + 18 ≤ 7293034) (hl : lv_has ls 9 [(0, .ref b), (1, .ref aC), (2, .ref aX), (3, .ref aQ), (4, .int i4)]) (hI : LI s D cI cZ cS cJ aC aS aL aW aB aF aZ aK aM aO aT aY aV aU aR aQ aX aN aP aJ aI aG aD kQ H locs) (kk : ∀ (H1 : Heap) (locs1 : List Loc) (ls : Array Slot), LI s D cI cZ cS cJ aC aS aL aW aB aF aZ aK aM aO aT aY aV aU aR aQ aX aN aP aJ aI aG aD kQ H1 locs1 → lv_has ls 9 [(0, .ref b), (1, .ref aC), (2, .ref aX), (3, .ref aQ), (4, .int i4)] → W p l e room_1 s m #[Value.ref b] below meth c H1 locs1 (cells + 3) (slots + 18) Q (F0 m 1602 ls [])) : W p l e room_1 s m #[Value.ref b] below meth c H locs cells slots Q (F0 m 152 ls []) := by
  obtain ⟨hx, hb, hml, hown, hts, hXs, hbl, hK, hX, hZ, hY⟩ := C
  have hbA : ¬ lA s b := Nat.not_le.mpr hbl
  have S : CallFix p m c cL_law 9 s #[Value.ref b] lw_all RL := ⟨hx, hb, hml, hown, hts⟩
  obtain ⟨hc1, hc2⟩ := hcs
  have n1 : vp_in (i4 + 1) L := by rw [e4]; exact in_arg (j := 1) (by omega) hL
  have n2 : vp_in (i4 + 2) L := by rw [e4]; exact in_arg (j := 2) (by omega) hL
  obtain ⟨sr, wm, wW, bh, bF, bZ, bK, bM, ol, oS, kd, kf, kA, kV, kP, ms, ml, mt, mq, mu, mN, mP, mK, mI, mT, mD, f, hI, hP, hD, hS⟩ := hI
  obtain ⟨k, r, z_wW, z_kd, z_kA, z_kV, r6, z_ms, z_mt, z_mN, z_mP, hF5, hF6, hoc, hrr, hkA, hI⟩ := T_weight hI kA mt (xs (i4 + 1).toNatClampNeg) (xs (i4 + 2).toNatClampNeg)
  have ht : ∀ B : Nat → Prop, va_D B ((W5x cI aC aS aL aW aB aF aZ aK aM aO aT aY sr wm wW bh bF bZ bK bM ol oS) ++ (HB cI cZ cS aY aV aU aR kd kf kA kV kQ kP)) → va_D B ((W5x cI aC aS aL aW aB aF aZ aK aM aO aT aY sr wm z_wW bh bF bZ bK bM ol oS) ++ (HB cI cZ cS aY aV aU aR z_kd kf z_kA z_kV kQ kP)) := tr_D cI cZ cS aC aS aL aW aB aF aZ aK aM aO aT aY aV aU aR kQ hkA
  obtain ⟨f', hf0, hf1⟩ : ∃ f' : Nat → Int64, (k = 0 → f' = vp_updL f 0 r.toInt64) ∧ (k ≠ 0 → f' = f) := ⟨if k = 0 then vp_updL f 0 r.toInt64 else f, fun h => if_pos h, fun h => if_neg h⟩
  refine lv_aload_n hx hb dL_law_152 rfl (lv_at hl 1 rfl) ?_
  refine lv_aload_n hx hb dL_law_153 rfl (lv_at hl 0 rfl) ?_
  refine lv_iload hx hb dL_law_154 (lv_at hl 4 rfl) ?_
  refine lv_iconst (v := 1) hx hb dL_law_156 (by decide) ?_
  refine lv_iadd hx hb dL_law_157 ?_
  refine va_sld hx hb hXs hbl hbA hS n1 dL_law_158 ?_
  refine lv_aload_n hx hb dL_law_159 rfl (lv_at hl 0 rfl) ?_
  refine lv_iload hx hb dL_law_160 (lv_at hl 4 rfl) ?_
  refine lv_iconst (v := 2) hx hb dL_law_162 (by decide) ?_
  refine lv_iadd hx hb dL_law_163 ?_
  refine va_sld hx hb hXs hbl hbA hS n2 dL_law_164 ?_
  refine lv_aload_n hx hb dL_law_165 rfl (lv_at hl 3 rfl) ?_
  refine ucallLi (X' := (((W5x cI aC aS aL aW aB aF aZ aK aM aO aT aY sr wm z_wW bh bF bZ bK bM ol oS) ++ (HB cI cZ cS aY aV aU aR z_kd kf z_kA z_kV kQ kP)) ++ [(aQ, .inl (cJ, 1, .inr (.inl f')))])) (vx_runSW (As := [.ref aC, .int (xs (i4 + 1).toNatClampNeg), .int (xs (i4 + 2).toNatClampNeg), .ref aQ]) (rest := []) S (KL_weight l D cI cZ cS cJ aC aQ _ _ [.ref aS, .ref aY, .ref aO] rfl ht f f' (xs (i4 + 1).toNatClampNeg) (xs (i4 + 2).toNatClampNeg) k r z_mt hoc hf0 hf1 (K5_weight l hfl D cI cZ cS cJ aC aS aL aW aB aF aZ aK aM aO aT aY aV aU aR kQ sr wm wW bh bF bZ bK bM ol oS kd kf kA kV kP (xs (i4 + 1).toNatClampNeg) (xs (i4 + 2).toNatClampNeg) k r z_wW z_kd z_kA z_kV hF5)) (vx_cwSW 4 hts (gd_SW wd_271 wd_272 wd_60 cwL_weight) rfl rfl rfl hdL_weight ⟨Nat.le_of_ble_eq_true rfl, Nat.le_of_ble_eq_true rfl⟩) (wPreS hK hX hZ hY hS (wP_l hP) (wD_l hD)) rfl rfl hl.1 rfl (lv_room (Nat.le_of_ble_eq_true rfl)) dL_law_166 ⟨by show cells + 2 ≤ 601024; omega, by show slots + 12 ≤ 7293034; omega⟩) hS hP hD (fun H locs hP hS => ?_)
  have hD : va_D (lA s) ((((W5x cI aC aS aL aW aB aF aZ aK aM aO aT aY sr wm z_wW bh bF bZ bK bM ol oS) ++ (HB cI cZ cS aY aV aU aR z_kd kf z_kA z_kV kQ kP)) ++ [(aQ, .inl (cJ, 1, .inr (.inl f')))]) ++ (W6 cI aX aN aP aJ aI aG aD ms ml mt mq mu mN mP mK mI mT mD)) := wD_re hD (fun B h => wD_re2 (wD_re h ht) rfl)
  refine W.widen (k := cells + 3) (n := slots + 18) (by show cells + 2 ≤ cells + 3; omega) (by show slots + 12 ≤ slots + 18; omega) ?_
  refine lv_istore (lv' := [(5, .int z_mt), (0, .ref b), (1, .ref aC), (2, .ref aX), (3, .ref aQ), (4, .int i4)]) hx hb dL_law_169 hl (by decide) rfl (fun ls hl => ?_)
  refine lv_aload_n hx hb dL_law_171 rfl (lv_at hl 3 rfl) ?_
  refine lv_aload_n hx hb dL_law_172 rfl (lv_at hl 1 rfl) ?_
  refine lv_iload hx hb dL_law_173 (lv_at hl 5 rfl) ?_
  refine lv_iconst (v := 1) hx hb dL_law_175 (by decide) ?_
  refine lv_iadd hx hb dL_law_176 ?_
  refine va_sld hx hb hXs hbl hbA hS n1 dL_law_177 ?_
  refine lv_aload_n hx hb dL_law_178 rfl (lv_at hl 1 rfl) ?_
  refine lv_iload hx hb dL_law_179 (lv_at hl 5 rfl) ?_
  refine lv_iconst (v := 2) hx hb dL_law_181 (by decide) ?_
  refine lv_iadd hx hb dL_law_182 ?_
  refine va_sld hx hb hXs hbl hbA hS n2 dL_law_183 ?_
  refine ucallRi (Y' := (W6 cI aX aN aP aJ aI aG aD z_ms ml z_mt mq mu z_mN z_mP mK mI mT mD)) (va_runV (As := [.int (xs (i4 + 1).toNatClampNeg), .int (xs (i4 + 2).toNatClampNeg)]) (rest := []) S (K6_weight l D cI cZ cS cJ aX aN aP aJ aI aG aD ms ml mt mq mu mN mP mK mI mT mD (xs (i4 + 1).toNatClampNeg) (xs (i4 + 2).toNatClampNeg) r6 z_ms z_mt z_mN z_mP hF6) (cwV 2 hts (gd_V wd_849 wd_850 wd_851 wd_67 wd_852) rfl rfl rfl hd6_weight ⟨Nat.le_of_ble_eq_true rfl, Nat.le_of_ble_eq_true rfl⟩) (uPreV2 hK (wP_r hP) (wD_r hD) (ci := 6) (q := (RX6, TX6, 11)) rfl rfl) rfl rfl hl.1 rfl (lv_room (Nat.le_of_ble_eq_true rfl)) dL_law_184 ⟨by show cells + 3 + 0 ≤ 601024; omega, by show slots + 18 + 0 ≤ 7293034; omega⟩) hS hP hD (fun H locs hP hS => ?_)
  have hD : va_D (lA s) ((((W5x cI aC aS aL aW aB aF aZ aK aM aO aT aY sr wm z_wW bh bF bZ bK bM ol oS) ++ (HB cI cZ cS aY aV aU aR z_kd kf z_kA z_kV kQ kP)) ++ [(aQ, .inl (cJ, 1, .inr (.inl f')))]) ++ (W6 cI aX aN aP aJ aI aG aD z_ms ml z_mt mq mu z_mN z_mP mK mI mT mD)) := wD_re2 hD rfl
  refine lv_istore (lv' := [(6, .int r6), (5, .int z_mt), (0, .ref b), (1, .ref aC), (2, .ref aX), (3, .ref aQ), (4, .int i4)]) hx hb dL_law_187 hl (by decide) rfl (fun ls hl => ?_)
  refine lv_aload_n hx hb dL_law_189 rfl (lv_at hl 4 rfl) ?_
  refine rcall (va_runV (As := []) (rest := []) S (K6_thrown l D cI cZ cS cJ aX aN aP aJ aI aG aD z_ms ml z_mt mq mu z_mN z_mP mK mI mT mD z_mt rfl) (cwV 0 hts (gd_V wd_845 wd_846 wd_847 wd_67 wd_848) rfl rfl rfl hd6_thrown ⟨Nat.le_of_ble_eq_true rfl, Nat.le_of_ble_eq_true rfl⟩) (rPreV hK (wP_r hP) (ci := 6) (q := (RX6, TX6, 11)) rfl rfl) rfl rfl hl.1 rfl (lv_room (Nat.le_of_ble_eq_true rfl)) dL_law_190 ⟨by show cells + 3 + 0 ≤ 601024; omega, by show slots + 18 + 0 ≤ 7293034; omega⟩) ?_
  refine lv_iload hx hb dL_law_193 (lv_at hl 1 rfl) ?_
  refine lv_icmp_eq (tgt := 200) hx hb dL_law_195 (by decide) (fun _ => ?_) (fun h => absurd rfl h)
  refine lv_iload hx hb dL_law_200 (lv_at hl 1 rfl) ?_
  have fin : W p l e room_1 s m #[Value.ref b] below meth c H locs (cells + 3 + 0) (slots + 18 + 0) Q (F0 m 217 ls []) := by
    refine lv_goto (tgt := 1602) hx hb dL_law_217 (by decide) ?_
    exact kk H locs ls ⟨sr, wm, z_wW, bh, bF, bZ, bK, bM, ol, oS, z_kd, kf, z_kA, z_kV, kP, z_ms, ml, z_mt, mq, mu, z_mN, z_mP, mK, mI, mT, mD, f', hI, hP, hD, hS⟩ (lv_sub hl [2, 3, 4, 5, 6] rfl)
  refine lv_if_ne (tgt := 217) hx hb dL_law_202 (by decide) (fun _ => fin) (fun h0 => ?_)
  have hk0 : k = 0 := oc2_0 hoc h0
  refine lv_aload_n hx hb dL_law_205 rfl (lv_at hl 5 rfl) ?_
  refine lv_iconst (v := 0) hx hb dL_law_206 (by decide) ?_
  refine va_lald hx hb hK.1 (wP_l hP) (((W5x cI aC aS aL aW aB aF aZ aK aM aO aT aY sr wm z_wW bh bF bZ bK bM ol oS) ++ (HB cI cZ cS aY aV aU aR z_kd kf z_kA z_kV kQ kP))).length 3 (get_last _ _) rfl (i := 0) (by unfold vp_in; decide) dL_law_207 ?_
  refine lv_iload hx hb dL_law_208 (lv_at hl 0 rfl) ?_
  refine lv_i2l hx hb dL_law_210 rfl ?_
  refine l_lcmp hx hb (by rw [hf0 hk0, hrr hk0]; exact if_pos rfl) dL_law_211 ?_
  exact lv_if_eq (tgt := 217) hx hb dL_law_212 (by decide) (fun _ => fin) (fun h => absurd rfl h)
set_option maxHeartbeats 4000000 in
set_option maxRecDepth 100000 in
theorem C_modulus (hfl : l.stackTraces = false) (C : LC p s m c b L xs D cI cZ cS cJ) {i : Nat} {i4 : Int32} (hi : i + 4 ≤ L) (hL : L ≤ 2048) (e4 : i4 = nI i) (hcs : cells + 3 ≤ 601024 ∧ slots + 18 ≤ 7293034) (hl : lv_has ls 9 [(0, .ref b), (1, .ref aC), (2, .ref aX), (3, .ref aQ), (4, .int i4)]) (hI : LI s D cI cZ cS cJ aC aS aL aW aB aF aZ aK aM aO aT aY aV aU aR aQ aX aN aP aJ aI aG aD kQ H locs) (kk : ∀ (H1 : Heap) (locs1 : List Loc) (ls : Array Slot), LI s D cI cZ cS cJ aC aS aL aW aB aF aZ aK aM aO aT aY aV aU aR aQ aX aN aP aJ aI aG aD kQ H1 locs1 → lv_has ls 9 [(0, .ref b), (1, .ref aC), (2, .ref aX), (3, .ref aQ), (4, .int i4)] → W p l e room_1 s m #[Value.ref b] below meth c H1 locs1 (cells + 3) (slots + 18) Q (F0 m 1602 ls [])) : W p l e room_1 s m #[Value.ref b] below meth c H locs cells slots Q (F0 m 220 ls []) := by
  obtain ⟨hx, hb, hml, hown, hts, hXs, hbl, hK, hX, hZ, hY⟩ := C
  have hbA : ¬ lA s b := Nat.not_le.mpr hbl
  have S : CallFix p m c cL_law 9 s #[Value.ref b] lw_all RL := ⟨hx, hb, hml, hown, hts⟩
  obtain ⟨hc1, hc2⟩ := hcs
  have n1 : vp_in (i4 + 1) L := by rw [e4]; exact in_arg (j := 1) (by omega) hL
  obtain ⟨sr, wm, wW, bh, bF, bZ, bK, bM, ol, oS, kd, kf, kA, kV, kP, ms, ml, mt, mq, mu, mN, mP, mK, mI, mT, mD, f, hI, hP, hD, hS⟩ := hI
  obtain ⟨k, r, z_wm, z_kd, z_kA, z_kV, r6, z_ms, z_mt, z_mN, z_mP, hF5, hF6, hoc, hrr, hkA, hI⟩ := T_modulus hI kA mt (xs (i4 + 1).toNatClampNeg)
  have ht : ∀ B : Nat → Prop, va_D B ((W5x cI aC aS aL aW aB aF aZ aK aM aO aT aY sr wm wW bh bF bZ bK bM ol oS) ++ (HB cI cZ cS aY aV aU aR kd kf kA kV kQ kP)) → va_D B ((W5x cI aC aS aL aW aB aF aZ aK aM aO aT aY sr z_wm wW bh bF bZ bK bM ol oS) ++ (HB cI cZ cS aY aV aU aR z_kd kf z_kA z_kV kQ kP)) := tr_D cI cZ cS aC aS aL aW aB aF aZ aK aM aO aT aY aV aU aR kQ hkA
  obtain ⟨f', hf0, hf1⟩ : ∃ f' : Nat → Int64, (k = 0 → f' = vp_updL f 0 r.toInt64) ∧ (k ≠ 0 → f' = f) := ⟨if k = 0 then vp_updL f 0 r.toInt64 else f, fun h => if_pos h, fun h => if_neg h⟩
  refine lv_aload_n hx hb dL_law_220 rfl (lv_at hl 1 rfl) ?_
  refine lv_aload_n hx hb dL_law_221 rfl (lv_at hl 0 rfl) ?_
  refine lv_iload hx hb dL_law_222 (lv_at hl 4 rfl) ?_
  refine lv_iconst (v := 1) hx hb dL_law_224 (by decide) ?_
  refine lv_iadd hx hb dL_law_225 ?_
  refine va_sld hx hb hXs hbl hbA hS n1 dL_law_226 ?_
  refine lv_aload_n hx hb dL_law_227 rfl (lv_at hl 3 rfl) ?_
  refine ucallLi (X' := (((W5x cI aC aS aL aW aB aF aZ aK aM aO aT aY sr z_wm wW bh bF bZ bK bM ol oS) ++ (HB cI cZ cS aY aV aU aR z_kd kf z_kA z_kV kQ kP)) ++ [(aQ, .inl (cJ, 1, .inr (.inl f')))])) (vx_runSW (As := [.ref aC, .int (xs (i4 + 1).toNatClampNeg), .ref aQ]) (rest := []) S (KL_modulus l D cI cZ cS cJ aC aQ _ _ [.ref aS, .ref aY, .ref aO] rfl ht f f' (xs (i4 + 1).toNatClampNeg) k r z_mt hoc hf0 hf1 (K5_modulus l hfl D cI cZ cS cJ aC aS aL aW aB aF aZ aK aM aO aT aY aV aU aR kQ sr wm wW bh bF bZ bK bM ol oS kd kf kA kV kP (xs (i4 + 1).toNatClampNeg) k r z_wm z_kd z_kA z_kV hF5)) (vx_cwSW 3 hts (gd_SW wd_402 wd_403 wd_60 cwL_modulus) rfl rfl rfl hdL_modulus ⟨Nat.le_of_ble_eq_true rfl, Nat.le_of_ble_eq_true rfl⟩) (wPreS hK hX hZ hY hS (wP_l hP) (wD_l hD)) rfl rfl hl.1 rfl (lv_room (Nat.le_of_ble_eq_true rfl)) dL_law_228 ⟨by show cells + 1 ≤ 601024; omega, by show slots + 6 ≤ 7293034; omega⟩) hS hP hD (fun H locs hP hS => ?_)
  have hD : va_D (lA s) ((((W5x cI aC aS aL aW aB aF aZ aK aM aO aT aY sr z_wm wW bh bF bZ bK bM ol oS) ++ (HB cI cZ cS aY aV aU aR z_kd kf z_kA z_kV kQ kP)) ++ [(aQ, .inl (cJ, 1, .inr (.inl f')))]) ++ (W6 cI aX aN aP aJ aI aG aD ms ml mt mq mu mN mP mK mI mT mD)) := wD_re hD (fun B h => wD_re2 (wD_re h ht) rfl)
  refine W.widen (k := cells + 3) (n := slots + 18) (by show cells + 1 ≤ cells + 3; omega) (by show slots + 6 ≤ slots + 18; omega) ?_
  refine lv_istore (lv' := [(5, .int z_mt), (0, .ref b), (1, .ref aC), (2, .ref aX), (3, .ref aQ), (4, .int i4)]) hx hb dL_law_231 hl (by decide) rfl (fun ls hl => ?_)
  refine lv_aload_n hx hb dL_law_233 rfl (lv_at hl 3 rfl) ?_
  refine lv_aload_n hx hb dL_law_234 rfl (lv_at hl 1 rfl) ?_
  refine lv_iload hx hb dL_law_235 (lv_at hl 5 rfl) ?_
  refine lv_iconst (v := 1) hx hb dL_law_237 (by decide) ?_
  refine lv_iadd hx hb dL_law_238 ?_
  refine va_sld hx hb hXs hbl hbA hS n1 dL_law_239 ?_
  refine ucallRi (Y' := (W6 cI aX aN aP aJ aI aG aD z_ms ml z_mt mq mu z_mN z_mP mK mI mT mD)) (va_runV (As := [.int (xs (i4 + 1).toNatClampNeg)]) (rest := []) S (K6_modulus l D cI cZ cS cJ aX aN aP aJ aI aG aD ms ml mt mq mu mN mP mK mI mT mD (xs (i4 + 1).toNatClampNeg) r6 z_ms z_mt z_mN z_mP hF6) (cwV 1 hts (gd_V wd_867 wd_868 wd_869 wd_67 wd_870) rfl rfl rfl hd6_modulus ⟨Nat.le_of_ble_eq_true rfl, Nat.le_of_ble_eq_true rfl⟩) (uPreV2 hK (wP_r hP) (wD_r hD) (ci := 6) (q := (RX6, TX6, 11)) rfl rfl) rfl rfl hl.1 rfl (lv_room (Nat.le_of_ble_eq_true rfl)) dL_law_240 ⟨by show cells + 3 + 0 ≤ 601024; omega, by show slots + 18 + 0 ≤ 7293034; omega⟩) hS hP hD (fun H locs hP hS => ?_)
  have hD : va_D (lA s) ((((W5x cI aC aS aL aW aB aF aZ aK aM aO aT aY sr z_wm wW bh bF bZ bK bM ol oS) ++ (HB cI cZ cS aY aV aU aR z_kd kf z_kA z_kV kQ kP)) ++ [(aQ, .inl (cJ, 1, .inr (.inl f')))]) ++ (W6 cI aX aN aP aJ aI aG aD z_ms ml z_mt mq mu z_mN z_mP mK mI mT mD)) := wD_re2 hD rfl
  refine lv_istore (lv' := [(6, .int r6), (5, .int z_mt), (0, .ref b), (1, .ref aC), (2, .ref aX), (3, .ref aQ), (4, .int i4)]) hx hb dL_law_243 hl (by decide) rfl (fun ls hl => ?_)
  refine lv_aload_n hx hb dL_law_245 rfl (lv_at hl 4 rfl) ?_
  refine rcall (va_runV (As := []) (rest := []) S (K6_thrown l D cI cZ cS cJ aX aN aP aJ aI aG aD z_ms ml z_mt mq mu z_mN z_mP mK mI mT mD z_mt rfl) (cwV 0 hts (gd_V wd_845 wd_846 wd_847 wd_67 wd_848) rfl rfl rfl hd6_thrown ⟨Nat.le_of_ble_eq_true rfl, Nat.le_of_ble_eq_true rfl⟩) (rPreV hK (wP_r hP) (ci := 6) (q := (RX6, TX6, 11)) rfl rfl) rfl rfl hl.1 rfl (lv_room (Nat.le_of_ble_eq_true rfl)) dL_law_246 ⟨by show cells + 3 + 0 ≤ 601024; omega, by show slots + 18 + 0 ≤ 7293034; omega⟩) ?_
  refine lv_iload hx hb dL_law_249 (lv_at hl 1 rfl) ?_
  refine lv_icmp_eq (tgt := 256) hx hb dL_law_251 (by decide) (fun _ => ?_) (fun h => absurd rfl h)
  refine lv_iload hx hb dL_law_256 (lv_at hl 1 rfl) ?_
  have fin : W p l e room_1 s m #[Value.ref b] below meth c H locs (cells + 3 + 0) (slots + 18 + 0) Q (F0 m 273 ls []) := by
    refine lv_goto (tgt := 1602) hx hb dL_law_273 (by decide) ?_
    exact kk H locs ls ⟨sr, z_wm, wW, bh, bF, bZ, bK, bM, ol, oS, z_kd, kf, z_kA, z_kV, kP, z_ms, ml, z_mt, mq, mu, z_mN, z_mP, mK, mI, mT, mD, f', hI, hP, hD, hS⟩ (lv_sub hl [2, 3, 4, 5, 6] rfl)
  refine lv_if_ne (tgt := 273) hx hb dL_law_258 (by decide) (fun _ => fin) (fun h0 => ?_)
  have hk0 : k = 0 := oc1_0 hoc h0
  refine lv_aload_n hx hb dL_law_261 rfl (lv_at hl 5 rfl) ?_
  refine lv_iconst (v := 0) hx hb dL_law_262 (by decide) ?_
  refine va_lald hx hb hK.1 (wP_l hP) (((W5x cI aC aS aL aW aB aF aZ aK aM aO aT aY sr z_wm wW bh bF bZ bK bM ol oS) ++ (HB cI cZ cS aY aV aU aR z_kd kf z_kA z_kV kQ kP))).length 3 (get_last _ _) rfl (i := 0) (by unfold vp_in; decide) dL_law_263 ?_
  refine lv_iload hx hb dL_law_264 (lv_at hl 0 rfl) ?_
  refine lv_i2l hx hb dL_law_266 rfl ?_
  refine l_lcmp hx hb (by rw [hf0 hk0, hrr hk0]; exact if_pos rfl) dL_law_267 ?_
  exact lv_if_eq (tgt := 273) hx hb dL_law_268 (by decide) (fun _ => fin) (fun h => absurd rfl h)
set_option maxHeartbeats 4000000 in
set_option maxRecDepth 100000 in
theorem C_book (hfl : l.stackTraces = false) (C : LC p s m c b L xs D cI cZ cS cJ) {i : Nat} {i4 : Int32} (hi : i + 4 ≤ L) (hL : L ≤ 2048) (e4 : i4 = nI i) (hcs : cells + 3 ≤ 601024 ∧ slots + 18 ≤ 7293034) (hl : lv_has ls 9 [(0, .ref b), (1, .ref aC), (2, .ref aX), (3, .ref aQ), (4, .int i4)]) (hI : LI s D cI cZ cS cJ aC aS aL aW aB aF aZ aK aM aO aT aY aV aU aR aQ aX aN aP aJ aI aG aD kQ H locs) (kk : ∀ (H1 : Heap) (locs1 : List Loc) (ls : Array Slot), LI s D cI cZ cS cJ aC aS aL aW aB aF aZ aK aM aO aT aY aV aU aR aQ aX aN aP aJ aI aG aD kQ H1 locs1 → lv_has ls 9 [(0, .ref b), (1, .ref aC), (2, .ref aX), (3, .ref aQ), (4, .int i4)] → W p l e room_1 s m #[Value.ref b] below meth c H1 locs1 (cells + 3) (slots + 18) Q (F0 m 1602 ls [])) : W p l e room_1 s m #[Value.ref b] below meth c H locs cells slots Q (F0 m 276 ls []) := by
  obtain ⟨hx, hb, hml, hown, hts, hXs, hbl, hK, hX, hZ, hY⟩ := C
  have hbA : ¬ lA s b := Nat.not_le.mpr hbl
  have S : CallFix p m c cL_law 9 s #[Value.ref b] lw_all RL := ⟨hx, hb, hml, hown, hts⟩
  obtain ⟨hc1, hc2⟩ := hcs
  have n1 : vp_in (i4 + 1) L := by rw [e4]; exact in_arg (j := 1) (by omega) hL
  have n2 : vp_in (i4 + 2) L := by rw [e4]; exact in_arg (j := 2) (by omega) hL
  obtain ⟨sr, wm, wW, bh, bF, bZ, bK, bM, ol, oS, kd, kf, kA, kV, kP, ms, ml, mt, mq, mu, mN, mP, mK, mI, mT, mD, f, hI, hP, hD, hS⟩ := hI
  obtain ⟨k, r, z_bh, z_bF, z_bZ, z_bK, z_bM, z_kd, z_kA, z_kV, r6, z_ms, z_mt, z_mN, z_mP, hF5, hF6, hoc, hrr, hkA, hI⟩ := T_book hI kA mt (xs (i4 + 1).toNatClampNeg) (xs (i4 + 2).toNatClampNeg)
  have ht : ∀ B : Nat → Prop, va_D B ((W5x cI aC aS aL aW aB aF aZ aK aM aO aT aY sr wm wW bh bF bZ bK bM ol oS) ++ (HB cI cZ cS aY aV aU aR kd kf kA kV kQ kP)) → va_D B ((W5x cI aC aS aL aW aB aF aZ aK aM aO aT aY sr wm wW z_bh z_bF z_bZ z_bK z_bM ol oS) ++ (HB cI cZ cS aY aV aU aR z_kd kf z_kA z_kV kQ kP)) := tr_D cI cZ cS aC aS aL aW aB aF aZ aK aM aO aT aY aV aU aR kQ hkA
  obtain ⟨f', hf0, hf1⟩ : ∃ f' : Nat → Int64, (k = 0 → f' = vp_updL f 0 r.toInt64) ∧ (k ≠ 0 → f' = f) := ⟨if k = 0 then vp_updL f 0 r.toInt64 else f, fun h => if_pos h, fun h => if_neg h⟩
  refine lv_aload_n hx hb dL_law_276 rfl (lv_at hl 1 rfl) ?_
  refine lv_aload_n hx hb dL_law_277 rfl (lv_at hl 0 rfl) ?_
  refine lv_iload hx hb dL_law_278 (lv_at hl 4 rfl) ?_
  refine lv_iconst (v := 1) hx hb dL_law_280 (by decide) ?_
  refine lv_iadd hx hb dL_law_281 ?_
  refine va_sld hx hb hXs hbl hbA hS n1 dL_law_282 ?_
  refine lv_aload_n hx hb dL_law_283 rfl (lv_at hl 0 rfl) ?_
  refine lv_iload hx hb dL_law_284 (lv_at hl 4 rfl) ?_
  refine lv_iconst (v := 2) hx hb dL_law_286 (by decide) ?_
  refine lv_iadd hx hb dL_law_287 ?_
  refine va_sld hx hb hXs hbl hbA hS n2 dL_law_288 ?_
  refine lv_aload_n hx hb dL_law_289 rfl (lv_at hl 3 rfl) ?_
  refine ucallLi (X' := (((W5x cI aC aS aL aW aB aF aZ aK aM aO aT aY sr wm wW z_bh z_bF z_bZ z_bK z_bM ol oS) ++ (HB cI cZ cS aY aV aU aR z_kd kf z_kA z_kV kQ kP)) ++ [(aQ, .inl (cJ, 1, .inr (.inl f')))])) (vx_runSW (As := [.ref aC, .int (xs (i4 + 1).toNatClampNeg), .int (xs (i4 + 2).toNatClampNeg), .ref aQ]) (rest := []) S (KL_book l D cI cZ cS cJ aC aQ _ _ [.ref aS, .ref aY, .ref aO] rfl ht f f' (xs (i4 + 1).toNatClampNeg) (xs (i4 + 2).toNatClampNeg) k r z_mt hoc hf0 hf1 (K5_book l hfl D cI cZ cS cJ aC aS aL aW aB aF aZ aK aM aO aT aY aV aU aR kQ sr wm wW bh bF bZ bK bM ol oS kd kf kA kV kP (xs (i4 + 1).toNatClampNeg) (xs (i4 + 2).toNatClampNeg) k r z_bh z_bF z_bZ z_bK z_bM z_kd z_kA z_kV hF5)) (vx_cwSW 4 hts (gd_SW wd_410 wd_411 wd_60 cwL_book) rfl rfl rfl hdL_book ⟨Nat.le_of_ble_eq_true rfl, Nat.le_of_ble_eq_true rfl⟩) (wPreS hK hX hZ hY hS (wP_l hP) (wD_l hD)) rfl rfl hl.1 rfl (lv_room (Nat.le_of_ble_eq_true rfl)) dL_law_290 ⟨by show cells + 1 ≤ 601024; omega, by show slots + 6 ≤ 7293034; omega⟩) hS hP hD (fun H locs hP hS => ?_)
  have hD : va_D (lA s) ((((W5x cI aC aS aL aW aB aF aZ aK aM aO aT aY sr wm wW z_bh z_bF z_bZ z_bK z_bM ol oS) ++ (HB cI cZ cS aY aV aU aR z_kd kf z_kA z_kV kQ kP)) ++ [(aQ, .inl (cJ, 1, .inr (.inl f')))]) ++ (W6 cI aX aN aP aJ aI aG aD ms ml mt mq mu mN mP mK mI mT mD)) := wD_re hD (fun B h => wD_re2 (wD_re h ht) rfl)
  refine W.widen (k := cells + 3) (n := slots + 18) (by show cells + 1 ≤ cells + 3; omega) (by show slots + 6 ≤ slots + 18; omega) ?_
  refine lv_istore (lv' := [(5, .int z_mt), (0, .ref b), (1, .ref aC), (2, .ref aX), (3, .ref aQ), (4, .int i4)]) hx hb dL_law_293 hl (by decide) rfl (fun ls hl => ?_)
  refine lv_aload_n hx hb dL_law_295 rfl (lv_at hl 3 rfl) ?_
  refine lv_aload_n hx hb dL_law_296 rfl (lv_at hl 1 rfl) ?_
  refine lv_iload hx hb dL_law_297 (lv_at hl 5 rfl) ?_
  refine lv_iconst (v := 1) hx hb dL_law_299 (by decide) ?_
  refine lv_iadd hx hb dL_law_300 ?_
  refine va_sld hx hb hXs hbl hbA hS n1 dL_law_301 ?_
  refine lv_aload_n hx hb dL_law_302 rfl (lv_at hl 1 rfl) ?_
  refine lv_iload hx hb dL_law_303 (lv_at hl 5 rfl) ?_
  refine lv_iconst (v := 2) hx hb dL_law_305 (by decide) ?_
  refine lv_iadd hx hb dL_law_306 ?_
  refine va_sld hx hb hXs hbl hbA hS n2 dL_law_307 ?_
  refine ucallRi (Y' := (W6 cI aX aN aP aJ aI aG aD z_ms ml z_mt mq mu z_mN z_mP mK mI mT mD)) (va_runV (As := [.int (xs (i4 + 1).toNatClampNeg), .int (xs (i4 + 2).toNatClampNeg)]) (rest := []) S (K6_book l D cI cZ cS cJ aX aN aP aJ aI aG aD ms ml mt mq mu mN mP mK mI mT mD (xs (i4 + 1).toNatClampNeg) (xs (i4 + 2).toNatClampNeg) r6 z_ms z_mt z_mN z_mP hF6) (cwV 2 hts (gd_V wd_871 wd_872 wd_873 wd_67 wd_874) rfl rfl rfl hd6_book ⟨Nat.le_of_ble_eq_true rfl, Nat.le_of_ble_eq_true rfl⟩) (uPreV2 hK (wP_r hP) (wD_r hD) (ci := 6) (q := (RX6, TX6, 11)) rfl rfl) rfl rfl hl.1 rfl (lv_room (Nat.le_of_ble_eq_true rfl)) dL_law_308 ⟨by show cells + 3 + 0 ≤ 601024; omega, by show slots + 18 + 0 ≤ 7293034; omega⟩) hS hP hD (fun H locs hP hS => ?_)
  have hD : va_D (lA s) ((((W5x cI aC aS aL aW aB aF aZ aK aM aO aT aY sr wm wW z_bh z_bF z_bZ z_bK z_bM ol oS) ++ (HB cI cZ cS aY aV aU aR z_kd kf z_kA z_kV kQ kP)) ++ [(aQ, .inl (cJ, 1, .inr (.inl f')))]) ++ (W6 cI aX aN aP aJ aI aG aD z_ms ml z_mt mq mu z_mN z_mP mK mI mT mD)) := wD_re2 hD rfl
  refine lv_istore (lv' := [(6, .int r6), (5, .int z_mt), (0, .ref b), (1, .ref aC), (2, .ref aX), (3, .ref aQ), (4, .int i4)]) hx hb dL_law_311 hl (by decide) rfl (fun ls hl => ?_)
  refine lv_aload_n hx hb dL_law_313 rfl (lv_at hl 4 rfl) ?_
  refine rcall (va_runV (As := []) (rest := []) S (K6_thrown l D cI cZ cS cJ aX aN aP aJ aI aG aD z_ms ml z_mt mq mu z_mN z_mP mK mI mT mD z_mt rfl) (cwV 0 hts (gd_V wd_845 wd_846 wd_847 wd_67 wd_848) rfl rfl rfl hd6_thrown ⟨Nat.le_of_ble_eq_true rfl, Nat.le_of_ble_eq_true rfl⟩) (rPreV hK (wP_r hP) (ci := 6) (q := (RX6, TX6, 11)) rfl rfl) rfl rfl hl.1 rfl (lv_room (Nat.le_of_ble_eq_true rfl)) dL_law_314 ⟨by show cells + 3 + 0 ≤ 601024; omega, by show slots + 18 + 0 ≤ 7293034; omega⟩) ?_
  refine lv_iload hx hb dL_law_317 (lv_at hl 1 rfl) ?_
  refine lv_icmp_eq (tgt := 324) hx hb dL_law_319 (by decide) (fun _ => ?_) (fun h => absurd rfl h)
  refine lv_iload hx hb dL_law_324 (lv_at hl 1 rfl) ?_
  have fin : W p l e room_1 s m #[Value.ref b] below meth c H locs (cells + 3 + 0) (slots + 18 + 0) Q (F0 m 341 ls []) := by
    refine lv_goto (tgt := 1602) hx hb dL_law_341 (by decide) ?_
    exact kk H locs ls ⟨sr, wm, wW, z_bh, z_bF, z_bZ, z_bK, z_bM, ol, oS, z_kd, kf, z_kA, z_kV, kP, z_ms, ml, z_mt, mq, mu, z_mN, z_mP, mK, mI, mT, mD, f', hI, hP, hD, hS⟩ (lv_sub hl [2, 3, 4, 5, 6] rfl)
  refine lv_if_ne (tgt := 341) hx hb dL_law_326 (by decide) (fun _ => fin) (fun h0 => ?_)
  have hk0 : k = 0 := oc3_0 hoc h0
  refine lv_aload_n hx hb dL_law_329 rfl (lv_at hl 5 rfl) ?_
  refine lv_iconst (v := 0) hx hb dL_law_330 (by decide) ?_
  refine va_lald hx hb hK.1 (wP_l hP) (((W5x cI aC aS aL aW aB aF aZ aK aM aO aT aY sr wm wW z_bh z_bF z_bZ z_bK z_bM ol oS) ++ (HB cI cZ cS aY aV aU aR z_kd kf z_kA z_kV kQ kP))).length 3 (get_last _ _) rfl (i := 0) (by unfold vp_in; decide) dL_law_331 ?_
  refine lv_iload hx hb dL_law_332 (lv_at hl 0 rfl) ?_
  refine lv_i2l hx hb dL_law_334 rfl ?_
  refine l_lcmp hx hb (by rw [hf0 hk0, hrr hk0]; exact if_pos rfl) dL_law_335 ?_
  exact lv_if_eq (tgt := 341) hx hb dL_law_336 (by decide) (fun _ => fin) (fun h => absurd rfl h)
set_option maxHeartbeats 4000000 in
set_option maxRecDepth 100000 in
theorem C_write (hfl : l.stackTraces = false) (C : LC p s m c b L xs D cI cZ cS cJ) {i : Nat} {i4 : Int32} (hi : i + 4 ≤ L) (hL : L ≤ 2048) (e4 : i4 = nI i) (hcs : cells + 3 ≤ 601024 ∧ slots + 18 ≤ 7293034) (hl : lv_has ls 9 [(0, .ref b), (1, .ref aC), (2, .ref aX), (3, .ref aQ), (4, .int i4)]) (hI : LI s D cI cZ cS cJ aC aS aL aW aB aF aZ aK aM aO aT aY aV aU aR aQ aX aN aP aJ aI aG aD kQ H locs) (kk : ∀ (H1 : Heap) (locs1 : List Loc) (ls : Array Slot), LI s D cI cZ cS cJ aC aS aL aW aB aF aZ aK aM aO aT aY aV aU aR aQ aX aN aP aJ aI aG aD kQ H1 locs1 → lv_has ls 9 [(0, .ref b), (1, .ref aC), (2, .ref aX), (3, .ref aQ), (4, .int i4)] → W p l e room_1 s m #[Value.ref b] below meth c H1 locs1 (cells + 3) (slots + 18) Q (F0 m 1602 ls [])) : W p l e room_1 s m #[Value.ref b] below meth c H locs cells slots Q (F0 m 344 ls []) := by
  obtain ⟨hx, hb, hml, hown, hts, hXs, hbl, hK, hX, hZ, hY⟩ := C
  have hbA : ¬ lA s b := Nat.not_le.mpr hbl
  have S : CallFix p m c cL_law 9 s #[Value.ref b] lw_all RL := ⟨hx, hb, hml, hown, hts⟩
  obtain ⟨hc1, hc2⟩ := hcs
  have n1 : vp_in (i4 + 1) L := by rw [e4]; exact in_arg (j := 1) (by omega) hL
  have n2 : vp_in (i4 + 2) L := by rw [e4]; exact in_arg (j := 2) (by omega) hL
  obtain ⟨sr, wm, wW, bh, bF, bZ, bK, bM, ol, oS, kd, kf, kA, kV, kP, ms, ml, mt, mq, mu, mN, mP, mK, mI, mT, mD, f, hI, hP, hD, hS⟩ := hI
  obtain ⟨k, r, z_bK, z_bM, z_kd, z_kA, z_kV, r6, z_ms, z_mt, z_mN, z_mP, hF5, hF6, hoc, hrr, hkA, hI⟩ := T_write hI kA mt (xs (i4 + 1).toNatClampNeg) (xs (i4 + 2).toNatClampNeg)
  have ht : ∀ B : Nat → Prop, va_D B ((W5x cI aC aS aL aW aB aF aZ aK aM aO aT aY sr wm wW bh bF bZ bK bM ol oS) ++ (HB cI cZ cS aY aV aU aR kd kf kA kV kQ kP)) → va_D B ((W5x cI aC aS aL aW aB aF aZ aK aM aO aT aY sr wm wW bh bF bZ z_bK z_bM ol oS) ++ (HB cI cZ cS aY aV aU aR z_kd kf z_kA z_kV kQ kP)) := tr_D cI cZ cS aC aS aL aW aB aF aZ aK aM aO aT aY aV aU aR kQ hkA
  obtain ⟨f', hf0, hf1⟩ : ∃ f' : Nat → Int64, (k = 0 → f' = vp_updL f 0 r.toInt64) ∧ (k ≠ 0 → f' = f) := ⟨if k = 0 then vp_updL f 0 r.toInt64 else f, fun h => if_pos h, fun h => if_neg h⟩
  refine lv_aload_n hx hb dL_law_344 rfl (lv_at hl 1 rfl) ?_
  refine lv_aload_n hx hb dL_law_345 rfl (lv_at hl 0 rfl) ?_
  refine lv_iload hx hb dL_law_346 (lv_at hl 4 rfl) ?_
  refine lv_iconst (v := 1) hx hb dL_law_348 (by decide) ?_
  refine lv_iadd hx hb dL_law_349 ?_
  refine va_sld hx hb hXs hbl hbA hS n1 dL_law_350 ?_
  refine lv_aload_n hx hb dL_law_351 rfl (lv_at hl 0 rfl) ?_
  refine lv_iload hx hb dL_law_352 (lv_at hl 4 rfl) ?_
  refine lv_iconst (v := 2) hx hb dL_law_354 (by decide) ?_
  refine lv_iadd hx hb dL_law_355 ?_
  refine va_sld hx hb hXs hbl hbA hS n2 dL_law_356 ?_
  refine lv_aload_n hx hb dL_law_357 rfl (lv_at hl 3 rfl) ?_
  refine ucallLi (X' := (((W5x cI aC aS aL aW aB aF aZ aK aM aO aT aY sr wm wW bh bF bZ z_bK z_bM ol oS) ++ (HB cI cZ cS aY aV aU aR z_kd kf z_kA z_kV kQ kP)) ++ [(aQ, .inl (cJ, 1, .inr (.inl f')))])) (vx_runSW (As := [.ref aC, .int (xs (i4 + 1).toNatClampNeg), .int (xs (i4 + 2).toNatClampNeg), .ref aQ]) (rest := []) S (KL_write l D cI cZ cS cJ aC aQ _ _ [.ref aS, .ref aY, .ref aO] rfl ht f f' (xs (i4 + 1).toNatClampNeg) (xs (i4 + 2).toNatClampNeg) k r z_mt hoc hf0 hf1 (K5_write l hfl D cI cZ cS cJ aC aS aL aW aB aF aZ aK aM aO aT aY aV aU aR kQ sr wm wW bh bF bZ bK bM ol oS kd kf kA kV kP (xs (i4 + 1).toNatClampNeg) (xs (i4 + 2).toNatClampNeg) k r z_bK z_bM z_kd z_kA z_kV hF5)) (vx_cwSW 4 hts (gd_SW wd_459 wd_460 wd_60 cwL_write) rfl rfl rfl hdL_write ⟨Nat.le_of_ble_eq_true rfl, Nat.le_of_ble_eq_true rfl⟩) (wPreS hK hX hZ hY hS (wP_l hP) (wD_l hD)) rfl rfl hl.1 rfl (lv_room (Nat.le_of_ble_eq_true rfl)) dL_law_358 ⟨by show cells + 1 ≤ 601024; omega, by show slots + 6 ≤ 7293034; omega⟩) hS hP hD (fun H locs hP hS => ?_)
  have hD : va_D (lA s) ((((W5x cI aC aS aL aW aB aF aZ aK aM aO aT aY sr wm wW bh bF bZ z_bK z_bM ol oS) ++ (HB cI cZ cS aY aV aU aR z_kd kf z_kA z_kV kQ kP)) ++ [(aQ, .inl (cJ, 1, .inr (.inl f')))]) ++ (W6 cI aX aN aP aJ aI aG aD ms ml mt mq mu mN mP mK mI mT mD)) := wD_re hD (fun B h => wD_re2 (wD_re h ht) rfl)
  refine W.widen (k := cells + 3) (n := slots + 18) (by show cells + 1 ≤ cells + 3; omega) (by show slots + 6 ≤ slots + 18; omega) ?_
  refine lv_istore (lv' := [(5, .int z_mt), (0, .ref b), (1, .ref aC), (2, .ref aX), (3, .ref aQ), (4, .int i4)]) hx hb dL_law_361 hl (by decide) rfl (fun ls hl => ?_)
  refine lv_aload_n hx hb dL_law_363 rfl (lv_at hl 3 rfl) ?_
  refine lv_aload_n hx hb dL_law_364 rfl (lv_at hl 1 rfl) ?_
  refine lv_iload hx hb dL_law_365 (lv_at hl 5 rfl) ?_
  refine lv_iconst (v := 1) hx hb dL_law_367 (by decide) ?_
  refine lv_iadd hx hb dL_law_368 ?_
  refine va_sld hx hb hXs hbl hbA hS n1 dL_law_369 ?_
  refine lv_aload_n hx hb dL_law_370 rfl (lv_at hl 1 rfl) ?_
  refine lv_iload hx hb dL_law_371 (lv_at hl 5 rfl) ?_
  refine lv_iconst (v := 2) hx hb dL_law_373 (by decide) ?_
  refine lv_iadd hx hb dL_law_374 ?_
  refine va_sld hx hb hXs hbl hbA hS n2 dL_law_375 ?_
  refine ucallRi (Y' := (W6 cI aX aN aP aJ aI aG aD z_ms ml z_mt mq mu z_mN z_mP mK mI mT mD)) (va_runV (As := [.int (xs (i4 + 1).toNatClampNeg), .int (xs (i4 + 2).toNatClampNeg)]) (rest := []) S (K6_write l D cI cZ cS cJ aX aN aP aJ aI aG aD ms ml mt mq mu mN mP mK mI mT mD (xs (i4 + 1).toNatClampNeg) (xs (i4 + 2).toNatClampNeg) r6 z_ms z_mt z_mN z_mP hF6) (cwV 2 hts (gd_V wd_899 wd_900 wd_901 wd_67 wd_902) rfl rfl rfl hd6_write ⟨Nat.le_of_ble_eq_true rfl, Nat.le_of_ble_eq_true rfl⟩) (uPreV2 hK (wP_r hP) (wD_r hD) (ci := 6) (q := (RX6, TX6, 11)) rfl rfl) rfl rfl hl.1 rfl (lv_room (Nat.le_of_ble_eq_true rfl)) dL_law_376 ⟨by show cells + 3 + 0 ≤ 601024; omega, by show slots + 18 + 0 ≤ 7293034; omega⟩) hS hP hD (fun H locs hP hS => ?_)
  have hD : va_D (lA s) ((((W5x cI aC aS aL aW aB aF aZ aK aM aO aT aY sr wm wW bh bF bZ z_bK z_bM ol oS) ++ (HB cI cZ cS aY aV aU aR z_kd kf z_kA z_kV kQ kP)) ++ [(aQ, .inl (cJ, 1, .inr (.inl f')))]) ++ (W6 cI aX aN aP aJ aI aG aD z_ms ml z_mt mq mu z_mN z_mP mK mI mT mD)) := wD_re2 hD rfl
  refine lv_istore (lv' := [(6, .int r6), (5, .int z_mt), (0, .ref b), (1, .ref aC), (2, .ref aX), (3, .ref aQ), (4, .int i4)]) hx hb dL_law_379 hl (by decide) rfl (fun ls hl => ?_)
  refine lv_aload_n hx hb dL_law_381 rfl (lv_at hl 4 rfl) ?_
  refine rcall (va_runV (As := []) (rest := []) S (K6_thrown l D cI cZ cS cJ aX aN aP aJ aI aG aD z_ms ml z_mt mq mu z_mN z_mP mK mI mT mD z_mt rfl) (cwV 0 hts (gd_V wd_845 wd_846 wd_847 wd_67 wd_848) rfl rfl rfl hd6_thrown ⟨Nat.le_of_ble_eq_true rfl, Nat.le_of_ble_eq_true rfl⟩) (rPreV hK (wP_r hP) (ci := 6) (q := (RX6, TX6, 11)) rfl rfl) rfl rfl hl.1 rfl (lv_room (Nat.le_of_ble_eq_true rfl)) dL_law_382 ⟨by show cells + 3 + 0 ≤ 601024; omega, by show slots + 18 + 0 ≤ 7293034; omega⟩) ?_
  refine lv_iload hx hb dL_law_385 (lv_at hl 1 rfl) ?_
  refine lv_icmp_eq (tgt := 392) hx hb dL_law_387 (by decide) (fun _ => ?_) (fun h => absurd rfl h)
  refine lv_iload hx hb dL_law_392 (lv_at hl 1 rfl) ?_
  have fin : W p l e room_1 s m #[Value.ref b] below meth c H locs (cells + 3 + 0) (slots + 18 + 0) Q (F0 m 409 ls []) := by
    refine lv_goto (tgt := 1602) hx hb dL_law_409 (by decide) ?_
    exact kk H locs ls ⟨sr, wm, wW, bh, bF, bZ, z_bK, z_bM, ol, oS, z_kd, kf, z_kA, z_kV, kP, z_ms, ml, z_mt, mq, mu, z_mN, z_mP, mK, mI, mT, mD, f', hI, hP, hD, hS⟩ (lv_sub hl [2, 3, 4, 5, 6] rfl)
  refine lv_if_ne (tgt := 409) hx hb dL_law_394 (by decide) (fun _ => fin) (fun h0 => ?_)
  have hk0 : k = 0 := oc3_0 hoc h0
  refine lv_aload_n hx hb dL_law_397 rfl (lv_at hl 5 rfl) ?_
  refine lv_iconst (v := 0) hx hb dL_law_398 (by decide) ?_
  refine va_lald hx hb hK.1 (wP_l hP) (((W5x cI aC aS aL aW aB aF aZ aK aM aO aT aY sr wm wW bh bF bZ z_bK z_bM ol oS) ++ (HB cI cZ cS aY aV aU aR z_kd kf z_kA z_kV kQ kP))).length 3 (get_last _ _) rfl (i := 0) (by unfold vp_in; decide) dL_law_399 ?_
  refine lv_iload hx hb dL_law_400 (lv_at hl 0 rfl) ?_
  refine lv_i2l hx hb dL_law_402 rfl ?_
  refine l_lcmp hx hb (by rw [hf0 hk0, hrr hk0]; exact if_pos rfl) dL_law_403 ?_
  exact lv_if_eq (tgt := 409) hx hb dL_law_404 (by decide) (fun _ => fin) (fun h => absurd rfl h)
set_option maxHeartbeats 4000000 in
set_option maxRecDepth 100000 in
theorem C_cash (hfl : l.stackTraces = false) (C : LC p s m c b L xs D cI cZ cS cJ) {i : Nat} {i4 : Int32} (hi : i + 4 ≤ L) (hL : L ≤ 2048) (e4 : i4 = nI i) (hcs : cells + 3 ≤ 601024 ∧ slots + 18 ≤ 7293034) (hl : lv_has ls 9 [(0, .ref b), (1, .ref aC), (2, .ref aX), (3, .ref aQ), (4, .int i4)]) (hI : LI s D cI cZ cS cJ aC aS aL aW aB aF aZ aK aM aO aT aY aV aU aR aQ aX aN aP aJ aI aG aD kQ H locs) (kk : ∀ (H1 : Heap) (locs1 : List Loc) (ls : Array Slot), LI s D cI cZ cS cJ aC aS aL aW aB aF aZ aK aM aO aT aY aV aU aR aQ aX aN aP aJ aI aG aD kQ H1 locs1 → lv_has ls 9 [(0, .ref b), (1, .ref aC), (2, .ref aX), (3, .ref aQ), (4, .int i4)] → W p l e room_1 s m #[Value.ref b] below meth c H1 locs1 (cells + 3) (slots + 18) Q (F0 m 1602 ls [])) : W p l e room_1 s m #[Value.ref b] below meth c H locs cells slots Q (F0 m 412 ls []) := by
  obtain ⟨hx, hb, hml, hown, hts, hXs, hbl, hK, hX, hZ, hY⟩ := C
  have hbA : ¬ lA s b := Nat.not_le.mpr hbl
  have S : CallFix p m c cL_law 9 s #[Value.ref b] lw_all RL := ⟨hx, hb, hml, hown, hts⟩
  obtain ⟨hc1, hc2⟩ := hcs
  have n1 : vp_in (i4 + 1) L := by rw [e4]; exact in_arg (j := 1) (by omega) hL
  have n2 : vp_in (i4 + 2) L := by rw [e4]; exact in_arg (j := 2) (by omega) hL
  obtain ⟨sr, wm, wW, bh, bF, bZ, bK, bM, ol, oS, kd, kf, kA, kV, kP, ms, ml, mt, mq, mu, mN, mP, mK, mI, mT, mD, f, hI, hP, hD, hS⟩ := hI
  obtain ⟨k, r, z_sr, z_bK, z_bM, z_kd, z_kA, z_kV, r6, z_ms, z_mt, z_mN, z_mP, hF5, hF6, hoc, hrr, hkA, hI⟩ := T_cash hI kA mt (xs (i4 + 1).toNatClampNeg) (xs (i4 + 2).toNatClampNeg)
  have ht : ∀ B : Nat → Prop, va_D B ((W5x cI aC aS aL aW aB aF aZ aK aM aO aT aY sr wm wW bh bF bZ bK bM ol oS) ++ (HB cI cZ cS aY aV aU aR kd kf kA kV kQ kP)) → va_D B ((W5x cI aC aS aL aW aB aF aZ aK aM aO aT aY z_sr wm wW bh bF bZ z_bK z_bM ol oS) ++ (HB cI cZ cS aY aV aU aR z_kd kf z_kA z_kV kQ kP)) := tr_D cI cZ cS aC aS aL aW aB aF aZ aK aM aO aT aY aV aU aR kQ hkA
  obtain ⟨f', hf0, hf1⟩ : ∃ f' : Nat → Int64, (k = 0 → f' = vp_updL f 0 r.toInt64) ∧ (k ≠ 0 → f' = f) := ⟨if k = 0 then vp_updL f 0 r.toInt64 else f, fun h => if_pos h, fun h => if_neg h⟩
  refine lv_aload_n hx hb dL_law_412 rfl (lv_at hl 1 rfl) ?_
  refine lv_aload_n hx hb dL_law_413 rfl (lv_at hl 0 rfl) ?_
  refine lv_iload hx hb dL_law_414 (lv_at hl 4 rfl) ?_
  refine lv_iconst (v := 1) hx hb dL_law_416 (by decide) ?_
  refine lv_iadd hx hb dL_law_417 ?_
  refine va_sld hx hb hXs hbl hbA hS n1 dL_law_418 ?_
  refine lv_aload_n hx hb dL_law_419 rfl (lv_at hl 0 rfl) ?_
  refine lv_iload hx hb dL_law_420 (lv_at hl 4 rfl) ?_
  refine lv_iconst (v := 2) hx hb dL_law_422 (by decide) ?_
  refine lv_iadd hx hb dL_law_423 ?_
  refine va_sld hx hb hXs hbl hbA hS n2 dL_law_424 ?_
  refine lv_aload_n hx hb dL_law_425 rfl (lv_at hl 3 rfl) ?_
  refine ucallLi (X' := (((W5x cI aC aS aL aW aB aF aZ aK aM aO aT aY z_sr wm wW bh bF bZ z_bK z_bM ol oS) ++ (HB cI cZ cS aY aV aU aR z_kd kf z_kA z_kV kQ kP)) ++ [(aQ, .inl (cJ, 1, .inr (.inl f')))])) (vx_runSW (As := [.ref aC, .int (xs (i4 + 1).toNatClampNeg), .int (xs (i4 + 2).toNatClampNeg), .ref aQ]) (rest := []) S (KL_cash l D cI cZ cS cJ aC aQ _ _ [.ref aS, .ref aY, .ref aO] rfl ht f f' (xs (i4 + 1).toNatClampNeg) (xs (i4 + 2).toNatClampNeg) k r z_mt hoc hf0 hf1 (K5_cash l hfl D cI cZ cS cJ aC aS aL aW aB aF aZ aK aM aO aT aY aV aU aR kQ sr wm wW bh bF bZ bK bM ol oS kd kf kA kV kP (xs (i4 + 1).toNatClampNeg) (xs (i4 + 2).toNatClampNeg) k r z_sr z_bK z_bM z_kd z_kA z_kV hF5)) (vx_cwSW 4 hts (gd_SW wd_488 wd_489 wd_60 cwL_cash) rfl rfl rfl hdL_cash ⟨Nat.le_of_ble_eq_true rfl, Nat.le_of_ble_eq_true rfl⟩) (wPreS hK hX hZ hY hS (wP_l hP) (wD_l hD)) rfl rfl hl.1 rfl (lv_room (Nat.le_of_ble_eq_true rfl)) dL_law_426 ⟨by show cells + 2 ≤ 601024; omega, by show slots + 12 ≤ 7293034; omega⟩) hS hP hD (fun H locs hP hS => ?_)
  have hD : va_D (lA s) ((((W5x cI aC aS aL aW aB aF aZ aK aM aO aT aY z_sr wm wW bh bF bZ z_bK z_bM ol oS) ++ (HB cI cZ cS aY aV aU aR z_kd kf z_kA z_kV kQ kP)) ++ [(aQ, .inl (cJ, 1, .inr (.inl f')))]) ++ (W6 cI aX aN aP aJ aI aG aD ms ml mt mq mu mN mP mK mI mT mD)) := wD_re hD (fun B h => wD_re2 (wD_re h ht) rfl)
  refine W.widen (k := cells + 3) (n := slots + 18) (by show cells + 2 ≤ cells + 3; omega) (by show slots + 12 ≤ slots + 18; omega) ?_
  refine lv_istore (lv' := [(5, .int z_mt), (0, .ref b), (1, .ref aC), (2, .ref aX), (3, .ref aQ), (4, .int i4)]) hx hb dL_law_429 hl (by decide) rfl (fun ls hl => ?_)
  refine lv_aload_n hx hb dL_law_431 rfl (lv_at hl 3 rfl) ?_
  refine lv_aload_n hx hb dL_law_432 rfl (lv_at hl 1 rfl) ?_
  refine lv_iload hx hb dL_law_433 (lv_at hl 5 rfl) ?_
  refine lv_iconst (v := 1) hx hb dL_law_435 (by decide) ?_
  refine lv_iadd hx hb dL_law_436 ?_
  refine va_sld hx hb hXs hbl hbA hS n1 dL_law_437 ?_
  refine lv_aload_n hx hb dL_law_438 rfl (lv_at hl 1 rfl) ?_
  refine lv_iload hx hb dL_law_439 (lv_at hl 5 rfl) ?_
  refine lv_iconst (v := 2) hx hb dL_law_441 (by decide) ?_
  refine lv_iadd hx hb dL_law_442 ?_
  refine va_sld hx hb hXs hbl hbA hS n2 dL_law_443 ?_
  refine ucallRi (Y' := (W6 cI aX aN aP aJ aI aG aD z_ms ml z_mt mq mu z_mN z_mP mK mI mT mD)) (va_runV (As := [.int (xs (i4 + 1).toNatClampNeg), .int (xs (i4 + 2).toNatClampNeg)]) (rest := []) S (K6_cash l D cI cZ cS cJ aX aN aP aJ aI aG aD ms ml mt mq mu mN mP mK mI mT mD (xs (i4 + 1).toNatClampNeg) (xs (i4 + 2).toNatClampNeg) r6 z_ms z_mt z_mN z_mP hF6) (cwV 2 hts (gd_V wd_918 wd_919 wd_920 wd_67 wd_921) rfl rfl rfl hd6_cash ⟨Nat.le_of_ble_eq_true rfl, Nat.le_of_ble_eq_true rfl⟩) (uPreV2 hK (wP_r hP) (wD_r hD) (ci := 6) (q := (RX6, TX6, 11)) rfl rfl) rfl rfl hl.1 rfl (lv_room (Nat.le_of_ble_eq_true rfl)) dL_law_444 ⟨by show cells + 3 + 0 ≤ 601024; omega, by show slots + 18 + 0 ≤ 7293034; omega⟩) hS hP hD (fun H locs hP hS => ?_)
  have hD : va_D (lA s) ((((W5x cI aC aS aL aW aB aF aZ aK aM aO aT aY z_sr wm wW bh bF bZ z_bK z_bM ol oS) ++ (HB cI cZ cS aY aV aU aR z_kd kf z_kA z_kV kQ kP)) ++ [(aQ, .inl (cJ, 1, .inr (.inl f')))]) ++ (W6 cI aX aN aP aJ aI aG aD z_ms ml z_mt mq mu z_mN z_mP mK mI mT mD)) := wD_re2 hD rfl
  refine lv_istore (lv' := [(6, .int r6), (5, .int z_mt), (0, .ref b), (1, .ref aC), (2, .ref aX), (3, .ref aQ), (4, .int i4)]) hx hb dL_law_447 hl (by decide) rfl (fun ls hl => ?_)
  refine lv_aload_n hx hb dL_law_449 rfl (lv_at hl 4 rfl) ?_
  refine rcall (va_runV (As := []) (rest := []) S (K6_thrown l D cI cZ cS cJ aX aN aP aJ aI aG aD z_ms ml z_mt mq mu z_mN z_mP mK mI mT mD z_mt rfl) (cwV 0 hts (gd_V wd_845 wd_846 wd_847 wd_67 wd_848) rfl rfl rfl hd6_thrown ⟨Nat.le_of_ble_eq_true rfl, Nat.le_of_ble_eq_true rfl⟩) (rPreV hK (wP_r hP) (ci := 6) (q := (RX6, TX6, 11)) rfl rfl) rfl rfl hl.1 rfl (lv_room (Nat.le_of_ble_eq_true rfl)) dL_law_450 ⟨by show cells + 3 + 0 ≤ 601024; omega, by show slots + 18 + 0 ≤ 7293034; omega⟩) ?_
  refine lv_iload hx hb dL_law_453 (lv_at hl 1 rfl) ?_
  refine lv_icmp_eq (tgt := 460) hx hb dL_law_455 (by decide) (fun _ => ?_) (fun h => absurd rfl h)
  refine lv_iload hx hb dL_law_460 (lv_at hl 1 rfl) ?_
  have fin : W p l e room_1 s m #[Value.ref b] below meth c H locs (cells + 3 + 0) (slots + 18 + 0) Q (F0 m 477 ls []) := by
    refine lv_goto (tgt := 1602) hx hb dL_law_477 (by decide) ?_
    exact kk H locs ls ⟨z_sr, wm, wW, bh, bF, bZ, z_bK, z_bM, ol, oS, z_kd, kf, z_kA, z_kV, kP, z_ms, ml, z_mt, mq, mu, z_mN, z_mP, mK, mI, mT, mD, f', hI, hP, hD, hS⟩ (lv_sub hl [2, 3, 4, 5, 6] rfl)
  refine lv_if_ne (tgt := 477) hx hb dL_law_462 (by decide) (fun _ => fin) (fun h0 => ?_)
  have hk0 : k = 0 := oc2_0 hoc h0
  refine lv_aload_n hx hb dL_law_465 rfl (lv_at hl 5 rfl) ?_
  refine lv_iconst (v := 0) hx hb dL_law_466 (by decide) ?_
  refine va_lald hx hb hK.1 (wP_l hP) (((W5x cI aC aS aL aW aB aF aZ aK aM aO aT aY z_sr wm wW bh bF bZ z_bK z_bM ol oS) ++ (HB cI cZ cS aY aV aU aR z_kd kf z_kA z_kV kQ kP))).length 3 (get_last _ _) rfl (i := 0) (by unfold vp_in; decide) dL_law_467 ?_
  refine lv_iload hx hb dL_law_468 (lv_at hl 0 rfl) ?_
  refine lv_i2l hx hb dL_law_470 rfl ?_
  refine l_lcmp hx hb (by rw [hf0 hk0, hrr hk0]; exact if_pos rfl) dL_law_471 ?_
  exact lv_if_eq (tgt := 477) hx hb dL_law_472 (by decide) (fun _ => fin) (fun h => absurd rfl h)
set_option maxHeartbeats 4000000 in
set_option maxRecDepth 100000 in
theorem C_voidRun (hfl : l.stackTraces = false) (C : LC p s m c b L xs D cI cZ cS cJ) {i : Nat} {i4 : Int32} (hi : i + 4 ≤ L) (hL : L ≤ 2048) (e4 : i4 = nI i) (hcs : cells + 3 ≤ 601024 ∧ slots + 18 ≤ 7293034) (hl : lv_has ls 9 [(0, .ref b), (1, .ref aC), (2, .ref aX), (3, .ref aQ), (4, .int i4)]) (hI : LI s D cI cZ cS cJ aC aS aL aW aB aF aZ aK aM aO aT aY aV aU aR aQ aX aN aP aJ aI aG aD kQ H locs) (kk : ∀ (H1 : Heap) (locs1 : List Loc) (ls : Array Slot), LI s D cI cZ cS cJ aC aS aL aW aB aF aZ aK aM aO aT aY aV aU aR aQ aX aN aP aJ aI aG aD kQ H1 locs1 → lv_has ls 9 [(0, .ref b), (1, .ref aC), (2, .ref aX), (3, .ref aQ), (4, .int i4)] → W p l e room_1 s m #[Value.ref b] below meth c H1 locs1 (cells + 3) (slots + 18) Q (F0 m 1602 ls [])) : W p l e room_1 s m #[Value.ref b] below meth c H locs cells slots Q (F0 m 480 ls []) := by
  obtain ⟨hx, hb, hml, hown, hts, hXs, hbl, hK, hX, hZ, hY⟩ := C
  have hbA : ¬ lA s b := Nat.not_le.mpr hbl
  have S : CallFix p m c cL_law 9 s #[Value.ref b] lw_all RL := ⟨hx, hb, hml, hown, hts⟩
  obtain ⟨hc1, hc2⟩ := hcs
  have n1 : vp_in (i4 + 1) L := by rw [e4]; exact in_arg (j := 1) (by omega) hL
  have n2 : vp_in (i4 + 2) L := by rw [e4]; exact in_arg (j := 2) (by omega) hL
  obtain ⟨sr, wm, wW, bh, bF, bZ, bK, bM, ol, oS, kd, kf, kA, kV, kP, ms, ml, mt, mq, mu, mN, mP, mK, mI, mT, mD, f, hI, hP, hD, hS⟩ := hI
  obtain ⟨k, r, z_bK, z_bM, z_kd, z_kA, z_kV, r6, z_ms, z_mt, z_mN, z_mP, hF5, hF6, hoc, hrr, hkA, hI⟩ := T_voidRun hI kA mt (xs (i4 + 1).toNatClampNeg) (xs (i4 + 2).toNatClampNeg)
  have ht : ∀ B : Nat → Prop, va_D B ((W5x cI aC aS aL aW aB aF aZ aK aM aO aT aY sr wm wW bh bF bZ bK bM ol oS) ++ (HB cI cZ cS aY aV aU aR kd kf kA kV kQ kP)) → va_D B ((W5x cI aC aS aL aW aB aF aZ aK aM aO aT aY sr wm wW bh bF bZ z_bK z_bM ol oS) ++ (HB cI cZ cS aY aV aU aR z_kd kf z_kA z_kV kQ kP)) := tr_D cI cZ cS aC aS aL aW aB aF aZ aK aM aO aT aY aV aU aR kQ hkA
  obtain ⟨f', hf0, hf1⟩ : ∃ f' : Nat → Int64, (k = 0 → f' = vp_updL f 0 r.toInt64) ∧ (k ≠ 0 → f' = f) := ⟨if k = 0 then vp_updL f 0 r.toInt64 else f, fun h => if_pos h, fun h => if_neg h⟩
  refine lv_aload_n hx hb dL_law_480 rfl (lv_at hl 1 rfl) ?_
  refine lv_aload_n hx hb dL_law_481 rfl (lv_at hl 0 rfl) ?_
  refine lv_iload hx hb dL_law_482 (lv_at hl 4 rfl) ?_
  refine lv_iconst (v := 1) hx hb dL_law_484 (by decide) ?_
  refine lv_iadd hx hb dL_law_485 ?_
  refine va_sld hx hb hXs hbl hbA hS n1 dL_law_486 ?_
  refine lv_aload_n hx hb dL_law_487 rfl (lv_at hl 0 rfl) ?_
  refine lv_iload hx hb dL_law_488 (lv_at hl 4 rfl) ?_
  refine lv_iconst (v := 2) hx hb dL_law_490 (by decide) ?_
  refine lv_iadd hx hb dL_law_491 ?_
  refine va_sld hx hb hXs hbl hbA hS n2 dL_law_492 ?_
  refine lv_aload_n hx hb dL_law_493 rfl (lv_at hl 3 rfl) ?_
  refine ucallLi (X' := (((W5x cI aC aS aL aW aB aF aZ aK aM aO aT aY sr wm wW bh bF bZ z_bK z_bM ol oS) ++ (HB cI cZ cS aY aV aU aR z_kd kf z_kA z_kV kQ kP)) ++ [(aQ, .inl (cJ, 1, .inr (.inl f')))])) (vx_runSW (As := [.ref aC, .int (xs (i4 + 1).toNatClampNeg), .int (xs (i4 + 2).toNatClampNeg), .ref aQ]) (rest := []) S (KL_voidRun l D cI cZ cS cJ aC aQ _ _ [.ref aS, .ref aY, .ref aO] rfl ht f f' (xs (i4 + 1).toNatClampNeg) (xs (i4 + 2).toNatClampNeg) k r z_mt hoc hf0 hf1 (K5_voidRun l hfl D cI cZ cS cJ aC aS aL aW aB aF aZ aK aM aO aT aY aV aU aR kQ sr wm wW bh bF bZ bK bM ol oS kd kf kA kV kP (xs (i4 + 1).toNatClampNeg) (xs (i4 + 2).toNatClampNeg) k r z_bK z_bM z_kd z_kA z_kV hF5)) (vx_cwSW 4 hts (gd_SW wd_519 wd_520 wd_60 cwL_voidRun) rfl rfl rfl hdL_voidRun ⟨Nat.le_of_ble_eq_true rfl, Nat.le_of_ble_eq_true rfl⟩) (wPreS hK hX hZ hY hS (wP_l hP) (wD_l hD)) rfl rfl hl.1 rfl (lv_room (Nat.le_of_ble_eq_true rfl)) dL_law_494 ⟨by show cells + 1 ≤ 601024; omega, by show slots + 6 ≤ 7293034; omega⟩) hS hP hD (fun H locs hP hS => ?_)
  have hD : va_D (lA s) ((((W5x cI aC aS aL aW aB aF aZ aK aM aO aT aY sr wm wW bh bF bZ z_bK z_bM ol oS) ++ (HB cI cZ cS aY aV aU aR z_kd kf z_kA z_kV kQ kP)) ++ [(aQ, .inl (cJ, 1, .inr (.inl f')))]) ++ (W6 cI aX aN aP aJ aI aG aD ms ml mt mq mu mN mP mK mI mT mD)) := wD_re hD (fun B h => wD_re2 (wD_re h ht) rfl)
  refine W.widen (k := cells + 3) (n := slots + 18) (by show cells + 1 ≤ cells + 3; omega) (by show slots + 6 ≤ slots + 18; omega) ?_
  refine lv_istore (lv' := [(5, .int z_mt), (0, .ref b), (1, .ref aC), (2, .ref aX), (3, .ref aQ), (4, .int i4)]) hx hb dL_law_497 hl (by decide) rfl (fun ls hl => ?_)
  refine lv_aload_n hx hb dL_law_499 rfl (lv_at hl 3 rfl) ?_
  refine lv_aload_n hx hb dL_law_500 rfl (lv_at hl 1 rfl) ?_
  refine lv_iload hx hb dL_law_501 (lv_at hl 5 rfl) ?_
  refine lv_iconst (v := 1) hx hb dL_law_503 (by decide) ?_
  refine lv_iadd hx hb dL_law_504 ?_
  refine va_sld hx hb hXs hbl hbA hS n1 dL_law_505 ?_
  refine lv_aload_n hx hb dL_law_506 rfl (lv_at hl 1 rfl) ?_
  refine lv_iload hx hb dL_law_507 (lv_at hl 5 rfl) ?_
  refine lv_iconst (v := 2) hx hb dL_law_509 (by decide) ?_
  refine lv_iadd hx hb dL_law_510 ?_
  refine va_sld hx hb hXs hbl hbA hS n2 dL_law_511 ?_
  refine ucallRi (Y' := (W6 cI aX aN aP aJ aI aG aD z_ms ml z_mt mq mu z_mN z_mP mK mI mT mD)) (va_runV (As := [.int (xs (i4 + 1).toNatClampNeg), .int (xs (i4 + 2).toNatClampNeg)]) (rest := []) S (K6_voidRun l D cI cZ cS cJ aX aN aP aJ aI aG aD ms ml mt mq mu mN mP mK mI mT mD (xs (i4 + 1).toNatClampNeg) (xs (i4 + 2).toNatClampNeg) r6 z_ms z_mt z_mN z_mP hF6) (cwV 2 hts (gd_V wd_929 wd_930 wd_931 wd_67 wd_932) rfl rfl rfl hd6_voidRun ⟨Nat.le_of_ble_eq_true rfl, Nat.le_of_ble_eq_true rfl⟩) (uPreV2 hK (wP_r hP) (wD_r hD) (ci := 6) (q := (RX6, TX6, 11)) rfl rfl) rfl rfl hl.1 rfl (lv_room (Nat.le_of_ble_eq_true rfl)) dL_law_512 ⟨by show cells + 3 + 0 ≤ 601024; omega, by show slots + 18 + 0 ≤ 7293034; omega⟩) hS hP hD (fun H locs hP hS => ?_)
  have hD : va_D (lA s) ((((W5x cI aC aS aL aW aB aF aZ aK aM aO aT aY sr wm wW bh bF bZ z_bK z_bM ol oS) ++ (HB cI cZ cS aY aV aU aR z_kd kf z_kA z_kV kQ kP)) ++ [(aQ, .inl (cJ, 1, .inr (.inl f')))]) ++ (W6 cI aX aN aP aJ aI aG aD z_ms ml z_mt mq mu z_mN z_mP mK mI mT mD)) := wD_re2 hD rfl
  refine lv_istore (lv' := [(6, .int r6), (5, .int z_mt), (0, .ref b), (1, .ref aC), (2, .ref aX), (3, .ref aQ), (4, .int i4)]) hx hb dL_law_515 hl (by decide) rfl (fun ls hl => ?_)
  refine lv_aload_n hx hb dL_law_517 rfl (lv_at hl 4 rfl) ?_
  refine rcall (va_runV (As := []) (rest := []) S (K6_thrown l D cI cZ cS cJ aX aN aP aJ aI aG aD z_ms ml z_mt mq mu z_mN z_mP mK mI mT mD z_mt rfl) (cwV 0 hts (gd_V wd_845 wd_846 wd_847 wd_67 wd_848) rfl rfl rfl hd6_thrown ⟨Nat.le_of_ble_eq_true rfl, Nat.le_of_ble_eq_true rfl⟩) (rPreV hK (wP_r hP) (ci := 6) (q := (RX6, TX6, 11)) rfl rfl) rfl rfl hl.1 rfl (lv_room (Nat.le_of_ble_eq_true rfl)) dL_law_518 ⟨by show cells + 3 + 0 ≤ 601024; omega, by show slots + 18 + 0 ≤ 7293034; omega⟩) ?_
  refine lv_iload hx hb dL_law_521 (lv_at hl 1 rfl) ?_
  refine lv_icmp_eq (tgt := 528) hx hb dL_law_523 (by decide) (fun _ => ?_) (fun h => absurd rfl h)
  refine lv_iload hx hb dL_law_528 (lv_at hl 1 rfl) ?_
  have fin : W p l e room_1 s m #[Value.ref b] below meth c H locs (cells + 3 + 0) (slots + 18 + 0) Q (F0 m 545 ls []) := by
    refine lv_goto (tgt := 1602) hx hb dL_law_545 (by decide) ?_
    exact kk H locs ls ⟨sr, wm, wW, bh, bF, bZ, z_bK, z_bM, ol, oS, z_kd, kf, z_kA, z_kV, kP, z_ms, ml, z_mt, mq, mu, z_mN, z_mP, mK, mI, mT, mD, f', hI, hP, hD, hS⟩ (lv_sub hl [2, 3, 4, 5, 6] rfl)
  refine lv_if_ne (tgt := 545) hx hb dL_law_530 (by decide) (fun _ => fin) (fun h0 => ?_)
  have hk0 : k = 0 := oc2_0 hoc h0
  refine lv_aload_n hx hb dL_law_533 rfl (lv_at hl 5 rfl) ?_
  refine lv_iconst (v := 0) hx hb dL_law_534 (by decide) ?_
  refine va_lald hx hb hK.1 (wP_l hP) (((W5x cI aC aS aL aW aB aF aZ aK aM aO aT aY sr wm wW bh bF bZ z_bK z_bM ol oS) ++ (HB cI cZ cS aY aV aU aR z_kd kf z_kA z_kV kQ kP))).length 3 (get_last _ _) rfl (i := 0) (by unfold vp_in; decide) dL_law_535 ?_
  refine lv_iload hx hb dL_law_536 (lv_at hl 0 rfl) ?_
  refine lv_i2l hx hb dL_law_538 rfl ?_
  refine l_lcmp hx hb (by rw [hf0 hk0, hrr hk0]; exact if_pos rfl) dL_law_539 ?_
  exact lv_if_eq (tgt := 545) hx hb dL_law_540 (by decide) (fun _ => fin) (fun h => absurd rfl h)
set_option maxHeartbeats 4000000 in
set_option maxRecDepth 100000 in
theorem C_append (hfl : l.stackTraces = false) (C : LC p s m c b L xs D cI cZ cS cJ) {i : Nat} {i4 : Int32} (hi : i + 4 ≤ L) (hL : L ≤ 2048) (e4 : i4 = nI i) (hcs : cells + 3 ≤ 601024 ∧ slots + 18 ≤ 7293034) (hl : lv_has ls 9 [(0, .ref b), (1, .ref aC), (2, .ref aX), (3, .ref aQ), (4, .int i4)]) (hI : LI s D cI cZ cS cJ aC aS aL aW aB aF aZ aK aM aO aT aY aV aU aR aQ aX aN aP aJ aI aG aD kQ H locs) (kk : ∀ (H1 : Heap) (locs1 : List Loc) (ls : Array Slot), LI s D cI cZ cS cJ aC aS aL aW aB aF aZ aK aM aO aT aY aV aU aR aQ aX aN aP aJ aI aG aD kQ H1 locs1 → lv_has ls 9 [(0, .ref b), (1, .ref aC), (2, .ref aX), (3, .ref aQ), (4, .int i4)] → W p l e room_1 s m #[Value.ref b] below meth c H1 locs1 (cells + 3) (slots + 18) Q (F0 m 1602 ls [])) : W p l e room_1 s m #[Value.ref b] below meth c H locs cells slots Q (F0 m 548 ls []) := by
  obtain ⟨hx, hb, hml, hown, hts, hXs, hbl, hK, hX, hZ, hY⟩ := C
  have hbA : ¬ lA s b := Nat.not_le.mpr hbl
  have S : CallFix p m c cL_law 9 s #[Value.ref b] lw_all RL := ⟨hx, hb, hml, hown, hts⟩
  obtain ⟨hc1, hc2⟩ := hcs
  have n1 : vp_in (i4 + 1) L := by rw [e4]; exact in_arg (j := 1) (by omega) hL
  obtain ⟨sr, wm, wW, bh, bF, bZ, bK, bM, ol, oS, kd, kf, kA, kV, kP, ms, ml, mt, mq, mu, mN, mP, mK, mI, mT, mD, f, hI, hP, hD, hS⟩ := hI
  obtain ⟨k, r, z_ol, z_oS, r6, z_ml, z_mt, z_mT, hF5, hF6, hoc, hrr, hI⟩ := T_append hI kA mt (xs (i4 + 1).toNatClampNeg)
  have ht : ∀ B : Nat → Prop, va_D B ((W5x cI aC aS aL aW aB aF aZ aK aM aO aT aY sr wm wW bh bF bZ bK bM ol oS) ++ (HB cI cZ cS aY aV aU aR kd kf kA kV kQ kP)) → va_D B ((W5x cI aC aS aL aW aB aF aZ aK aM aO aT aY sr wm wW bh bF bZ bK bM z_ol z_oS) ++ (HB cI cZ cS aY aV aU aR kd kf kA kV kQ kP)) := tr_D cI cZ cS aC aS aL aW aB aF aZ aK aM aO aT aY aV aU aR kQ (Or.inl rfl)
  obtain ⟨f', hf0, hf1⟩ : ∃ f' : Nat → Int64, (k = 0 → f' = vp_updL f 0 r.toInt64) ∧ (k ≠ 0 → f' = f) := ⟨if k = 0 then vp_updL f 0 r.toInt64 else f, fun h => if_pos h, fun h => if_neg h⟩
  refine lv_aload_n hx hb dL_law_548 rfl (lv_at hl 1 rfl) ?_
  refine lv_aload_n hx hb dL_law_549 rfl (lv_at hl 0 rfl) ?_
  refine lv_iload hx hb dL_law_550 (lv_at hl 4 rfl) ?_
  refine lv_iconst (v := 1) hx hb dL_law_552 (by decide) ?_
  refine lv_iadd hx hb dL_law_553 ?_
  refine va_sld hx hb hXs hbl hbA hS n1 dL_law_554 ?_
  refine lv_aload_n hx hb dL_law_555 rfl (lv_at hl 3 rfl) ?_
  refine ucallLi (X' := (((W5x cI aC aS aL aW aB aF aZ aK aM aO aT aY sr wm wW bh bF bZ bK bM z_ol z_oS) ++ (HB cI cZ cS aY aV aU aR kd kf kA kV kQ kP)) ++ [(aQ, .inl (cJ, 1, .inr (.inl f')))])) (vx_runSW (As := [.ref aC, .int (xs (i4 + 1).toNatClampNeg), .ref aQ]) (rest := []) S (KL_append l D cI cZ cS cJ aC aQ _ _ [.ref aS, .ref aY, .ref aO] rfl ht f f' (xs (i4 + 1).toNatClampNeg) k r z_mt hoc hf0 hf1 (K5_append l hfl D cI cZ cS cJ aC aS aL aW aB aF aZ aK aM aO aT aY aV aU aR kQ sr wm wW bh bF bZ bK bM ol oS kd kf kA kV kP (xs (i4 + 1).toNatClampNeg) k r z_ol z_oS hF5)) (vx_cwSW 3 hts (gd_SW wd_543 wd_544 wd_60 cwL_append) rfl rfl rfl hdL_append ⟨Nat.le_of_ble_eq_true rfl, Nat.le_of_ble_eq_true rfl⟩) (wPreS hK hX hZ hY hS (wP_l hP) (wD_l hD)) rfl rfl hl.1 rfl (lv_room (Nat.le_of_ble_eq_true rfl)) dL_law_556 ⟨by show cells + 1 ≤ 601024; omega, by show slots + 6 ≤ 7293034; omega⟩) hS hP hD (fun H locs hP hS => ?_)
  have hD : va_D (lA s) ((((W5x cI aC aS aL aW aB aF aZ aK aM aO aT aY sr wm wW bh bF bZ bK bM z_ol z_oS) ++ (HB cI cZ cS aY aV aU aR kd kf kA kV kQ kP)) ++ [(aQ, .inl (cJ, 1, .inr (.inl f')))]) ++ (W6 cI aX aN aP aJ aI aG aD ms ml mt mq mu mN mP mK mI mT mD)) := wD_re hD (fun B h => wD_re2 (wD_re h ht) rfl)
  refine W.widen (k := cells + 3) (n := slots + 18) (by show cells + 1 ≤ cells + 3; omega) (by show slots + 6 ≤ slots + 18; omega) ?_
  refine lv_istore (lv' := [(5, .int z_mt), (0, .ref b), (1, .ref aC), (2, .ref aX), (3, .ref aQ), (4, .int i4)]) hx hb dL_law_559 hl (by decide) rfl (fun ls hl => ?_)
  refine lv_aload_n hx hb dL_law_561 rfl (lv_at hl 3 rfl) ?_
  refine lv_aload_n hx hb dL_law_562 rfl (lv_at hl 1 rfl) ?_
  refine lv_iload hx hb dL_law_563 (lv_at hl 5 rfl) ?_
  refine lv_iconst (v := 1) hx hb dL_law_565 (by decide) ?_
  refine lv_iadd hx hb dL_law_566 ?_
  refine va_sld hx hb hXs hbl hbA hS n1 dL_law_567 ?_
  refine ucallRi (Y' := (W6 cI aX aN aP aJ aI aG aD ms z_ml z_mt mq mu mN mP mK mI z_mT mD)) (va_runV (As := [.int (xs (i4 + 1).toNatClampNeg)]) (rest := []) S (K6_append l D cI cZ cS cJ aX aN aP aJ aI aG aD ms ml mt mq mu mN mP mK mI mT mD (xs (i4 + 1).toNatClampNeg) r6 z_ml z_mt z_mT hF6) (cwV 1 hts (gd_V wd_945 wd_946 wd_947 wd_67 wd_948) rfl rfl rfl hd6_append ⟨Nat.le_of_ble_eq_true rfl, Nat.le_of_ble_eq_true rfl⟩) (uPreV2 hK (wP_r hP) (wD_r hD) (ci := 6) (q := (RX6, TX6, 11)) rfl rfl) rfl rfl hl.1 rfl (lv_room (Nat.le_of_ble_eq_true rfl)) dL_law_568 ⟨by show cells + 3 + 0 ≤ 601024; omega, by show slots + 18 + 0 ≤ 7293034; omega⟩) hS hP hD (fun H locs hP hS => ?_)
  have hD : va_D (lA s) ((((W5x cI aC aS aL aW aB aF aZ aK aM aO aT aY sr wm wW bh bF bZ bK bM z_ol z_oS) ++ (HB cI cZ cS aY aV aU aR kd kf kA kV kQ kP)) ++ [(aQ, .inl (cJ, 1, .inr (.inl f')))]) ++ (W6 cI aX aN aP aJ aI aG aD ms z_ml z_mt mq mu mN mP mK mI z_mT mD)) := wD_re2 hD rfl
  refine lv_istore (lv' := [(6, .int r6), (5, .int z_mt), (0, .ref b), (1, .ref aC), (2, .ref aX), (3, .ref aQ), (4, .int i4)]) hx hb dL_law_571 hl (by decide) rfl (fun ls hl => ?_)
  refine lv_aload_n hx hb dL_law_573 rfl (lv_at hl 4 rfl) ?_
  refine rcall (va_runV (As := []) (rest := []) S (K6_thrown l D cI cZ cS cJ aX aN aP aJ aI aG aD ms z_ml z_mt mq mu mN mP mK mI z_mT mD z_mt rfl) (cwV 0 hts (gd_V wd_845 wd_846 wd_847 wd_67 wd_848) rfl rfl rfl hd6_thrown ⟨Nat.le_of_ble_eq_true rfl, Nat.le_of_ble_eq_true rfl⟩) (rPreV hK (wP_r hP) (ci := 6) (q := (RX6, TX6, 11)) rfl rfl) rfl rfl hl.1 rfl (lv_room (Nat.le_of_ble_eq_true rfl)) dL_law_574 ⟨by show cells + 3 + 0 ≤ 601024; omega, by show slots + 18 + 0 ≤ 7293034; omega⟩) ?_
  refine lv_iload hx hb dL_law_577 (lv_at hl 1 rfl) ?_
  refine lv_icmp_eq (tgt := 584) hx hb dL_law_579 (by decide) (fun _ => ?_) (fun h => absurd rfl h)
  refine lv_iload hx hb dL_law_584 (lv_at hl 1 rfl) ?_
  have fin : W p l e room_1 s m #[Value.ref b] below meth c H locs (cells + 3 + 0) (slots + 18 + 0) Q (F0 m 601 ls []) := by
    refine lv_goto (tgt := 1602) hx hb dL_law_601 (by decide) ?_
    exact kk H locs ls ⟨sr, wm, wW, bh, bF, bZ, bK, bM, z_ol, z_oS, kd, kf, kA, kV, kP, ms, z_ml, z_mt, mq, mu, mN, mP, mK, mI, z_mT, mD, f', hI, hP, hD, hS⟩ (lv_sub hl [2, 3, 4, 5, 6] rfl)
  refine lv_if_ne (tgt := 601) hx hb dL_law_586 (by decide) (fun _ => fin) (fun h0 => ?_)
  have hk0 : k = 0 := oc2_0 hoc h0
  refine lv_aload_n hx hb dL_law_589 rfl (lv_at hl 5 rfl) ?_
  refine lv_iconst (v := 0) hx hb dL_law_590 (by decide) ?_
  refine va_lald hx hb hK.1 (wP_l hP) (((W5x cI aC aS aL aW aB aF aZ aK aM aO aT aY sr wm wW bh bF bZ bK bM z_ol z_oS) ++ (HB cI cZ cS aY aV aU aR kd kf kA kV kQ kP))).length 3 (get_last _ _) rfl (i := 0) (by unfold vp_in; decide) dL_law_591 ?_
  refine lv_iload hx hb dL_law_592 (lv_at hl 0 rfl) ?_
  refine lv_i2l hx hb dL_law_594 rfl ?_
  refine l_lcmp hx hb (by rw [hf0 hk0, hrr hk0]; exact if_pos rfl) dL_law_595 ?_
  exact lv_if_eq (tgt := 601) hx hb dL_law_596 (by decide) (fun _ => fin) (fun h => absurd rfl h)
set_option maxHeartbeats 4000000 in
set_option maxRecDepth 100000 in
theorem C_clearBuffer (hfl : l.stackTraces = false) (C : LC p s m c b L xs D cI cZ cS cJ) {i : Nat} {i4 : Int32} (hi : i + 4 ≤ L) (hL : L ≤ 2048) (e4 : i4 = nI i) (hcs : cells + 3 ≤ 601024 ∧ slots + 18 ≤ 7293034) (hl : lv_has ls 9 [(0, .ref b), (1, .ref aC), (2, .ref aX), (3, .ref aQ), (4, .int i4)]) (hI : LI s D cI cZ cS cJ aC aS aL aW aB aF aZ aK aM aO aT aY aV aU aR aQ aX aN aP aJ aI aG aD kQ H locs) (kk : ∀ (H1 : Heap) (locs1 : List Loc) (ls : Array Slot), LI s D cI cZ cS cJ aC aS aL aW aB aF aZ aK aM aO aT aY aV aU aR aQ aX aN aP aJ aI aG aD kQ H1 locs1 → lv_has ls 9 [(0, .ref b), (1, .ref aC), (2, .ref aX), (3, .ref aQ), (4, .int i4)] → W p l e room_1 s m #[Value.ref b] below meth c H1 locs1 (cells + 3) (slots + 18) Q (F0 m 1602 ls [])) : W p l e room_1 s m #[Value.ref b] below meth c H locs cells slots Q (F0 m 604 ls []) := by
  obtain ⟨hx, hb, hml, hown, hts, hXs, hbl, hK, hX, hZ, hY⟩ := C
  have hbA : ¬ lA s b := Nat.not_le.mpr hbl
  have S : CallFix p m c cL_law 9 s #[Value.ref b] lw_all RL := ⟨hx, hb, hml, hown, hts⟩
  obtain ⟨hc1, hc2⟩ := hcs
  obtain ⟨sr, wm, wW, bh, bF, bZ, bK, bM, ol, oS, kd, kf, kA, kV, kP, ms, ml, mt, mq, mu, mN, mP, mK, mI, mT, mD, f, hI, hP, hD, hS⟩ := hI
  obtain ⟨r, z_ol, r6, z_ml, z_mt, hF5, hF6, hrr, hI⟩ := T_clearBuffer hI kA mt
  have ht : ∀ B : Nat → Prop, va_D B ((W5x cI aC aS aL aW aB aF aZ aK aM aO aT aY sr wm wW bh bF bZ bK bM ol oS) ++ (HB cI cZ cS aY aV aU aR kd kf kA kV kQ kP)) → va_D B ((W5x cI aC aS aL aW aB aF aZ aK aM aO aT aY sr wm wW bh bF bZ bK bM z_ol oS) ++ (HB cI cZ cS aY aV aU aR kd kf kA kV kQ kP)) := tr_D cI cZ cS aC aS aL aW aB aF aZ aK aM aO aT aY aV aU aR kQ (Or.inl rfl)
  refine lv_aload_n hx hb dL_law_604 rfl (lv_at hl 1 rfl) ?_
  refine ucallLi (X' := ((W5x cI aC aS aL aW aB aF aZ aK aM aO aT aY sr wm wW bh bF bZ bK bM z_ol oS) ++ (HB cI cZ cS aY aV aU aR kd kf kA kV kQ kP))) (va_runV (As := []) (rest := []) S (K5_clearBuffer l D cI cZ cS cJ aC aS aL aW aB aF aZ aK aM aO aT aY aV aU aR kQ sr wm wW bh bF bZ bK bM ol oS kd kf kA kV kP r z_ol hF5) (cwV 0 hts (gd_V wd_189 wd_190 wd_191 wd_61 wd_192) rfl rfl rfl hd5_clearBuffer ⟨Nat.le_of_ble_eq_true rfl, Nat.le_of_ble_eq_true rfl⟩) (uPreV2 hK (wP_l (wP_l hP)) (wD_l (wD_l hD)) (ci := 5) (q := (RX5, TX5, 3)) rfl rfl) rfl rfl hl.1 rfl (lv_room (Nat.le_of_ble_eq_true rfl)) dL_law_605 ⟨by show cells + 0 ≤ 601024; omega, by show slots + 0 ≤ 7293034; omega⟩) hS (as_P hP) (as_D hD) (fun H locs hP hS => ?_)
  have hP := sa_P hP
  have hD : va_D (lA s) ((((W5x cI aC aS aL aW aB aF aZ aK aM aO aT aY sr wm wW bh bF bZ bK bM z_ol oS) ++ (HB cI cZ cS aY aV aU aR kd kf kA kV kQ kP)) ++ [(aQ, .inl (cJ, 1, .inr (.inl f)))]) ++ (W6 cI aX aN aP aJ aI aG aD ms ml mt mq mu mN mP mK mI mT mD)) := wD_re hD (fun B h => wD_re h ht)
  refine lv_aload_n hx hb dL_law_608 rfl (lv_at hl 2 rfl) ?_
  refine ucallRi (Y' := (W6 cI aX aN aP aJ aI aG aD ms z_ml z_mt mq mu mN mP mK mI mT mD)) (va_runV (As := []) (rest := [.int r]) S (K6_clearBuffer l D cI cZ cS cJ aX aN aP aJ aI aG aD ms ml mt mq mu mN mP mK mI mT mD r6 z_ml z_mt hF6) (cwV 0 hts (gd_V wd_949 wd_950 wd_951 wd_67 wd_952) rfl rfl rfl hd6_clearBuffer ⟨Nat.le_of_ble_eq_true rfl, Nat.le_of_ble_eq_true rfl⟩) (uPreV2 hK (wP_r hP) (wD_r hD) (ci := 6) (q := (RX6, TX6, 11)) rfl rfl) rfl rfl hl.1 rfl (lv_room (Nat.le_of_ble_eq_true rfl)) dL_law_609 ⟨by show cells + 0 ≤ 601024; omega, by show slots + 0 ≤ 7293034; omega⟩) hS hP hD (fun H locs hP hS => ?_)
  have hD : va_D (lA s) ((((W5x cI aC aS aL aW aB aF aZ aK aM aO aT aY sr wm wW bh bF bZ bK bM z_ol oS) ++ (HB cI cZ cS aY aV aU aR kd kf kA kV kQ kP)) ++ [(aQ, .inl (cJ, 1, .inr (.inl f)))]) ++ (W6 cI aX aN aP aJ aI aG aD ms z_ml z_mt mq mu mN mP mK mI mT mD)) := wD_re2 hD rfl
  refine W.widen (k := cells + 3) (n := slots + 18) (by omega) (by omega) ?_
  exact lv_icmp_eq (tgt := 1602) hx hb dL_law_612 (by decide) (fun _ => kk H locs ls ⟨sr, wm, wW, bh, bF, bZ, bK, bM, z_ol, oS, kd, kf, kA, kV, kP, ms, z_ml, z_mt, mq, mu, mN, mP, mK, mI, mT, mD, f, hI, hP, hD, hS⟩ (lv_sub hl [0, 1, 2, 3, 4] rfl)) (fun h => absurd hrr h)
set_option maxHeartbeats 4000000 in
set_option maxRecDepth 100000 in
theorem C_firstError (hfl : l.stackTraces = false) (C : LC p s m c b L xs D cI cZ cS cJ) {i : Nat} {i4 : Int32} (hi : i + 4 ≤ L) (hL : L ≤ 2048) (e4 : i4 = nI i) (hcs : cells + 3 ≤ 601024 ∧ slots + 18 ≤ 7293034) (hl : lv_has ls 9 [(0, .ref b), (1, .ref aC), (2, .ref aX), (3, .ref aQ), (4, .int i4)]) (hI : LI s D cI cZ cS cJ aC aS aL aW aB aF aZ aK aM aO aT aY aV aU aR aQ aX aN aP aJ aI aG aD kQ H locs) (kk : ∀ (H1 : Heap) (locs1 : List Loc) (ls : Array Slot), LI s D cI cZ cS cJ aC aS aL aW aB aF aZ aK aM aO aT aY aV aU aR aQ aX aN aP aJ aI aG aD kQ H1 locs1 → lv_has ls 9 [(0, .ref b), (1, .ref aC), (2, .ref aX), (3, .ref aQ), (4, .int i4)] → W p l e room_1 s m #[Value.ref b] below meth c H1 locs1 (cells + 3) (slots + 18) Q (F0 m 1602 ls [])) : W p l e room_1 s m #[Value.ref b] below meth c H locs cells slots Q (F0 m 617 ls []) := by
  obtain ⟨hx, hb, hml, hown, hts, hXs, hbl, hK, hX, hZ, hY⟩ := C
  have hbA : ¬ lA s b := Nat.not_le.mpr hbl
  have S : CallFix p m c cL_law 9 s #[Value.ref b] lw_all RL := ⟨hx, hb, hml, hown, hts⟩
  obtain ⟨hc1, hc2⟩ := hcs
  obtain ⟨sr, wm, wW, bh, bF, bZ, bK, bM, ol, oS, kd, kf, kA, kV, kP, ms, ml, mt, mq, mu, mN, mP, mK, mI, mT, mD, f, hI, hP, hD, hS⟩ := hI
  obtain ⟨r, r6, z_mt, z_mq, z_mu, z_mD, hF5, hF6, hrr, hI⟩ := T_firstError hI kA mt mq mu mD
  have ht : ∀ B : Nat → Prop, va_D B ((W5x cI aC aS aL aW aB aF aZ aK aM aO aT aY sr wm wW bh bF bZ bK bM ol oS) ++ (HB cI cZ cS aY aV aU aR kd kf kA kV kQ kP)) → va_D B ((W5x cI aC aS aL aW aB aF aZ aK aM aO aT aY sr wm wW bh bF bZ bK bM ol oS) ++ (HB cI cZ cS aY aV aU aR kd kf kA kV kQ kP)) := tr_D cI cZ cS aC aS aL aW aB aF aZ aK aM aO aT aY aV aU aR kQ (Or.inl rfl)
  refine lv_aload_n hx hb dL_law_617 rfl (lv_at hl 1 rfl) ?_
  refine rcall (va_runV (As := []) (rest := []) S (K5_firstError l D cI cZ cS cJ aC aS aL aW aB aF aZ aK aM aO aT aY aV aU aR kQ sr wm wW bh bF bZ bK bM ol oS kd kf kA kV kP r  hF5) (cwV 0 hts (gd_V wd_197 wd_198 wd_199 wd_61 wd_200) rfl rfl rfl hd5_firstError ⟨Nat.le_of_ble_eq_true rfl, Nat.le_of_ble_eq_true rfl⟩) (rPreV hK (wP_l (wP_l hP)) (ci := 5) (q := (RX5, TX5, 3)) rfl rfl) rfl rfl hl.1 rfl (lv_room (Nat.le_of_ble_eq_true rfl)) dL_law_618 ⟨by show cells + 0 ≤ 601024; omega, by show slots + 0 ≤ 7293034; omega⟩) ?_
  refine lv_aload_n hx hb dL_law_621 rfl (lv_at hl 2 rfl) ?_
  refine ucallRi (Y' := (W6 cI aX aN aP aJ aI aG aD ms ml z_mt z_mq z_mu mN mP mK mI mT z_mD)) (va_runV (As := []) (rest := [.int r]) S (K6_firstError l D cI cZ cS cJ aX aN aP aJ aI aG aD ms ml mt mq mu mN mP mK mI mT mD r6 z_mt z_mq z_mu z_mD hF6) (cwV 0 hts (gd_V wd_953 wd_954 wd_955 wd_67 wd_956) rfl rfl rfl hd6_firstError ⟨Nat.le_of_ble_eq_true rfl, Nat.le_of_ble_eq_true rfl⟩) (uPreV2 hK (wP_r hP) (wD_r hD) (ci := 6) (q := (RX6, TX6, 11)) rfl rfl) rfl rfl hl.1 rfl (lv_room (Nat.le_of_ble_eq_true rfl)) dL_law_622 ⟨by show cells + 0 ≤ 601024; omega, by show slots + 0 ≤ 7293034; omega⟩) hS hP hD (fun H locs hP hS => ?_)
  have hD : va_D (lA s) ((((W5x cI aC aS aL aW aB aF aZ aK aM aO aT aY sr wm wW bh bF bZ bK bM ol oS) ++ (HB cI cZ cS aY aV aU aR kd kf kA kV kQ kP)) ++ [(aQ, .inl (cJ, 1, .inr (.inl f)))]) ++ (W6 cI aX aN aP aJ aI aG aD ms ml z_mt z_mq z_mu mN mP mK mI mT z_mD)) := wD_re2 hD rfl
  refine W.widen (k := cells + 3) (n := slots + 18) (by omega) (by omega) ?_
  exact lv_icmp_eq (tgt := 1602) hx hb dL_law_625 (by decide) (fun _ => kk H locs ls ⟨sr, wm, wW, bh, bF, bZ, bK, bM, ol, oS, kd, kf, kA, kV, kP, ms, ml, z_mt, z_mq, z_mu, mN, mP, mK, mI, mT, z_mD, f, hI, hP, hD, hS⟩ (lv_sub hl [0, 1, 2, 3, 4] rfl)) (fun h => absurd hrr h)
set_option maxHeartbeats 4000000 in
set_option maxRecDepth 100000 in
theorem C_execute (hfl : l.stackTraces = false) (C : LC p s m c b L xs D cI cZ cS cJ) {i : Nat} {i4 : Int32} (hi : i + 4 ≤ L) (hL : L ≤ 2048) (e4 : i4 = nI i) (hcs : cells + 3 ≤ 601024 ∧ slots + 18 ≤ 7293034) (hl : lv_has ls 9 [(0, .ref b), (1, .ref aC), (2, .ref aX), (3, .ref aQ), (4, .int i4)]) (hI : LI s D cI cZ cS cJ aC aS aL aW aB aF aZ aK aM aO aT aY aV aU aR aQ aX aN aP aJ aI aG aD kQ H locs) (kk : ∀ (H1 : Heap) (locs1 : List Loc) (ls : Array Slot), LI s D cI cZ cS cJ aC aS aL aW aB aF aZ aK aM aO aT aY aV aU aR aQ aX aN aP aJ aI aG aD kQ H1 locs1 → lv_has ls 9 [(0, .ref b), (1, .ref aC), (2, .ref aX), (3, .ref aQ), (4, .int i4)] → W p l e room_1 s m #[Value.ref b] below meth c H1 locs1 (cells + 3) (slots + 18) Q (F0 m 1602 ls [])) : W p l e room_1 s m #[Value.ref b] below meth c H locs cells slots Q (F0 m 630 ls []) := by
  obtain ⟨hx, hb, hml, hown, hts, hXs, hbl, hK, hX, hZ, hY⟩ := C
  have hbA : ¬ lA s b := Nat.not_le.mpr hbl
  have S : CallFix p m c cL_law 9 s #[Value.ref b] lw_all RL := ⟨hx, hb, hml, hown, hts⟩
  obtain ⟨hc1, hc2⟩ := hcs
  obtain ⟨sr, wm, wW, bh, bF, bZ, bK, bM, ol, oS, kd, kf, kA, kV, kP, ms, ml, mt, mq, mu, mN, mP, mK, mI, mT, mD, f, hI, hP, hD, hS⟩ := hI
  obtain ⟨k, r, z_sr, z_bh, z_bF, z_bZ, z_bK, z_bM, z_ol, z_kd, z_kA, z_kV, r6, z_ms, z_ml, z_mt, z_mq, z_mu, z_mN, z_mP, z_mD, hF5, hF6, hoc, hrr, hkA, hI⟩ := T_execute hI kA mt mq mu mD
  have ht : ∀ B : Nat → Prop, va_D B ((W5x cI aC aS aL aW aB aF aZ aK aM aO aT aY sr wm wW bh bF bZ bK bM ol oS) ++ (HB cI cZ cS aY aV aU aR kd kf kA kV kQ kP)) → va_D B ((W5x cI aC aS aL aW aB aF aZ aK aM aO aT aY z_sr wm wW z_bh z_bF z_bZ z_bK z_bM z_ol oS) ++ (HB cI cZ cS aY aV aU aR z_kd kf z_kA z_kV kQ kP)) := tr_D cI cZ cS aC aS aL aW aB aF aZ aK aM aO aT aY aV aU aR kQ hkA
  obtain ⟨f', hf0, hf1⟩ : ∃ f' : Nat → Int64, (k = 0 → f' = vp_updL f 0 r.toInt64) ∧ (k ≠ 0 → f' = f) := ⟨if k = 0 then vp_updL f 0 r.toInt64 else f, fun h => if_pos h, fun h => if_neg h⟩
  refine lv_aload_n hx hb dL_law_630 rfl (lv_at hl 1 rfl) ?_
  refine lv_aload_n hx hb dL_law_631 rfl (lv_at hl 3 rfl) ?_
  refine ucallLi (X' := (((W5x cI aC aS aL aW aB aF aZ aK aM aO aT aY z_sr wm wW z_bh z_bF z_bZ z_bK z_bM z_ol oS) ++ (HB cI cZ cS aY aV aU aR z_kd kf z_kA z_kV kQ kP)) ++ [(aQ, .inl (cJ, 1, .inr (.inl f')))])) (vx_runSW (As := [.ref aC, .ref aQ]) (rest := []) S (KL_execute l D cI cZ cS cJ aC aQ _ _ [.ref aS, .ref aY, .ref aO] rfl ht f f'  k r z_mt hoc hf0 hf1 (K5_execute l hfl D cI cZ cS cJ aC aS aL aW aB aF aZ aK aM aO aT aY aV aU aR kQ sr wm wW bh bF bZ bK bM ol oS kd kf kA kV kP  k r z_sr z_bh z_bF z_bZ z_bK z_bM z_ol z_kd z_kA z_kV hF5)) (vx_cwSW 2 hts (gd_SW wd_560 wd_561 wd_60 cwL_execute) rfl rfl rfl hdL_execute ⟨Nat.le_of_ble_eq_true rfl, Nat.le_of_ble_eq_true rfl⟩) (wPreS hK hX hZ hY hS (wP_l hP) (wD_l hD)) rfl rfl hl.1 rfl (lv_room (Nat.le_of_ble_eq_true rfl)) dL_law_632 ⟨by show cells + 1 ≤ 601024; omega, by show slots + 6 ≤ 7293034; omega⟩) hS hP hD (fun H locs hP hS => ?_)
  have hD : va_D (lA s) ((((W5x cI aC aS aL aW aB aF aZ aK aM aO aT aY z_sr wm wW z_bh z_bF z_bZ z_bK z_bM z_ol oS) ++ (HB cI cZ cS aY aV aU aR z_kd kf z_kA z_kV kQ kP)) ++ [(aQ, .inl (cJ, 1, .inr (.inl f')))]) ++ (W6 cI aX aN aP aJ aI aG aD ms ml mt mq mu mN mP mK mI mT mD)) := wD_re hD (fun B h => wD_re2 (wD_re h ht) rfl)
  refine W.widen (k := cells + 3) (n := slots + 18) (by show cells + 1 ≤ cells + 3; omega) (by show slots + 6 ≤ slots + 18; omega) ?_
  refine lv_istore (lv' := [(5, .int z_mt), (0, .ref b), (1, .ref aC), (2, .ref aX), (3, .ref aQ), (4, .int i4)]) hx hb dL_law_635 hl (by decide) rfl (fun ls hl => ?_)
  refine lv_aload_n hx hb dL_law_637 rfl (lv_at hl 3 rfl) ?_
  refine ucallRi (Y' := (W6 cI aX aN aP aJ aI aG aD z_ms z_ml z_mt z_mq z_mu z_mN z_mP mK mI mT z_mD)) (va_runV (As := []) (rest := []) S (K6_execute l D cI cZ cS cJ aX aN aP aJ aI aG aD ms ml mt mq mu mN mP mK mI mT mD  r6 z_ms z_ml z_mt z_mq z_mu z_mN z_mP z_mD hF6) (cwV 0 hts (gd_V wd_985 wd_986 wd_987 wd_67 wd_988) rfl rfl rfl hd6_execute ⟨Nat.le_of_ble_eq_true rfl, Nat.le_of_ble_eq_true rfl⟩) (uPreV2 hK (wP_r hP) (wD_r hD) (ci := 6) (q := (RX6, TX6, 11)) rfl rfl) rfl rfl hl.1 rfl (lv_room (Nat.le_of_ble_eq_true rfl)) dL_law_638 ⟨by show cells + 3 + 0 ≤ 601024; omega, by show slots + 18 + 0 ≤ 7293034; omega⟩) hS hP hD (fun H locs hP hS => ?_)
  have hD : va_D (lA s) ((((W5x cI aC aS aL aW aB aF aZ aK aM aO aT aY z_sr wm wW z_bh z_bF z_bZ z_bK z_bM z_ol oS) ++ (HB cI cZ cS aY aV aU aR z_kd kf z_kA z_kV kQ kP)) ++ [(aQ, .inl (cJ, 1, .inr (.inl f')))]) ++ (W6 cI aX aN aP aJ aI aG aD z_ms z_ml z_mt z_mq z_mu z_mN z_mP mK mI mT z_mD)) := wD_re2 hD rfl
  refine lv_istore (lv' := [(6, .int r6), (5, .int z_mt), (0, .ref b), (1, .ref aC), (2, .ref aX), (3, .ref aQ), (4, .int i4)]) hx hb dL_law_641 hl (by decide) rfl (fun ls hl => ?_)
  refine lv_aload_n hx hb dL_law_643 rfl (lv_at hl 4 rfl) ?_
  refine rcall (va_runV (As := []) (rest := []) S (K6_thrown l D cI cZ cS cJ aX aN aP aJ aI aG aD z_ms z_ml z_mt z_mq z_mu z_mN z_mP mK mI mT z_mD z_mt rfl) (cwV 0 hts (gd_V wd_845 wd_846 wd_847 wd_67 wd_848) rfl rfl rfl hd6_thrown ⟨Nat.le_of_ble_eq_true rfl, Nat.le_of_ble_eq_true rfl⟩) (rPreV hK (wP_r hP) (ci := 6) (q := (RX6, TX6, 11)) rfl rfl) rfl rfl hl.1 rfl (lv_room (Nat.le_of_ble_eq_true rfl)) dL_law_644 ⟨by show cells + 3 + 0 ≤ 601024; omega, by show slots + 18 + 0 ≤ 7293034; omega⟩) ?_
  refine lv_iload hx hb dL_law_647 (lv_at hl 1 rfl) ?_
  refine lv_icmp_eq (tgt := 654) hx hb dL_law_649 (by decide) (fun _ => ?_) (fun h => absurd rfl h)
  refine lv_iload hx hb dL_law_654 (lv_at hl 1 rfl) ?_
  have fin : W p l e room_1 s m #[Value.ref b] below meth c H locs (cells + 3 + 0) (slots + 18 + 0) Q (F0 m 671 ls []) := by
    refine lv_goto (tgt := 1602) hx hb dL_law_671 (by decide) ?_
    exact kk H locs ls ⟨z_sr, wm, wW, z_bh, z_bF, z_bZ, z_bK, z_bM, z_ol, oS, z_kd, kf, z_kA, z_kV, kP, z_ms, z_ml, z_mt, z_mq, z_mu, z_mN, z_mP, mK, mI, mT, z_mD, f', hI, hP, hD, hS⟩ (lv_sub hl [2, 3, 4, 5, 6] rfl)
  refine lv_if_ne (tgt := 671) hx hb dL_law_656 (by decide) (fun _ => fin) (fun h0 => ?_)
  have hk0 : k = 0 := oc1_0 hoc h0
  refine lv_aload_n hx hb dL_law_659 rfl (lv_at hl 5 rfl) ?_
  refine lv_iconst (v := 0) hx hb dL_law_660 (by decide) ?_
  refine va_lald hx hb hK.1 (wP_l hP) (((W5x cI aC aS aL aW aB aF aZ aK aM aO aT aY z_sr wm wW z_bh z_bF z_bZ z_bK z_bM z_ol oS) ++ (HB cI cZ cS aY aV aU aR z_kd kf z_kA z_kV kQ kP))).length 3 (get_last _ _) rfl (i := 0) (by unfold vp_in; decide) dL_law_661 ?_
  refine lv_iload hx hb dL_law_662 (lv_at hl 0 rfl) ?_
  refine lv_i2l hx hb dL_law_664 rfl ?_
  refine l_lcmp hx hb (by rw [hf0 hk0, hrr hk0]; exact if_pos rfl) dL_law_665 ?_
  exact lv_if_eq (tgt := 671) hx hb dL_law_666 (by decide) (fun _ => fin) (fun h => absurd rfl h)
set_option maxHeartbeats 4000000 in
set_option maxRecDepth 100000 in
theorem C_undo (hfl : l.stackTraces = false) (C : LC p s m c b L xs D cI cZ cS cJ) {i : Nat} {i4 : Int32} (hi : i + 4 ≤ L) (hL : L ≤ 2048) (e4 : i4 = nI i) (hcs : cells + 3 ≤ 601024 ∧ slots + 18 ≤ 7293034) (hl : lv_has ls 9 [(0, .ref b), (1, .ref aC), (2, .ref aX), (3, .ref aQ), (4, .int i4)]) (hI : LI s D cI cZ cS cJ aC aS aL aW aB aF aZ aK aM aO aT aY aV aU aR aQ aX aN aP aJ aI aG aD kQ H locs) (kk : ∀ (H1 : Heap) (locs1 : List Loc) (ls : Array Slot), LI s D cI cZ cS cJ aC aS aL aW aB aF aZ aK aM aO aT aY aV aU aR aQ aX aN aP aJ aI aG aD kQ H1 locs1 → lv_has ls 9 [(0, .ref b), (1, .ref aC), (2, .ref aX), (3, .ref aQ), (4, .int i4)] → W p l e room_1 s m #[Value.ref b] below meth c H1 locs1 (cells + 3) (slots + 18) Q (F0 m 1602 ls [])) : W p l e room_1 s m #[Value.ref b] below meth c H locs cells slots Q (F0 m 674 ls []) := by
  obtain ⟨hx, hb, hml, hown, hts, hXs, hbl, hK, hX, hZ, hY⟩ := C
  have hbA : ¬ lA s b := Nat.not_le.mpr hbl
  have S : CallFix p m c cL_law 9 s #[Value.ref b] lw_all RL := ⟨hx, hb, hml, hown, hts⟩
  obtain ⟨hc1, hc2⟩ := hcs
  obtain ⟨sr, wm, wW, bh, bF, bZ, bK, bM, ol, oS, kd, kf, kA, kV, kP, ms, ml, mt, mq, mu, mN, mP, mK, mI, mT, mD, f, hI, hP, hD, hS⟩ := hI
  obtain ⟨k, r, z_sr, z_wm, z_wW, z_bh, z_bF, z_bZ, z_bK, z_bM, z_kd, r6, z_ms, z_mt, z_mN, hF5, hF6, hoc, hrr, hI⟩ := T_undo hI kA mt
  have ht : ∀ B : Nat → Prop, va_D B ((W5x cI aC aS aL aW aB aF aZ aK aM aO aT aY sr wm wW bh bF bZ bK bM ol oS) ++ (HB cI cZ cS aY aV aU aR kd kf kA kV kQ kP)) → va_D B ((W5x cI aC aS aL aW aB aF aZ aK aM aO aT aY z_sr z_wm z_wW z_bh z_bF z_bZ z_bK z_bM ol oS) ++ (HB cI cZ cS aY aV aU aR z_kd kf kA kV kQ kP)) := tr_D cI cZ cS aC aS aL aW aB aF aZ aK aM aO aT aY aV aU aR kQ (Or.inl rfl)
  obtain ⟨f', hf0, hf1⟩ : ∃ f' : Nat → Int64, (k = 0 → f' = vp_updL f 0 r.toInt64) ∧ (k ≠ 0 → f' = f) := ⟨if k = 0 then vp_updL f 0 r.toInt64 else f, fun h => if_pos h, fun h => if_neg h⟩
  refine lv_aload_n hx hb dL_law_674 rfl (lv_at hl 1 rfl) ?_
  refine lv_aload_n hx hb dL_law_675 rfl (lv_at hl 3 rfl) ?_
  refine ucallLi (X' := (((W5x cI aC aS aL aW aB aF aZ aK aM aO aT aY z_sr z_wm z_wW z_bh z_bF z_bZ z_bK z_bM ol oS) ++ (HB cI cZ cS aY aV aU aR z_kd kf kA kV kQ kP)) ++ [(aQ, .inl (cJ, 1, .inr (.inl f')))])) (vx_runSW (As := [.ref aC, .ref aQ]) (rest := []) S (KL_undo l D cI cZ cS cJ aC aQ _ _ [.ref aS, .ref aY, .ref aO] rfl ht f f'  k r z_mt hoc hf0 hf1 (K5_undo l hfl D cI cZ cS cJ aC aS aL aW aB aF aZ aK aM aO aT aY aV aU aR kQ sr wm wW bh bF bZ bK bM ol oS kd kf kA kV kP  k r z_sr z_wm z_wW z_bh z_bF z_bZ z_bK z_bM z_kd hF5)) (vx_cwSW 2 hts (gd_SW wd_595 wd_596 wd_60 cwL_undo) rfl rfl rfl hdL_undo ⟨Nat.le_of_ble_eq_true rfl, Nat.le_of_ble_eq_true rfl⟩) (wPreS hK hX hZ hY hS (wP_l hP) (wD_l hD)) rfl rfl hl.1 rfl (lv_room (Nat.le_of_ble_eq_true rfl)) dL_law_676 ⟨by show cells + 1 ≤ 601024; omega, by show slots + 6 ≤ 7293034; omega⟩) hS hP hD (fun H locs hP hS => ?_)
  have hD : va_D (lA s) ((((W5x cI aC aS aL aW aB aF aZ aK aM aO aT aY z_sr z_wm z_wW z_bh z_bF z_bZ z_bK z_bM ol oS) ++ (HB cI cZ cS aY aV aU aR z_kd kf kA kV kQ kP)) ++ [(aQ, .inl (cJ, 1, .inr (.inl f')))]) ++ (W6 cI aX aN aP aJ aI aG aD ms ml mt mq mu mN mP mK mI mT mD)) := wD_re hD (fun B h => wD_re2 (wD_re h ht) rfl)
  refine W.widen (k := cells + 3) (n := slots + 18) (by show cells + 1 ≤ cells + 3; omega) (by show slots + 6 ≤ slots + 18; omega) ?_
  refine lv_istore (lv' := [(5, .int z_mt), (0, .ref b), (1, .ref aC), (2, .ref aX), (3, .ref aQ), (4, .int i4)]) hx hb dL_law_679 hl (by decide) rfl (fun ls hl => ?_)
  refine lv_aload_n hx hb dL_law_681 rfl (lv_at hl 3 rfl) ?_
  refine ucallRi (Y' := (W6 cI aX aN aP aJ aI aG aD z_ms ml z_mt mq mu z_mN mP mK mI mT mD)) (va_runV (As := []) (rest := []) S (K6_undo l D cI cZ cS cJ aX aN aP aJ aI aG aD ms ml mt mq mu mN mP mK mI mT mD  r6 z_ms z_mt z_mN hF6) (cwV 0 hts (gd_V wd_993 wd_994 wd_995 wd_67 wd_996) rfl rfl rfl hd6_undo ⟨Nat.le_of_ble_eq_true rfl, Nat.le_of_ble_eq_true rfl⟩) (uPreV2 hK (wP_r hP) (wD_r hD) (ci := 6) (q := (RX6, TX6, 11)) rfl rfl) rfl rfl hl.1 rfl (lv_room (Nat.le_of_ble_eq_true rfl)) dL_law_682 ⟨by show cells + 3 + 0 ≤ 601024; omega, by show slots + 18 + 0 ≤ 7293034; omega⟩) hS hP hD (fun H locs hP hS => ?_)
  have hD : va_D (lA s) ((((W5x cI aC aS aL aW aB aF aZ aK aM aO aT aY z_sr z_wm z_wW z_bh z_bF z_bZ z_bK z_bM ol oS) ++ (HB cI cZ cS aY aV aU aR z_kd kf kA kV kQ kP)) ++ [(aQ, .inl (cJ, 1, .inr (.inl f')))]) ++ (W6 cI aX aN aP aJ aI aG aD z_ms ml z_mt mq mu z_mN mP mK mI mT mD)) := wD_re2 hD rfl
  refine lv_istore (lv' := [(6, .int r6), (5, .int z_mt), (0, .ref b), (1, .ref aC), (2, .ref aX), (3, .ref aQ), (4, .int i4)]) hx hb dL_law_685 hl (by decide) rfl (fun ls hl => ?_)
  refine lv_aload_n hx hb dL_law_687 rfl (lv_at hl 4 rfl) ?_
  refine rcall (va_runV (As := []) (rest := []) S (K6_thrown l D cI cZ cS cJ aX aN aP aJ aI aG aD z_ms ml z_mt mq mu z_mN mP mK mI mT mD z_mt rfl) (cwV 0 hts (gd_V wd_845 wd_846 wd_847 wd_67 wd_848) rfl rfl rfl hd6_thrown ⟨Nat.le_of_ble_eq_true rfl, Nat.le_of_ble_eq_true rfl⟩) (rPreV hK (wP_r hP) (ci := 6) (q := (RX6, TX6, 11)) rfl rfl) rfl rfl hl.1 rfl (lv_room (Nat.le_of_ble_eq_true rfl)) dL_law_688 ⟨by show cells + 3 + 0 ≤ 601024; omega, by show slots + 18 + 0 ≤ 7293034; omega⟩) ?_
  refine lv_iload hx hb dL_law_691 (lv_at hl 1 rfl) ?_
  refine lv_icmp_eq (tgt := 698) hx hb dL_law_693 (by decide) (fun _ => ?_) (fun h => absurd rfl h)
  refine lv_iload hx hb dL_law_698 (lv_at hl 1 rfl) ?_
  have fin : W p l e room_1 s m #[Value.ref b] below meth c H locs (cells + 3 + 0) (slots + 18 + 0) Q (F0 m 715 ls []) := by
    refine lv_goto (tgt := 1602) hx hb dL_law_715 (by decide) ?_
    exact kk H locs ls ⟨z_sr, z_wm, z_wW, z_bh, z_bF, z_bZ, z_bK, z_bM, ol, oS, z_kd, kf, kA, kV, kP, z_ms, ml, z_mt, mq, mu, z_mN, mP, mK, mI, mT, mD, f', hI, hP, hD, hS⟩ (lv_sub hl [2, 3, 4, 5, 6] rfl)
  refine lv_if_ne (tgt := 715) hx hb dL_law_700 (by decide) (fun _ => fin) (fun h0 => ?_)
  have hk0 : k = 0 := oc1_0 hoc h0
  refine lv_aload_n hx hb dL_law_703 rfl (lv_at hl 5 rfl) ?_
  refine lv_iconst (v := 0) hx hb dL_law_704 (by decide) ?_
  refine va_lald hx hb hK.1 (wP_l hP) (((W5x cI aC aS aL aW aB aF aZ aK aM aO aT aY z_sr z_wm z_wW z_bh z_bF z_bZ z_bK z_bM ol oS) ++ (HB cI cZ cS aY aV aU aR z_kd kf kA kV kQ kP))).length 3 (get_last _ _) rfl (i := 0) (by unfold vp_in; decide) dL_law_705 ?_
  refine lv_iload hx hb dL_law_706 (lv_at hl 0 rfl) ?_
  refine lv_i2l hx hb dL_law_708 rfl ?_
  refine l_lcmp hx hb (by rw [hf0 hk0, hrr hk0]; exact if_pos rfl) dL_law_709 ?_
  exact lv_if_eq (tgt := 715) hx hb dL_law_710 (by decide) (fun _ => fin) (fun h => absurd rfl h)
set_option maxHeartbeats 4000000 in
set_option maxRecDepth 100000 in
theorem C_keep (hfl : l.stackTraces = false) (C : LC p s m c b L xs D cI cZ cS cJ) {i : Nat} {i4 : Int32} (hi : i + 4 ≤ L) (hL : L ≤ 2048) (e4 : i4 = nI i) (hcs : cells + 3 ≤ 601024 ∧ slots + 18 ≤ 7293034) (hl : lv_has ls 9 [(0, .ref b), (1, .ref aC), (2, .ref aX), (3, .ref aQ), (4, .int i4)]) (hI : LI s D cI cZ cS cJ aC aS aL aW aB aF aZ aK aM aO aT aY aV aU aR aQ aX aN aP aJ aI aG aD kQ H locs) (kk : ∀ (H1 : Heap) (locs1 : List Loc) (ls : Array Slot), LI s D cI cZ cS cJ aC aS aL aW aB aF aZ aK aM aO aT aY aV aU aR aQ aX aN aP aJ aI aG aD kQ H1 locs1 → lv_has ls 9 [(0, .ref b), (1, .ref aC), (2, .ref aX), (3, .ref aQ), (4, .int i4)] → W p l e room_1 s m #[Value.ref b] below meth c H1 locs1 (cells + 3) (slots + 18) Q (F0 m 1602 ls [])) : W p l e room_1 s m #[Value.ref b] below meth c H locs cells slots Q (F0 m 718 ls []) := by
  obtain ⟨hx, hb, hml, hown, hts, hXs, hbl, hK, hX, hZ, hY⟩ := C
  have hbA : ¬ lA s b := Nat.not_le.mpr hbl
  have S : CallFix p m c cL_law 9 s #[Value.ref b] lw_all RL := ⟨hx, hb, hml, hown, hts⟩
  obtain ⟨hc1, hc2⟩ := hcs
  have n1 : vp_in (i4 + 1) L := by rw [e4]; exact in_arg (j := 1) (by omega) hL
  obtain ⟨sr, wm, wW, bh, bF, bZ, bK, bM, ol, oS, kd, kf, kA, kV, kP, ms, ml, mt, mq, mu, mN, mP, mK, mI, mT, mD, f, hI, hP, hD, hS⟩ := hI
  obtain ⟨k, r, z_kf, z_kP, r6, z_mt, z_mK, z_mI, hF5, hF6, hoc, hrr, hI⟩ := T_keep hI kA mt (xs (i4 + 1).toNatClampNeg)
  have ht : ∀ B : Nat → Prop, va_D B ((W5x cI aC aS aL aW aB aF aZ aK aM aO aT aY sr wm wW bh bF bZ bK bM ol oS) ++ (HB cI cZ cS aY aV aU aR kd kf kA kV kQ kP)) → va_D B ((W5x cI aC aS aL aW aB aF aZ aK aM aO aT aY sr wm wW bh bF bZ bK bM ol oS) ++ (HB cI cZ cS aY aV aU aR kd z_kf kA kV kQ z_kP)) := tr_D cI cZ cS aC aS aL aW aB aF aZ aK aM aO aT aY aV aU aR kQ (Or.inl rfl)
  obtain ⟨f', hf0, hf1⟩ : ∃ f' : Nat → Int64, (k = 0 → f' = vp_updL f 0 r.toInt64) ∧ (k ≠ 0 → f' = f) := ⟨if k = 0 then vp_updL f 0 r.toInt64 else f, fun h => if_pos h, fun h => if_neg h⟩
  refine lv_aload_n hx hb dL_law_718 rfl (lv_at hl 1 rfl) ?_
  refine lv_aload_n hx hb dL_law_719 rfl (lv_at hl 0 rfl) ?_
  refine lv_iload hx hb dL_law_720 (lv_at hl 4 rfl) ?_
  refine lv_iconst (v := 1) hx hb dL_law_722 (by decide) ?_
  refine lv_iadd hx hb dL_law_723 ?_
  refine va_sld hx hb hXs hbl hbA hS n1 dL_law_724 ?_
  refine lv_aload_n hx hb dL_law_725 rfl (lv_at hl 3 rfl) ?_
  refine ucallLi (X' := (((W5x cI aC aS aL aW aB aF aZ aK aM aO aT aY sr wm wW bh bF bZ bK bM ol oS) ++ (HB cI cZ cS aY aV aU aR kd z_kf kA kV kQ z_kP)) ++ [(aQ, .inl (cJ, 1, .inr (.inl f')))])) (vx_runSW (As := [.ref aC, .int (xs (i4 + 1).toNatClampNeg), .ref aQ]) (rest := []) S (KL_keep l D cI cZ cS cJ aC aQ _ _ [.ref aS, .ref aY, .ref aO] rfl ht f f' (xs (i4 + 1).toNatClampNeg) k r z_mt hoc hf0 hf1 (K5_keep l hfl D cI cZ cS cJ aC aS aL aW aB aF aZ aK aM aO aT aY aV aU aR kQ sr wm wW bh bF bZ bK bM ol oS kd kf kA kV kP (xs (i4 + 1).toNatClampNeg) k r z_kf z_kP hF5)) (vx_cwSW 3 hts (gd_SW wd_607 wd_608 wd_60 cwL_keep) rfl rfl rfl hdL_keep ⟨Nat.le_of_ble_eq_true rfl, Nat.le_of_ble_eq_true rfl⟩) (wPreS hK hX hZ hY hS (wP_l hP) (wD_l hD)) rfl rfl hl.1 rfl (lv_room (Nat.le_of_ble_eq_true rfl)) dL_law_726 ⟨by show cells + 1 ≤ 601024; omega, by show slots + 6 ≤ 7293034; omega⟩) hS hP hD (fun H locs hP hS => ?_)
  have hD : va_D (lA s) ((((W5x cI aC aS aL aW aB aF aZ aK aM aO aT aY sr wm wW bh bF bZ bK bM ol oS) ++ (HB cI cZ cS aY aV aU aR kd z_kf kA kV kQ z_kP)) ++ [(aQ, .inl (cJ, 1, .inr (.inl f')))]) ++ (W6 cI aX aN aP aJ aI aG aD ms ml mt mq mu mN mP mK mI mT mD)) := wD_re hD (fun B h => wD_re2 (wD_re h ht) rfl)
  refine W.widen (k := cells + 3) (n := slots + 18) (by show cells + 1 ≤ cells + 3; omega) (by show slots + 6 ≤ slots + 18; omega) ?_
  refine lv_istore (lv' := [(5, .int z_mt), (0, .ref b), (1, .ref aC), (2, .ref aX), (3, .ref aQ), (4, .int i4)]) hx hb dL_law_729 hl (by decide) rfl (fun ls hl => ?_)
  refine lv_aload_n hx hb dL_law_731 rfl (lv_at hl 3 rfl) ?_
  refine lv_aload_n hx hb dL_law_732 rfl (lv_at hl 1 rfl) ?_
  refine lv_iload hx hb dL_law_733 (lv_at hl 5 rfl) ?_
  refine lv_iconst (v := 1) hx hb dL_law_735 (by decide) ?_
  refine lv_iadd hx hb dL_law_736 ?_
  refine va_sld hx hb hXs hbl hbA hS n1 dL_law_737 ?_
  refine ucallRi (Y' := (W6 cI aX aN aP aJ aI aG aD ms ml z_mt mq mu mN mP z_mK z_mI mT mD)) (va_runV (As := [.int (xs (i4 + 1).toNatClampNeg)]) (rest := []) S (K6_keep l D cI cZ cS cJ aX aN aP aJ aI aG aD ms ml mt mq mu mN mP mK mI mT mD (xs (i4 + 1).toNatClampNeg) r6 z_mt z_mK z_mI hF6) (cwV 1 hts (gd_V wd_997 wd_998 wd_999 wd_67 wd_1000) rfl rfl rfl hd6_keep ⟨Nat.le_of_ble_eq_true rfl, Nat.le_of_ble_eq_true rfl⟩) (uPreV2 hK (wP_r hP) (wD_r hD) (ci := 6) (q := (RX6, TX6, 11)) rfl rfl) rfl rfl hl.1 rfl (lv_room (Nat.le_of_ble_eq_true rfl)) dL_law_738 ⟨by show cells + 3 + 0 ≤ 601024; omega, by show slots + 18 + 0 ≤ 7293034; omega⟩) hS hP hD (fun H locs hP hS => ?_)
  have hD : va_D (lA s) ((((W5x cI aC aS aL aW aB aF aZ aK aM aO aT aY sr wm wW bh bF bZ bK bM ol oS) ++ (HB cI cZ cS aY aV aU aR kd z_kf kA kV kQ z_kP)) ++ [(aQ, .inl (cJ, 1, .inr (.inl f')))]) ++ (W6 cI aX aN aP aJ aI aG aD ms ml z_mt mq mu mN mP z_mK z_mI mT mD)) := wD_re2 hD rfl
  refine lv_istore (lv' := [(6, .int r6), (5, .int z_mt), (0, .ref b), (1, .ref aC), (2, .ref aX), (3, .ref aQ), (4, .int i4)]) hx hb dL_law_741 hl (by decide) rfl (fun ls hl => ?_)
  refine lv_aload_n hx hb dL_law_743 rfl (lv_at hl 4 rfl) ?_
  refine rcall (va_runV (As := []) (rest := []) S (K6_thrown l D cI cZ cS cJ aX aN aP aJ aI aG aD ms ml z_mt mq mu mN mP z_mK z_mI mT mD z_mt rfl) (cwV 0 hts (gd_V wd_845 wd_846 wd_847 wd_67 wd_848) rfl rfl rfl hd6_thrown ⟨Nat.le_of_ble_eq_true rfl, Nat.le_of_ble_eq_true rfl⟩) (rPreV hK (wP_r hP) (ci := 6) (q := (RX6, TX6, 11)) rfl rfl) rfl rfl hl.1 rfl (lv_room (Nat.le_of_ble_eq_true rfl)) dL_law_744 ⟨by show cells + 3 + 0 ≤ 601024; omega, by show slots + 18 + 0 ≤ 7293034; omega⟩) ?_
  refine lv_iload hx hb dL_law_747 (lv_at hl 1 rfl) ?_
  refine lv_icmp_eq (tgt := 754) hx hb dL_law_749 (by decide) (fun _ => ?_) (fun h => absurd rfl h)
  refine lv_iload hx hb dL_law_754 (lv_at hl 1 rfl) ?_
  have fin : W p l e room_1 s m #[Value.ref b] below meth c H locs (cells + 3 + 0) (slots + 18 + 0) Q (F0 m 771 ls []) := by
    refine lv_goto (tgt := 1602) hx hb dL_law_771 (by decide) ?_
    exact kk H locs ls ⟨sr, wm, wW, bh, bF, bZ, bK, bM, ol, oS, kd, z_kf, kA, kV, z_kP, ms, ml, z_mt, mq, mu, mN, mP, z_mK, z_mI, mT, mD, f', hI, hP, hD, hS⟩ (lv_sub hl [2, 3, 4, 5, 6] rfl)
  refine lv_if_ne (tgt := 771) hx hb dL_law_756 (by decide) (fun _ => fin) (fun h0 => ?_)
  have hk0 : k = 0 := oc1_0 hoc h0
  refine lv_aload_n hx hb dL_law_759 rfl (lv_at hl 5 rfl) ?_
  refine lv_iconst (v := 0) hx hb dL_law_760 (by decide) ?_
  refine va_lald hx hb hK.1 (wP_l hP) (((W5x cI aC aS aL aW aB aF aZ aK aM aO aT aY sr wm wW bh bF bZ bK bM ol oS) ++ (HB cI cZ cS aY aV aU aR kd z_kf kA kV kQ z_kP))).length 3 (get_last _ _) rfl (i := 0) (by unfold vp_in; decide) dL_law_761 ?_
  refine lv_iload hx hb dL_law_762 (lv_at hl 0 rfl) ?_
  refine lv_i2l hx hb dL_law_764 rfl ?_
  refine l_lcmp hx hb (by rw [hf0 hk0, hrr hk0]; exact if_pos rfl) dL_law_765 ?_
  exact lv_if_eq (tgt := 771) hx hb dL_law_766 (by decide) (fun _ => fin) (fun h => absurd rfl h)
set_option maxHeartbeats 4000000 in
set_option maxRecDepth 100000 in
theorem C_goBack (hfl : l.stackTraces = false) (C : LC p s m c b L xs D cI cZ cS cJ) {i : Nat} {i4 : Int32} (hi : i + 4 ≤ L) (hL : L ≤ 2048) (e4 : i4 = nI i) (hcs : cells + 3 ≤ 601024 ∧ slots + 18 ≤ 7293034) (hl : lv_has ls 9 [(0, .ref b), (1, .ref aC), (2, .ref aX), (3, .ref aQ), (4, .int i4)]) (hI : LI s D cI cZ cS cJ aC aS aL aW aB aF aZ aK aM aO aT aY aV aU aR aQ aX aN aP aJ aI aG aD kQ H locs) (kk : ∀ (H1 : Heap) (locs1 : List Loc) (ls : Array Slot), LI s D cI cZ cS cJ aC aS aL aW aB aF aZ aK aM aO aT aY aV aU aR aQ aX aN aP aJ aI aG aD kQ H1 locs1 → lv_has ls 9 [(0, .ref b), (1, .ref aC), (2, .ref aX), (3, .ref aQ), (4, .int i4)] → W p l e room_1 s m #[Value.ref b] below meth c H1 locs1 (cells + 3) (slots + 18) Q (F0 m 1602 ls [])) : W p l e room_1 s m #[Value.ref b] below meth c H locs cells slots Q (F0 m 774 ls []) := by
  obtain ⟨hx, hb, hml, hown, hts, hXs, hbl, hK, hX, hZ, hY⟩ := C
  have hbA : ¬ lA s b := Nat.not_le.mpr hbl
  have S : CallFix p m c cL_law 9 s #[Value.ref b] lw_all RL := ⟨hx, hb, hml, hown, hts⟩
  obtain ⟨hc1, hc2⟩ := hcs
  have n1 : vp_in (i4 + 1) L := by rw [e4]; exact in_arg (j := 1) (by omega) hL
  obtain ⟨sr, wm, wW, bh, bF, bZ, bK, bM, ol, oS, kd, kf, kA, kV, kP, ms, ml, mt, mq, mu, mN, mP, mK, mI, mT, mD, f, hI, hP, hD, hS⟩ := hI
  obtain ⟨k, r, z_sr, z_wm, z_wW, z_bh, z_bF, z_bZ, z_bK, z_bM, z_kd, z_kA, z_kV, r6, z_ms, z_mt, z_mN, z_mP, hF5, hF6, hoc, hrr, hkA, hI⟩ := T_goBack hI kA mt (xs (i4 + 1).toNatClampNeg)
  have ht : ∀ B : Nat → Prop, va_D B ((W5x cI aC aS aL aW aB aF aZ aK aM aO aT aY sr wm wW bh bF bZ bK bM ol oS) ++ (HB cI cZ cS aY aV aU aR kd kf kA kV kQ kP)) → va_D B ((W5x cI aC aS aL aW aB aF aZ aK aM aO aT aY z_sr z_wm z_wW z_bh z_bF z_bZ z_bK z_bM ol oS) ++ (HB cI cZ cS aY aV aU aR z_kd kf z_kA z_kV kQ kP)) := tr_D cI cZ cS aC aS aL aW aB aF aZ aK aM aO aT aY aV aU aR kQ hkA
  obtain ⟨f', hf0, hf1⟩ : ∃ f' : Nat → Int64, (k = 0 → f' = vp_updL f 0 r.toInt64) ∧ (k ≠ 0 → f' = f) := ⟨if k = 0 then vp_updL f 0 r.toInt64 else f, fun h => if_pos h, fun h => if_neg h⟩
  refine lv_aload_n hx hb dL_law_774 rfl (lv_at hl 1 rfl) ?_
  refine lv_aload_n hx hb dL_law_775 rfl (lv_at hl 0 rfl) ?_
  refine lv_iload hx hb dL_law_776 (lv_at hl 4 rfl) ?_
  refine lv_iconst (v := 1) hx hb dL_law_778 (by decide) ?_
  refine lv_iadd hx hb dL_law_779 ?_
  refine va_sld hx hb hXs hbl hbA hS n1 dL_law_780 ?_
  refine lv_aload_n hx hb dL_law_781 rfl (lv_at hl 3 rfl) ?_
  refine ucallLi (X' := (((W5x cI aC aS aL aW aB aF aZ aK aM aO aT aY z_sr z_wm z_wW z_bh z_bF z_bZ z_bK z_bM ol oS) ++ (HB cI cZ cS aY aV aU aR z_kd kf z_kA z_kV kQ kP)) ++ [(aQ, .inl (cJ, 1, .inr (.inl f')))])) (vx_runSW (As := [.ref aC, .int (xs (i4 + 1).toNatClampNeg), .ref aQ]) (rest := []) S (KL_goBack l D cI cZ cS cJ aC aQ _ _ [.ref aS, .ref aY, .ref aO] rfl ht f f' (xs (i4 + 1).toNatClampNeg) k r z_mt hoc hf0 hf1 (K5_goBack l hfl D cI cZ cS cJ aC aS aL aW aB aF aZ aK aM aO aT aY aV aU aR kQ sr wm wW bh bF bZ bK bM ol oS kd kf kA kV kP (xs (i4 + 1).toNatClampNeg) k r z_sr z_wm z_wW z_bh z_bF z_bZ z_bK z_bM z_kd z_kA z_kV hF5)) (vx_cwSW 3 hts (gd_SW wd_622 wd_623 wd_60 cwL_goBack) rfl rfl rfl hdL_goBack ⟨Nat.le_of_ble_eq_true rfl, Nat.le_of_ble_eq_true rfl⟩) (wPreS hK hX hZ hY hS (wP_l hP) (wD_l hD)) rfl rfl hl.1 rfl (lv_room (Nat.le_of_ble_eq_true rfl)) dL_law_782 ⟨by show cells + 2 ≤ 601024; omega, by show slots + 12 ≤ 7293034; omega⟩) hS hP hD (fun H locs hP hS => ?_)
  have hD : va_D (lA s) ((((W5x cI aC aS aL aW aB aF aZ aK aM aO aT aY z_sr z_wm z_wW z_bh z_bF z_bZ z_bK z_bM ol oS) ++ (HB cI cZ cS aY aV aU aR z_kd kf z_kA z_kV kQ kP)) ++ [(aQ, .inl (cJ, 1, .inr (.inl f')))]) ++ (W6 cI aX aN aP aJ aI aG aD ms ml mt mq mu mN mP mK mI mT mD)) := wD_re hD (fun B h => wD_re2 (wD_re h ht) rfl)
  refine W.widen (k := cells + 3) (n := slots + 18) (by show cells + 2 ≤ cells + 3; omega) (by show slots + 12 ≤ slots + 18; omega) ?_
  refine lv_istore (lv' := [(5, .int z_mt), (0, .ref b), (1, .ref aC), (2, .ref aX), (3, .ref aQ), (4, .int i4)]) hx hb dL_law_785 hl (by decide) rfl (fun ls hl => ?_)
  refine lv_aload_n hx hb dL_law_787 rfl (lv_at hl 3 rfl) ?_
  refine lv_aload_n hx hb dL_law_788 rfl (lv_at hl 1 rfl) ?_
  refine lv_iload hx hb dL_law_789 (lv_at hl 5 rfl) ?_
  refine lv_iconst (v := 1) hx hb dL_law_791 (by decide) ?_
  refine lv_iadd hx hb dL_law_792 ?_
  refine va_sld hx hb hXs hbl hbA hS n1 dL_law_793 ?_
  refine ucallRi (Y' := (W6 cI aX aN aP aJ aI aG aD z_ms ml z_mt mq mu z_mN z_mP mK mI mT mD)) (va_runV (As := [.int (xs (i4 + 1).toNatClampNeg)]) (rest := []) S (K6_goBack l D cI cZ cS cJ aX aN aP aJ aI aG aD ms ml mt mq mu mN mP mK mI mT mD (xs (i4 + 1).toNatClampNeg) r6 z_ms z_mt z_mN z_mP hF6) (cwV 1 hts (gd_V wd_1001 wd_1002 wd_1003 wd_67 wd_1004) rfl rfl rfl hd6_goBack ⟨Nat.le_of_ble_eq_true rfl, Nat.le_of_ble_eq_true rfl⟩) (uPreV2 hK (wP_r hP) (wD_r hD) (ci := 6) (q := (RX6, TX6, 11)) rfl rfl) rfl rfl hl.1 rfl (lv_room (Nat.le_of_ble_eq_true rfl)) dL_law_794 ⟨by show cells + 3 + 0 ≤ 601024; omega, by show slots + 18 + 0 ≤ 7293034; omega⟩) hS hP hD (fun H locs hP hS => ?_)
  have hD : va_D (lA s) ((((W5x cI aC aS aL aW aB aF aZ aK aM aO aT aY z_sr z_wm z_wW z_bh z_bF z_bZ z_bK z_bM ol oS) ++ (HB cI cZ cS aY aV aU aR z_kd kf z_kA z_kV kQ kP)) ++ [(aQ, .inl (cJ, 1, .inr (.inl f')))]) ++ (W6 cI aX aN aP aJ aI aG aD z_ms ml z_mt mq mu z_mN z_mP mK mI mT mD)) := wD_re2 hD rfl
  refine lv_istore (lv' := [(6, .int r6), (5, .int z_mt), (0, .ref b), (1, .ref aC), (2, .ref aX), (3, .ref aQ), (4, .int i4)]) hx hb dL_law_797 hl (by decide) rfl (fun ls hl => ?_)
  refine lv_aload_n hx hb dL_law_799 rfl (lv_at hl 4 rfl) ?_
  refine rcall (va_runV (As := []) (rest := []) S (K6_thrown l D cI cZ cS cJ aX aN aP aJ aI aG aD z_ms ml z_mt mq mu z_mN z_mP mK mI mT mD z_mt rfl) (cwV 0 hts (gd_V wd_845 wd_846 wd_847 wd_67 wd_848) rfl rfl rfl hd6_thrown ⟨Nat.le_of_ble_eq_true rfl, Nat.le_of_ble_eq_true rfl⟩) (rPreV hK (wP_r hP) (ci := 6) (q := (RX6, TX6, 11)) rfl rfl) rfl rfl hl.1 rfl (lv_room (Nat.le_of_ble_eq_true rfl)) dL_law_800 ⟨by show cells + 3 + 0 ≤ 601024; omega, by show slots + 18 + 0 ≤ 7293034; omega⟩) ?_
  refine lv_iload hx hb dL_law_803 (lv_at hl 1 rfl) ?_
  refine lv_icmp_eq (tgt := 810) hx hb dL_law_805 (by decide) (fun _ => ?_) (fun h => absurd rfl h)
  refine lv_iload hx hb dL_law_810 (lv_at hl 1 rfl) ?_
  have fin : W p l e room_1 s m #[Value.ref b] below meth c H locs (cells + 3 + 0) (slots + 18 + 0) Q (F0 m 827 ls []) := by
    refine lv_goto (tgt := 1602) hx hb dL_law_827 (by decide) ?_
    exact kk H locs ls ⟨z_sr, z_wm, z_wW, z_bh, z_bF, z_bZ, z_bK, z_bM, ol, oS, z_kd, kf, z_kA, z_kV, kP, z_ms, ml, z_mt, mq, mu, z_mN, z_mP, mK, mI, mT, mD, f', hI, hP, hD, hS⟩ (lv_sub hl [2, 3, 4, 5, 6] rfl)
  refine lv_if_ne (tgt := 827) hx hb dL_law_812 (by decide) (fun _ => fin) (fun h0 => ?_)
  have hk0 : k = 0 := oc2_0 hoc h0
  refine lv_aload_n hx hb dL_law_815 rfl (lv_at hl 5 rfl) ?_
  refine lv_iconst (v := 0) hx hb dL_law_816 (by decide) ?_
  refine va_lald hx hb hK.1 (wP_l hP) (((W5x cI aC aS aL aW aB aF aZ aK aM aO aT aY z_sr z_wm z_wW z_bh z_bF z_bZ z_bK z_bM ol oS) ++ (HB cI cZ cS aY aV aU aR z_kd kf z_kA z_kV kQ kP))).length 3 (get_last _ _) rfl (i := 0) (by unfold vp_in; decide) dL_law_817 ?_
  refine lv_iload hx hb dL_law_818 (lv_at hl 0 rfl) ?_
  refine lv_i2l hx hb dL_law_820 rfl ?_
  refine l_lcmp hx hb (by rw [hf0 hk0, hrr hk0]; exact if_pos rfl) dL_law_821 ?_
  exact lv_if_eq (tgt := 827) hx hb dL_law_822 (by decide) (fun _ => fin) (fun h => absurd rfl h)
set_option maxHeartbeats 4000000 in
set_option maxRecDepth 100000 in
theorem C_letter (hfl : l.stackTraces = false) (C : LC p s m c b L xs D cI cZ cS cJ) {i : Nat} {i4 : Int32} (hi : i + 4 ≤ L) (hL : L ≤ 2048) (e4 : i4 = nI i) (hcs : cells + 3 ≤ 601024 ∧ slots + 18 ≤ 7293034) (hl : lv_has ls 9 [(0, .ref b), (1, .ref aC), (2, .ref aX), (3, .ref aQ), (4, .int i4)]) (hI : LI s D cI cZ cS cJ aC aS aL aW aB aF aZ aK aM aO aT aY aV aU aR aQ aX aN aP aJ aI aG aD kQ H locs) (kk : ∀ (H1 : Heap) (locs1 : List Loc) (ls : Array Slot), LI s D cI cZ cS cJ aC aS aL aW aB aF aZ aK aM aO aT aY aV aU aR aQ aX aN aP aJ aI aG aD kQ H1 locs1 → lv_has ls 9 [(0, .ref b), (1, .ref aC), (2, .ref aX), (3, .ref aQ), (4, .int i4)] → W p l e room_1 s m #[Value.ref b] below meth c H1 locs1 (cells + 3) (slots + 18) Q (F0 m 1602 ls [])) : W p l e room_1 s m #[Value.ref b] below meth c H locs cells slots Q (F0 m 830 ls []) := by
  obtain ⟨hx, hb, hml, hown, hts, hXs, hbl, hK, hX, hZ, hY⟩ := C
  have hbA : ¬ lA s b := Nat.not_le.mpr hbl
  have S : CallFix p m c cL_law 9 s #[Value.ref b] lw_all RL := ⟨hx, hb, hml, hown, hts⟩
  obtain ⟨hc1, hc2⟩ := hcs
  have n1 : vp_in (i4 + 1) L := by rw [e4]; exact in_arg (j := 1) (by omega) hL
  obtain ⟨sr, wm, wW, bh, bF, bZ, bK, bM, ol, oS, kd, kf, kA, kV, kP, ms, ml, mt, mq, mu, mN, mP, mK, mI, mT, mD, f, hI, hP, hD, hS⟩ := hI
  obtain ⟨k, r, r6, z_mt, hF5, hF6, hoc, hrr, hI⟩ := T_letter hI kA mt (xs (i4 + 1).toNatClampNeg)
  have ht : ∀ B : Nat → Prop, va_D B ((W5x cI aC aS aL aW aB aF aZ aK aM aO aT aY sr wm wW bh bF bZ bK bM ol oS) ++ (HB cI cZ cS aY aV aU aR kd kf kA kV kQ kP)) → va_D B ((W5x cI aC aS aL aW aB aF aZ aK aM aO aT aY sr wm wW bh bF bZ bK bM ol oS) ++ (HB cI cZ cS aY aV aU aR kd kf kA kV kQ kP)) := tr_D cI cZ cS aC aS aL aW aB aF aZ aK aM aO aT aY aV aU aR kQ (Or.inl rfl)
  obtain ⟨f', hf0, hf1⟩ : ∃ f' : Nat → Int64, (k = 0 → f' = vp_updL f 0 r.toInt64) ∧ (k ≠ 0 → f' = f) := ⟨if k = 0 then vp_updL f 0 r.toInt64 else f, fun h => if_pos h, fun h => if_neg h⟩
  refine lv_aload_n hx hb dL_law_830 rfl (lv_at hl 1 rfl) ?_
  refine lv_aload_n hx hb dL_law_831 rfl (lv_at hl 0 rfl) ?_
  refine lv_iload hx hb dL_law_832 (lv_at hl 4 rfl) ?_
  refine lv_iconst (v := 1) hx hb dL_law_834 (by decide) ?_
  refine lv_iadd hx hb dL_law_835 ?_
  refine va_sld hx hb hXs hbl hbA hS n1 dL_law_836 ?_
  refine lv_aload_n hx hb dL_law_837 rfl (lv_at hl 3 rfl) ?_
  refine ucallLi (X' := (((W5x cI aC aS aL aW aB aF aZ aK aM aO aT aY sr wm wW bh bF bZ bK bM ol oS) ++ (HB cI cZ cS aY aV aU aR kd kf kA kV kQ kP)) ++ [(aQ, .inl (cJ, 1, .inr (.inl f')))])) (vx_runSW (As := [.ref aC, .int (xs (i4 + 1).toNatClampNeg), .ref aQ]) (rest := []) S (KL_letter l D cI cZ cS cJ aC aQ _ _ [.ref aS, .ref aY, .ref aO] rfl ht f f' (xs (i4 + 1).toNatClampNeg) k r z_mt hoc hf0 hf1 (K5_letter l hfl D cI cZ cS cJ aC aS aL aW aB aF aZ aK aM aO aT aY aV aU aR kQ sr wm wW bh bF bZ bK bM ol oS kd kf kA kV kP (xs (i4 + 1).toNatClampNeg) k r  hF5)) (vx_cwSW 3 hts (gd_SW wd_638 wd_639 wd_60 cwL_letter) rfl rfl rfl hdL_letter ⟨Nat.le_of_ble_eq_true rfl, Nat.le_of_ble_eq_true rfl⟩) (wPreS hK hX hZ hY hS (wP_l hP) (wD_l hD)) rfl rfl hl.1 rfl (lv_room (Nat.le_of_ble_eq_true rfl)) dL_law_838 ⟨by show cells + 1 ≤ 601024; omega, by show slots + 6 ≤ 7293034; omega⟩) hS hP hD (fun H locs hP hS => ?_)
  have hD : va_D (lA s) ((((W5x cI aC aS aL aW aB aF aZ aK aM aO aT aY sr wm wW bh bF bZ bK bM ol oS) ++ (HB cI cZ cS aY aV aU aR kd kf kA kV kQ kP)) ++ [(aQ, .inl (cJ, 1, .inr (.inl f')))]) ++ (W6 cI aX aN aP aJ aI aG aD ms ml mt mq mu mN mP mK mI mT mD)) := wD_re hD (fun B h => wD_re2 (wD_re h ht) rfl)
  refine W.widen (k := cells + 3) (n := slots + 18) (by show cells + 1 ≤ cells + 3; omega) (by show slots + 6 ≤ slots + 18; omega) ?_
  refine lv_istore (lv' := [(5, .int z_mt), (0, .ref b), (1, .ref aC), (2, .ref aX), (3, .ref aQ), (4, .int i4)]) hx hb dL_law_841 hl (by decide) rfl (fun ls hl => ?_)
  refine lv_aload_n hx hb dL_law_843 rfl (lv_at hl 3 rfl) ?_
  refine lv_aload_n hx hb dL_law_844 rfl (lv_at hl 1 rfl) ?_
  refine lv_iload hx hb dL_law_845 (lv_at hl 5 rfl) ?_
  refine lv_iconst (v := 1) hx hb dL_law_847 (by decide) ?_
  refine lv_iadd hx hb dL_law_848 ?_
  refine va_sld hx hb hXs hbl hbA hS n1 dL_law_849 ?_
  refine ucallRi (Y' := (W6 cI aX aN aP aJ aI aG aD ms ml z_mt mq mu mN mP mK mI mT mD)) (va_runV (As := [.int (xs (i4 + 1).toNatClampNeg)]) (rest := []) S (K6_letter l D cI cZ cS cJ aX aN aP aJ aI aG aD ms ml mt mq mu mN mP mK mI mT mD (xs (i4 + 1).toNatClampNeg) r6 z_mt hF6) (cwV 1 hts (gd_V wd_1005 wd_1006 wd_1007 wd_67 wd_1008) rfl rfl rfl hd6_letter ⟨Nat.le_of_ble_eq_true rfl, Nat.le_of_ble_eq_true rfl⟩) (uPreV2 hK (wP_r hP) (wD_r hD) (ci := 6) (q := (RX6, TX6, 11)) rfl rfl) rfl rfl hl.1 rfl (lv_room (Nat.le_of_ble_eq_true rfl)) dL_law_850 ⟨by show cells + 3 + 0 ≤ 601024; omega, by show slots + 18 + 0 ≤ 7293034; omega⟩) hS hP hD (fun H locs hP hS => ?_)
  have hD : va_D (lA s) ((((W5x cI aC aS aL aW aB aF aZ aK aM aO aT aY sr wm wW bh bF bZ bK bM ol oS) ++ (HB cI cZ cS aY aV aU aR kd kf kA kV kQ kP)) ++ [(aQ, .inl (cJ, 1, .inr (.inl f')))]) ++ (W6 cI aX aN aP aJ aI aG aD ms ml z_mt mq mu mN mP mK mI mT mD)) := wD_re2 hD rfl
  refine lv_istore (lv' := [(6, .int r6), (5, .int z_mt), (0, .ref b), (1, .ref aC), (2, .ref aX), (3, .ref aQ), (4, .int i4)]) hx hb dL_law_853 hl (by decide) rfl (fun ls hl => ?_)
  refine lv_aload_n hx hb dL_law_855 rfl (lv_at hl 4 rfl) ?_
  refine rcall (va_runV (As := []) (rest := []) S (K6_thrown l D cI cZ cS cJ aX aN aP aJ aI aG aD ms ml z_mt mq mu mN mP mK mI mT mD z_mt rfl) (cwV 0 hts (gd_V wd_845 wd_846 wd_847 wd_67 wd_848) rfl rfl rfl hd6_thrown ⟨Nat.le_of_ble_eq_true rfl, Nat.le_of_ble_eq_true rfl⟩) (rPreV hK (wP_r hP) (ci := 6) (q := (RX6, TX6, 11)) rfl rfl) rfl rfl hl.1 rfl (lv_room (Nat.le_of_ble_eq_true rfl)) dL_law_856 ⟨by show cells + 3 + 0 ≤ 601024; omega, by show slots + 18 + 0 ≤ 7293034; omega⟩) ?_
  refine lv_iload hx hb dL_law_859 (lv_at hl 1 rfl) ?_
  refine lv_icmp_eq (tgt := 866) hx hb dL_law_861 (by decide) (fun _ => ?_) (fun h => absurd rfl h)
  refine lv_iload hx hb dL_law_866 (lv_at hl 1 rfl) ?_
  have fin : W p l e room_1 s m #[Value.ref b] below meth c H locs (cells + 3 + 0) (slots + 18 + 0) Q (F0 m 883 ls []) := by
    refine lv_goto (tgt := 1602) hx hb dL_law_883 (by decide) ?_
    exact kk H locs ls ⟨sr, wm, wW, bh, bF, bZ, bK, bM, ol, oS, kd, kf, kA, kV, kP, ms, ml, z_mt, mq, mu, mN, mP, mK, mI, mT, mD, f', hI, hP, hD, hS⟩ (lv_sub hl [2, 3, 4, 5, 6] rfl)
  refine lv_if_ne (tgt := 883) hx hb dL_law_868 (by decide) (fun _ => fin) (fun h0 => ?_)
  have hk0 : k = 0 := oc1_0 hoc h0
  refine lv_aload_n hx hb dL_law_871 rfl (lv_at hl 5 rfl) ?_
  refine lv_iconst (v := 0) hx hb dL_law_872 (by decide) ?_
  refine va_lald hx hb hK.1 (wP_l hP) (((W5x cI aC aS aL aW aB aF aZ aK aM aO aT aY sr wm wW bh bF bZ bK bM ol oS) ++ (HB cI cZ cS aY aV aU aR kd kf kA kV kQ kP))).length 3 (get_last _ _) rfl (i := 0) (by unfold vp_in; decide) dL_law_873 ?_
  refine lv_iload hx hb dL_law_874 (lv_at hl 0 rfl) ?_
  refine lv_i2l hx hb dL_law_876 rfl ?_
  refine l_lcmp hx hb (by rw [hf0 hk0, hrr hk0]; exact if_pos rfl) dL_law_877 ?_
  exact lv_if_eq (tgt := 883) hx hb dL_law_878 (by decide) (fun _ => fin) (fun h => absurd rfl h)
set_option maxHeartbeats 4000000 in
set_option maxRecDepth 100000 in
theorem C_cheque (hfl : l.stackTraces = false) (C : LC p s m c b L xs D cI cZ cS cJ) {i : Nat} {i4 : Int32} (hi : i + 4 ≤ L) (hL : L ≤ 2048) (e4 : i4 = nI i) (hcs : cells + 3 ≤ 601024 ∧ slots + 18 ≤ 7293034) (hl : lv_has ls 9 [(0, .ref b), (1, .ref aC), (2, .ref aX), (3, .ref aQ), (4, .int i4)]) (hI : LI s D cI cZ cS cJ aC aS aL aW aB aF aZ aK aM aO aT aY aV aU aR aQ aX aN aP aJ aI aG aD kQ H locs) (kk : ∀ (H1 : Heap) (locs1 : List Loc) (ls : Array Slot), LI s D cI cZ cS cJ aC aS aL aW aB aF aZ aK aM aO aT aY aV aU aR aQ aX aN aP aJ aI aG aD kQ H1 locs1 → lv_has ls 9 [(0, .ref b), (1, .ref aC), (2, .ref aX), (3, .ref aQ), (4, .int i4)] → W p l e room_1 s m #[Value.ref b] below meth c H1 locs1 (cells + 3) (slots + 18) Q (F0 m 1602 ls [])) : W p l e room_1 s m #[Value.ref b] below meth c H locs cells slots Q (F0 m 886 ls []) := by
  obtain ⟨hx, hb, hml, hown, hts, hXs, hbl, hK, hX, hZ, hY⟩ := C
  have hbA : ¬ lA s b := Nat.not_le.mpr hbl
  have S : CallFix p m c cL_law 9 s #[Value.ref b] lw_all RL := ⟨hx, hb, hml, hown, hts⟩
  obtain ⟨hc1, hc2⟩ := hcs
  have n1 : vp_in (i4 + 1) L := by rw [e4]; exact in_arg (j := 1) (by omega) hL
  have n2 : vp_in (i4 + 2) L := by rw [e4]; exact in_arg (j := 2) (by omega) hL
  obtain ⟨sr, wm, wW, bh, bF, bZ, bK, bM, ol, oS, kd, kf, kA, kV, kP, ms, ml, mt, mq, mu, mN, mP, mK, mI, mT, mD, f, hI, hP, hD, hS⟩ := hI
  obtain ⟨k, r, r6, z_mt, hF5, hF6, hoc, hrr, hI⟩ := T_cheque hI kA mt (xs (i4 + 1).toNatClampNeg) (xs (i4 + 2).toNatClampNeg)
  have ht : ∀ B : Nat → Prop, va_D B ((W5x cI aC aS aL aW aB aF aZ aK aM aO aT aY sr wm wW bh bF bZ bK bM ol oS) ++ (HB cI cZ cS aY aV aU aR kd kf kA kV kQ kP)) → va_D B ((W5x cI aC aS aL aW aB aF aZ aK aM aO aT aY sr wm wW bh bF bZ bK bM ol oS) ++ (HB cI cZ cS aY aV aU aR kd kf kA kV kQ kP)) := tr_D cI cZ cS aC aS aL aW aB aF aZ aK aM aO aT aY aV aU aR kQ (Or.inl rfl)
  obtain ⟨f', hf0, hf1⟩ : ∃ f' : Nat → Int64, (k = 0 → f' = vp_updL f 0 r.toInt64) ∧ (k ≠ 0 → f' = f) := ⟨if k = 0 then vp_updL f 0 r.toInt64 else f, fun h => if_pos h, fun h => if_neg h⟩
  refine lv_aload_n hx hb dL_law_886 rfl (lv_at hl 1 rfl) ?_
  refine lv_aload_n hx hb dL_law_887 rfl (lv_at hl 0 rfl) ?_
  refine lv_iload hx hb dL_law_888 (lv_at hl 4 rfl) ?_
  refine lv_iconst (v := 1) hx hb dL_law_890 (by decide) ?_
  refine lv_iadd hx hb dL_law_891 ?_
  refine va_sld hx hb hXs hbl hbA hS n1 dL_law_892 ?_
  refine lv_aload_n hx hb dL_law_893 rfl (lv_at hl 0 rfl) ?_
  refine lv_iload hx hb dL_law_894 (lv_at hl 4 rfl) ?_
  refine lv_iconst (v := 2) hx hb dL_law_896 (by decide) ?_
  refine lv_iadd hx hb dL_law_897 ?_
  refine va_sld hx hb hXs hbl hbA hS n2 dL_law_898 ?_
  refine lv_aload_n hx hb dL_law_899 rfl (lv_at hl 3 rfl) ?_
  refine ucallLi (X' := (((W5x cI aC aS aL aW aB aF aZ aK aM aO aT aY sr wm wW bh bF bZ bK bM ol oS) ++ (HB cI cZ cS aY aV aU aR kd kf kA kV kQ kP)) ++ [(aQ, .inl (cJ, 1, .inr (.inl f')))])) (vx_runSW (As := [.ref aC, .int (xs (i4 + 1).toNatClampNeg), .int (xs (i4 + 2).toNatClampNeg), .ref aQ]) (rest := []) S (KL_cheque l D cI cZ cS cJ aC aQ _ _ [.ref aS, .ref aY, .ref aO] rfl ht f f' (xs (i4 + 1).toNatClampNeg) (xs (i4 + 2).toNatClampNeg) k r z_mt hoc hf0 hf1 (K5_cheque l hfl D cI cZ cS cJ aC aS aL aW aB aF aZ aK aM aO aT aY aV aU aR kQ sr wm wW bh bF bZ bK bM ol oS kd kf kA kV kP (xs (i4 + 1).toNatClampNeg) (xs (i4 + 2).toNatClampNeg) k r  hF5)) (vx_cwSW 4 hts (gd_SW wd_645 wd_646 wd_60 cwL_cheque) rfl rfl rfl hdL_cheque ⟨Nat.le_of_ble_eq_true rfl, Nat.le_of_ble_eq_true rfl⟩) (wPreS hK hX hZ hY hS (wP_l hP) (wD_l hD)) rfl rfl hl.1 rfl (lv_room (Nat.le_of_ble_eq_true rfl)) dL_law_900 ⟨by show cells + 1 ≤ 601024; omega, by show slots + 6 ≤ 7293034; omega⟩) hS hP hD (fun H locs hP hS => ?_)
  have hD : va_D (lA s) ((((W5x cI aC aS aL aW aB aF aZ aK aM aO aT aY sr wm wW bh bF bZ bK bM ol oS) ++ (HB cI cZ cS aY aV aU aR kd kf kA kV kQ kP)) ++ [(aQ, .inl (cJ, 1, .inr (.inl f')))]) ++ (W6 cI aX aN aP aJ aI aG aD ms ml mt mq mu mN mP mK mI mT mD)) := wD_re hD (fun B h => wD_re2 (wD_re h ht) rfl)
  refine W.widen (k := cells + 3) (n := slots + 18) (by show cells + 1 ≤ cells + 3; omega) (by show slots + 6 ≤ slots + 18; omega) ?_
  refine lv_istore (lv' := [(5, .int z_mt), (0, .ref b), (1, .ref aC), (2, .ref aX), (3, .ref aQ), (4, .int i4)]) hx hb dL_law_903 hl (by decide) rfl (fun ls hl => ?_)
  refine lv_aload_n hx hb dL_law_905 rfl (lv_at hl 3 rfl) ?_
  refine lv_aload_n hx hb dL_law_906 rfl (lv_at hl 1 rfl) ?_
  refine lv_iload hx hb dL_law_907 (lv_at hl 5 rfl) ?_
  refine lv_iconst (v := 1) hx hb dL_law_909 (by decide) ?_
  refine lv_iadd hx hb dL_law_910 ?_
  refine va_sld hx hb hXs hbl hbA hS n1 dL_law_911 ?_
  refine lv_aload_n hx hb dL_law_912 rfl (lv_at hl 1 rfl) ?_
  refine lv_iload hx hb dL_law_913 (lv_at hl 5 rfl) ?_
  refine lv_iconst (v := 2) hx hb dL_law_915 (by decide) ?_
  refine lv_iadd hx hb dL_law_916 ?_
  refine va_sld hx hb hXs hbl hbA hS n2 dL_law_917 ?_
  refine ucallRi (Y' := (W6 cI aX aN aP aJ aI aG aD ms ml z_mt mq mu mN mP mK mI mT mD)) (va_runV (As := [.int (xs (i4 + 1).toNatClampNeg), .int (xs (i4 + 2).toNatClampNeg)]) (rest := []) S (K6_cheque l D cI cZ cS cJ aX aN aP aJ aI aG aD ms ml mt mq mu mN mP mK mI mT mD (xs (i4 + 1).toNatClampNeg) (xs (i4 + 2).toNatClampNeg) r6 z_mt hF6) (cwV 2 hts (gd_V wd_1009 wd_1010 wd_1011 wd_67 wd_1012) rfl rfl rfl hd6_cheque ⟨Nat.le_of_ble_eq_true rfl, Nat.le_of_ble_eq_true rfl⟩) (uPreV2 hK (wP_r hP) (wD_r hD) (ci := 6) (q := (RX6, TX6, 11)) rfl rfl) rfl rfl hl.1 rfl (lv_room (Nat.le_of_ble_eq_true rfl)) dL_law_918 ⟨by show cells + 3 + 0 ≤ 601024; omega, by show slots + 18 + 0 ≤ 7293034; omega⟩) hS hP hD (fun H locs hP hS => ?_)
  have hD : va_D (lA s) ((((W5x cI aC aS aL aW aB aF aZ aK aM aO aT aY sr wm wW bh bF bZ bK bM ol oS) ++ (HB cI cZ cS aY aV aU aR kd kf kA kV kQ kP)) ++ [(aQ, .inl (cJ, 1, .inr (.inl f')))]) ++ (W6 cI aX aN aP aJ aI aG aD ms ml z_mt mq mu mN mP mK mI mT mD)) := wD_re2 hD rfl
  refine lv_istore (lv' := [(6, .int r6), (5, .int z_mt), (0, .ref b), (1, .ref aC), (2, .ref aX), (3, .ref aQ), (4, .int i4)]) hx hb dL_law_921 hl (by decide) rfl (fun ls hl => ?_)
  refine lv_aload_n hx hb dL_law_923 rfl (lv_at hl 4 rfl) ?_
  refine rcall (va_runV (As := []) (rest := []) S (K6_thrown l D cI cZ cS cJ aX aN aP aJ aI aG aD ms ml z_mt mq mu mN mP mK mI mT mD z_mt rfl) (cwV 0 hts (gd_V wd_845 wd_846 wd_847 wd_67 wd_848) rfl rfl rfl hd6_thrown ⟨Nat.le_of_ble_eq_true rfl, Nat.le_of_ble_eq_true rfl⟩) (rPreV hK (wP_r hP) (ci := 6) (q := (RX6, TX6, 11)) rfl rfl) rfl rfl hl.1 rfl (lv_room (Nat.le_of_ble_eq_true rfl)) dL_law_924 ⟨by show cells + 3 + 0 ≤ 601024; omega, by show slots + 18 + 0 ≤ 7293034; omega⟩) ?_
  refine lv_iload hx hb dL_law_927 (lv_at hl 1 rfl) ?_
  refine lv_icmp_eq (tgt := 934) hx hb dL_law_929 (by decide) (fun _ => ?_) (fun h => absurd rfl h)
  refine lv_iload hx hb dL_law_934 (lv_at hl 1 rfl) ?_
  have fin : W p l e room_1 s m #[Value.ref b] below meth c H locs (cells + 3 + 0) (slots + 18 + 0) Q (F0 m 951 ls []) := by
    refine lv_goto (tgt := 1602) hx hb dL_law_951 (by decide) ?_
    exact kk H locs ls ⟨sr, wm, wW, bh, bF, bZ, bK, bM, ol, oS, kd, kf, kA, kV, kP, ms, ml, z_mt, mq, mu, mN, mP, mK, mI, mT, mD, f', hI, hP, hD, hS⟩ (lv_sub hl [2, 3, 4, 5, 6] rfl)
  refine lv_if_ne (tgt := 951) hx hb dL_law_936 (by decide) (fun _ => fin) (fun h0 => ?_)
  have hk0 : k = 0 := oc2_0 hoc h0
  refine lv_aload_n hx hb dL_law_939 rfl (lv_at hl 5 rfl) ?_
  refine lv_iconst (v := 0) hx hb dL_law_940 (by decide) ?_
  refine va_lald hx hb hK.1 (wP_l hP) (((W5x cI aC aS aL aW aB aF aZ aK aM aO aT aY sr wm wW bh bF bZ bK bM ol oS) ++ (HB cI cZ cS aY aV aU aR kd kf kA kV kQ kP))).length 3 (get_last _ _) rfl (i := 0) (by unfold vp_in; decide) dL_law_941 ?_
  refine lv_iload hx hb dL_law_942 (lv_at hl 0 rfl) ?_
  refine lv_i2l hx hb dL_law_944 rfl ?_
  refine l_lcmp hx hb (by rw [hf0 hk0, hrr hk0]; exact if_pos rfl) dL_law_945 ?_
  exact lv_if_eq (tgt := 951) hx hb dL_law_946 (by decide) (fun _ => fin) (fun h => absurd rfl h)
set_option maxHeartbeats 4000000 in
set_option maxRecDepth 100000 in
theorem C_bookOf (hfl : l.stackTraces = false) (C : LC p s m c b L xs D cI cZ cS cJ) {i : Nat} {i4 : Int32} (hi : i + 4 ≤ L) (hL : L ≤ 2048) (e4 : i4 = nI i) (hcs : cells + 3 ≤ 601024 ∧ slots + 18 ≤ 7293034) (hl : lv_has ls 9 [(0, .ref b), (1, .ref aC), (2, .ref aX), (3, .ref aQ), (4, .int i4)]) (hI : LI s D cI cZ cS cJ aC aS aL aW aB aF aZ aK aM aO aT aY aV aU aR aQ aX aN aP aJ aI aG aD kQ H locs) (kk : ∀ (H1 : Heap) (locs1 : List Loc) (ls : Array Slot), LI s D cI cZ cS cJ aC aS aL aW aB aF aZ aK aM aO aT aY aV aU aR aQ aX aN aP aJ aI aG aD kQ H1 locs1 → lv_has ls 9 [(0, .ref b), (1, .ref aC), (2, .ref aX), (3, .ref aQ), (4, .int i4)] → W p l e room_1 s m #[Value.ref b] below meth c H1 locs1 (cells + 3) (slots + 18) Q (F0 m 1602 ls [])) : W p l e room_1 s m #[Value.ref b] below meth c H locs cells slots Q (F0 m 954 ls []) := by
  obtain ⟨hx, hb, hml, hown, hts, hXs, hbl, hK, hX, hZ, hY⟩ := C
  have hbA : ¬ lA s b := Nat.not_le.mpr hbl
  have S : CallFix p m c cL_law 9 s #[Value.ref b] lw_all RL := ⟨hx, hb, hml, hown, hts⟩
  obtain ⟨hc1, hc2⟩ := hcs
  have n1 : vp_in (i4 + 1) L := by rw [e4]; exact in_arg (j := 1) (by omega) hL
  have n2 : vp_in (i4 + 2) L := by rw [e4]; exact in_arg (j := 2) (by omega) hL
  obtain ⟨sr, wm, wW, bh, bF, bZ, bK, bM, ol, oS, kd, kf, kA, kV, kP, ms, ml, mt, mq, mu, mN, mP, mK, mI, mT, mD, f, hI, hP, hD, hS⟩ := hI
  obtain ⟨k, r, r6, z_mt, hF5, hF6, hoc, hrr, hI⟩ := T_bookOf hI kA mt (xs (i4 + 1).toNatClampNeg) (xs (i4 + 2).toNatClampNeg)
  have ht : ∀ B : Nat → Prop, va_D B ((W5x cI aC aS aL aW aB aF aZ aK aM aO aT aY sr wm wW bh bF bZ bK bM ol oS) ++ (HB cI cZ cS aY aV aU aR kd kf kA kV kQ kP)) → va_D B ((W5x cI aC aS aL aW aB aF aZ aK aM aO aT aY sr wm wW bh bF bZ bK bM ol oS) ++ (HB cI cZ cS aY aV aU aR kd kf kA kV kQ kP)) := tr_D cI cZ cS aC aS aL aW aB aF aZ aK aM aO aT aY aV aU aR kQ (Or.inl rfl)
  obtain ⟨f', hf0, hf1⟩ : ∃ f' : Nat → Int64, (k = 0 → f' = vp_updL f 0 r.toInt64) ∧ (k ≠ 0 → f' = f) := ⟨if k = 0 then vp_updL f 0 r.toInt64 else f, fun h => if_pos h, fun h => if_neg h⟩
  refine lv_aload_n hx hb dL_law_954 rfl (lv_at hl 1 rfl) ?_
  refine lv_aload_n hx hb dL_law_955 rfl (lv_at hl 0 rfl) ?_
  refine lv_iload hx hb dL_law_956 (lv_at hl 4 rfl) ?_
  refine lv_iconst (v := 1) hx hb dL_law_958 (by decide) ?_
  refine lv_iadd hx hb dL_law_959 ?_
  refine va_sld hx hb hXs hbl hbA hS n1 dL_law_960 ?_
  refine lv_aload_n hx hb dL_law_961 rfl (lv_at hl 0 rfl) ?_
  refine lv_iload hx hb dL_law_962 (lv_at hl 4 rfl) ?_
  refine lv_iconst (v := 2) hx hb dL_law_964 (by decide) ?_
  refine lv_iadd hx hb dL_law_965 ?_
  refine va_sld hx hb hXs hbl hbA hS n2 dL_law_966 ?_
  refine lv_aload_n hx hb dL_law_967 rfl (lv_at hl 3 rfl) ?_
  refine ucallLi (X' := (((W5x cI aC aS aL aW aB aF aZ aK aM aO aT aY sr wm wW bh bF bZ bK bM ol oS) ++ (HB cI cZ cS aY aV aU aR kd kf kA kV kQ kP)) ++ [(aQ, .inl (cJ, 1, .inr (.inl f')))])) (vx_runSW (As := [.ref aC, .int (xs (i4 + 1).toNatClampNeg), .int (xs (i4 + 2).toNatClampNeg), .ref aQ]) (rest := []) S (KL_bookOf l D cI cZ cS cJ aC aQ _ _ [.ref aS, .ref aY, .ref aO] rfl ht f f' (xs (i4 + 1).toNatClampNeg) (xs (i4 + 2).toNatClampNeg) k r z_mt hoc hf0 hf1 (K5_bookOf l hfl D cI cZ cS cJ aC aS aL aW aB aF aZ aK aM aO aT aY aV aU aR kQ sr wm wW bh bF bZ bK bM ol oS kd kf kA kV kP (xs (i4 + 1).toNatClampNeg) (xs (i4 + 2).toNatClampNeg) k r  hF5)) (vx_cwSW 4 hts (gd_SW wd_659 wd_660 wd_60 cwL_bookOf) rfl rfl rfl hdL_bookOf ⟨Nat.le_of_ble_eq_true rfl, Nat.le_of_ble_eq_true rfl⟩) (wPreS hK hX hZ hY hS (wP_l hP) (wD_l hD)) rfl rfl hl.1 rfl (lv_room (Nat.le_of_ble_eq_true rfl)) dL_law_968 ⟨by show cells + 1 ≤ 601024; omega, by show slots + 6 ≤ 7293034; omega⟩) hS hP hD (fun H locs hP hS => ?_)
  have hD : va_D (lA s) ((((W5x cI aC aS aL aW aB aF aZ aK aM aO aT aY sr wm wW bh bF bZ bK bM ol oS) ++ (HB cI cZ cS aY aV aU aR kd kf kA kV kQ kP)) ++ [(aQ, .inl (cJ, 1, .inr (.inl f')))]) ++ (W6 cI aX aN aP aJ aI aG aD ms ml mt mq mu mN mP mK mI mT mD)) := wD_re hD (fun B h => wD_re2 (wD_re h ht) rfl)
  refine W.widen (k := cells + 3) (n := slots + 18) (by show cells + 1 ≤ cells + 3; omega) (by show slots + 6 ≤ slots + 18; omega) ?_
  refine lv_istore (lv' := [(5, .int z_mt), (0, .ref b), (1, .ref aC), (2, .ref aX), (3, .ref aQ), (4, .int i4)]) hx hb dL_law_971 hl (by decide) rfl (fun ls hl => ?_)
  refine lv_aload_n hx hb dL_law_973 rfl (lv_at hl 3 rfl) ?_
  refine lv_aload_n hx hb dL_law_974 rfl (lv_at hl 1 rfl) ?_
  refine lv_iload hx hb dL_law_975 (lv_at hl 5 rfl) ?_
  refine lv_iconst (v := 1) hx hb dL_law_977 (by decide) ?_
  refine lv_iadd hx hb dL_law_978 ?_
  refine va_sld hx hb hXs hbl hbA hS n1 dL_law_979 ?_
  refine lv_aload_n hx hb dL_law_980 rfl (lv_at hl 1 rfl) ?_
  refine lv_iload hx hb dL_law_981 (lv_at hl 5 rfl) ?_
  refine lv_iconst (v := 2) hx hb dL_law_983 (by decide) ?_
  refine lv_iadd hx hb dL_law_984 ?_
  refine va_sld hx hb hXs hbl hbA hS n2 dL_law_985 ?_
  refine ucallRi (Y' := (W6 cI aX aN aP aJ aI aG aD ms ml z_mt mq mu mN mP mK mI mT mD)) (va_runV (As := [.int (xs (i4 + 1).toNatClampNeg), .int (xs (i4 + 2).toNatClampNeg)]) (rest := []) S (K6_bookOf l D cI cZ cS cJ aX aN aP aJ aI aG aD ms ml mt mq mu mN mP mK mI mT mD (xs (i4 + 1).toNatClampNeg) (xs (i4 + 2).toNatClampNeg) r6 z_mt hF6) (cwV 2 hts (gd_V wd_1021 wd_1022 wd_1023 wd_67 wd_1024) rfl rfl rfl hd6_bookOf ⟨Nat.le_of_ble_eq_true rfl, Nat.le_of_ble_eq_true rfl⟩) (uPreV2 hK (wP_r hP) (wD_r hD) (ci := 6) (q := (RX6, TX6, 11)) rfl rfl) rfl rfl hl.1 rfl (lv_room (Nat.le_of_ble_eq_true rfl)) dL_law_986 ⟨by show cells + 3 + 0 ≤ 601024; omega, by show slots + 18 + 0 ≤ 7293034; omega⟩) hS hP hD (fun H locs hP hS => ?_)
  have hD : va_D (lA s) ((((W5x cI aC aS aL aW aB aF aZ aK aM aO aT aY sr wm wW bh bF bZ bK bM ol oS) ++ (HB cI cZ cS aY aV aU aR kd kf kA kV kQ kP)) ++ [(aQ, .inl (cJ, 1, .inr (.inl f')))]) ++ (W6 cI aX aN aP aJ aI aG aD ms ml z_mt mq mu mN mP mK mI mT mD)) := wD_re2 hD rfl
  refine lv_istore (lv' := [(6, .int r6), (5, .int z_mt), (0, .ref b), (1, .ref aC), (2, .ref aX), (3, .ref aQ), (4, .int i4)]) hx hb dL_law_989 hl (by decide) rfl (fun ls hl => ?_)
  refine lv_aload_n hx hb dL_law_991 rfl (lv_at hl 4 rfl) ?_
  refine rcall (va_runV (As := []) (rest := []) S (K6_thrown l D cI cZ cS cJ aX aN aP aJ aI aG aD ms ml z_mt mq mu mN mP mK mI mT mD z_mt rfl) (cwV 0 hts (gd_V wd_845 wd_846 wd_847 wd_67 wd_848) rfl rfl rfl hd6_thrown ⟨Nat.le_of_ble_eq_true rfl, Nat.le_of_ble_eq_true rfl⟩) (rPreV hK (wP_r hP) (ci := 6) (q := (RX6, TX6, 11)) rfl rfl) rfl rfl hl.1 rfl (lv_room (Nat.le_of_ble_eq_true rfl)) dL_law_992 ⟨by show cells + 3 + 0 ≤ 601024; omega, by show slots + 18 + 0 ≤ 7293034; omega⟩) ?_
  refine lv_iload hx hb dL_law_995 (lv_at hl 1 rfl) ?_
  refine lv_icmp_eq (tgt := 1002) hx hb dL_law_997 (by decide) (fun _ => ?_) (fun h => absurd rfl h)
  refine lv_iload hx hb dL_law_1002 (lv_at hl 1 rfl) ?_
  have fin : W p l e room_1 s m #[Value.ref b] below meth c H locs (cells + 3 + 0) (slots + 18 + 0) Q (F0 m 1019 ls []) := by
    refine lv_goto (tgt := 1602) hx hb dL_law_1019 (by decide) ?_
    exact kk H locs ls ⟨sr, wm, wW, bh, bF, bZ, bK, bM, ol, oS, kd, kf, kA, kV, kP, ms, ml, z_mt, mq, mu, mN, mP, mK, mI, mT, mD, f', hI, hP, hD, hS⟩ (lv_sub hl [2, 3, 4, 5, 6] rfl)
  refine lv_if_ne (tgt := 1019) hx hb dL_law_1004 (by decide) (fun _ => fin) (fun h0 => ?_)
  have hk0 : k = 0 := oc2_0 hoc h0
  refine lv_aload_n hx hb dL_law_1007 rfl (lv_at hl 5 rfl) ?_
  refine lv_iconst (v := 0) hx hb dL_law_1008 (by decide) ?_
  refine va_lald hx hb hK.1 (wP_l hP) (((W5x cI aC aS aL aW aB aF aZ aK aM aO aT aY sr wm wW bh bF bZ bK bM ol oS) ++ (HB cI cZ cS aY aV aU aR kd kf kA kV kQ kP))).length 3 (get_last _ _) rfl (i := 0) (by unfold vp_in; decide) dL_law_1009 ?_
  refine lv_iload hx hb dL_law_1010 (lv_at hl 0 rfl) ?_
  refine lv_i2l hx hb dL_law_1012 rfl ?_
  refine l_lcmp hx hb (by rw [hf0 hk0, hrr hk0]; exact if_pos rfl) dL_law_1013 ?_
  exact lv_if_eq (tgt := 1019) hx hb dL_law_1014 (by decide) (fun _ => fin) (fun h => absurd rfl h)
set_option maxHeartbeats 4000000 in
set_option maxRecDepth 100000 in
theorem C_count (hfl : l.stackTraces = false) (C : LC p s m c b L xs D cI cZ cS cJ) {i : Nat} {i4 : Int32} (hi : i + 4 ≤ L) (hL : L ≤ 2048) (e4 : i4 = nI i) (hcs : cells + 3 ≤ 601024 ∧ slots + 18 ≤ 7293034) (hl : lv_has ls 9 [(0, .ref b), (1, .ref aC), (2, .ref aX), (3, .ref aQ), (4, .int i4)]) (hI : LI s D cI cZ cS cJ aC aS aL aW aB aF aZ aK aM aO aT aY aV aU aR aQ aX aN aP aJ aI aG aD kQ H locs) (kk : ∀ (H1 : Heap) (locs1 : List Loc) (ls : Array Slot), LI s D cI cZ cS cJ aC aS aL aW aB aF aZ aK aM aO aT aY aV aU aR aQ aX aN aP aJ aI aG aD kQ H1 locs1 → lv_has ls 9 [(0, .ref b), (1, .ref aC), (2, .ref aX), (3, .ref aQ), (4, .int i4)] → W p l e room_1 s m #[Value.ref b] below meth c H1 locs1 (cells + 3) (slots + 18) Q (F0 m 1602 ls [])) : W p l e room_1 s m #[Value.ref b] below meth c H locs cells slots Q (F0 m 1022 ls []) := by
  obtain ⟨hx, hb, hml, hown, hts, hXs, hbl, hK, hX, hZ, hY⟩ := C
  have hbA : ¬ lA s b := Nat.not_le.mpr hbl
  have S : CallFix p m c cL_law 9 s #[Value.ref b] lw_all RL := ⟨hx, hb, hml, hown, hts⟩
  obtain ⟨hc1, hc2⟩ := hcs
  have n1 : vp_in (i4 + 1) L := by rw [e4]; exact in_arg (j := 1) (by omega) hL
  obtain ⟨sr, wm, wW, bh, bF, bZ, bK, bM, ol, oS, kd, kf, kA, kV, kP, ms, ml, mt, mq, mu, mN, mP, mK, mI, mT, mD, f, hI, hP, hD, hS⟩ := hI
  obtain ⟨k, r, r6, z_mt, hF5, hF6, hoc, hrr, hI⟩ := T_count hI kA mt (xs (i4 + 1).toNatClampNeg)
  have ht : ∀ B : Nat → Prop, va_D B ((W5x cI aC aS aL aW aB aF aZ aK aM aO aT aY sr wm wW bh bF bZ bK bM ol oS) ++ (HB cI cZ cS aY aV aU aR kd kf kA kV kQ kP)) → va_D B ((W5x cI aC aS aL aW aB aF aZ aK aM aO aT aY sr wm wW bh bF bZ bK bM ol oS) ++ (HB cI cZ cS aY aV aU aR kd kf kA kV kQ kP)) := tr_D cI cZ cS aC aS aL aW aB aF aZ aK aM aO aT aY aV aU aR kQ (Or.inl rfl)
  obtain ⟨f', hf0, hf1⟩ : ∃ f' : Nat → Int64, (k = 0 → f' = vp_updL f 0 r.toInt64) ∧ (k ≠ 0 → f' = f) := ⟨if k = 0 then vp_updL f 0 r.toInt64 else f, fun h => if_pos h, fun h => if_neg h⟩
  refine lv_aload_n hx hb dL_law_1022 rfl (lv_at hl 1 rfl) ?_
  refine lv_aload_n hx hb dL_law_1023 rfl (lv_at hl 0 rfl) ?_
  refine lv_iload hx hb dL_law_1024 (lv_at hl 4 rfl) ?_
  refine lv_iconst (v := 1) hx hb dL_law_1026 (by decide) ?_
  refine lv_iadd hx hb dL_law_1027 ?_
  refine va_sld hx hb hXs hbl hbA hS n1 dL_law_1028 ?_
  refine lv_aload_n hx hb dL_law_1029 rfl (lv_at hl 3 rfl) ?_
  refine ucallLi (X' := (((W5x cI aC aS aL aW aB aF aZ aK aM aO aT aY sr wm wW bh bF bZ bK bM ol oS) ++ (HB cI cZ cS aY aV aU aR kd kf kA kV kQ kP)) ++ [(aQ, .inl (cJ, 1, .inr (.inl f')))])) (vx_runSW (As := [.ref aC, .int (xs (i4 + 1).toNatClampNeg), .ref aQ]) (rest := []) S (KL_count l D cI cZ cS cJ aC aQ _ _ [.ref aS, .ref aY, .ref aO] rfl ht f f' (xs (i4 + 1).toNatClampNeg) k r z_mt hoc hf0 hf1 (K5_count l hfl D cI cZ cS cJ aC aS aL aW aB aF aZ aK aM aO aT aY aV aU aR kQ sr wm wW bh bF bZ bK bM ol oS kd kf kA kV kP (xs (i4 + 1).toNatClampNeg) k r  hF5)) (vx_cwSW 3 hts (gd_SW wd_669 wd_670 wd_60 cwL_count) rfl rfl rfl hdL_count ⟨Nat.le_of_ble_eq_true rfl, Nat.le_of_ble_eq_true rfl⟩) (wPreS hK hX hZ hY hS (wP_l hP) (wD_l hD)) rfl rfl hl.1 rfl (lv_room (Nat.le_of_ble_eq_true rfl)) dL_law_1030 ⟨by show cells + 1 ≤ 601024; omega, by show slots + 6 ≤ 7293034; omega⟩) hS hP hD (fun H locs hP hS => ?_)
  have hD : va_D (lA s) ((((W5x cI aC aS aL aW aB aF aZ aK aM aO aT aY sr wm wW bh bF bZ bK bM ol oS) ++ (HB cI cZ cS aY aV aU aR kd kf kA kV kQ kP)) ++ [(aQ, .inl (cJ, 1, .inr (.inl f')))]) ++ (W6 cI aX aN aP aJ aI aG aD ms ml mt mq mu mN mP mK mI mT mD)) := wD_re hD (fun B h => wD_re2 (wD_re h ht) rfl)
  refine W.widen (k := cells + 3) (n := slots + 18) (by show cells + 1 ≤ cells + 3; omega) (by show slots + 6 ≤ slots + 18; omega) ?_
  refine lv_istore (lv' := [(5, .int z_mt), (0, .ref b), (1, .ref aC), (2, .ref aX), (3, .ref aQ), (4, .int i4)]) hx hb dL_law_1033 hl (by decide) rfl (fun ls hl => ?_)
  refine lv_aload_n hx hb dL_law_1035 rfl (lv_at hl 3 rfl) ?_
  refine lv_aload_n hx hb dL_law_1036 rfl (lv_at hl 1 rfl) ?_
  refine lv_iload hx hb dL_law_1037 (lv_at hl 5 rfl) ?_
  refine lv_iconst (v := 1) hx hb dL_law_1039 (by decide) ?_
  refine lv_iadd hx hb dL_law_1040 ?_
  refine va_sld hx hb hXs hbl hbA hS n1 dL_law_1041 ?_
  refine ucallRi (Y' := (W6 cI aX aN aP aJ aI aG aD ms ml z_mt mq mu mN mP mK mI mT mD)) (va_runV (As := [.int (xs (i4 + 1).toNatClampNeg)]) (rest := []) S (K6_count l D cI cZ cS cJ aX aN aP aJ aI aG aD ms ml mt mq mu mN mP mK mI mT mD (xs (i4 + 1).toNatClampNeg) r6 z_mt hF6) (cwV 1 hts (gd_V wd_1041 wd_1042 wd_1043 wd_67 wd_1044) rfl rfl rfl hd6_count ⟨Nat.le_of_ble_eq_true rfl, Nat.le_of_ble_eq_true rfl⟩) (uPreV2 hK (wP_r hP) (wD_r hD) (ci := 6) (q := (RX6, TX6, 11)) rfl rfl) rfl rfl hl.1 rfl (lv_room (Nat.le_of_ble_eq_true rfl)) dL_law_1042 ⟨by show cells + 3 + 0 ≤ 601024; omega, by show slots + 18 + 0 ≤ 7293034; omega⟩) hS hP hD (fun H locs hP hS => ?_)
  have hD : va_D (lA s) ((((W5x cI aC aS aL aW aB aF aZ aK aM aO aT aY sr wm wW bh bF bZ bK bM ol oS) ++ (HB cI cZ cS aY aV aU aR kd kf kA kV kQ kP)) ++ [(aQ, .inl (cJ, 1, .inr (.inl f')))]) ++ (W6 cI aX aN aP aJ aI aG aD ms ml z_mt mq mu mN mP mK mI mT mD)) := wD_re2 hD rfl
  refine lv_istore (lv' := [(6, .int r6), (5, .int z_mt), (0, .ref b), (1, .ref aC), (2, .ref aX), (3, .ref aQ), (4, .int i4)]) hx hb dL_law_1045 hl (by decide) rfl (fun ls hl => ?_)
  refine lv_aload_n hx hb dL_law_1047 rfl (lv_at hl 4 rfl) ?_
  refine rcall (va_runV (As := []) (rest := []) S (K6_thrown l D cI cZ cS cJ aX aN aP aJ aI aG aD ms ml z_mt mq mu mN mP mK mI mT mD z_mt rfl) (cwV 0 hts (gd_V wd_845 wd_846 wd_847 wd_67 wd_848) rfl rfl rfl hd6_thrown ⟨Nat.le_of_ble_eq_true rfl, Nat.le_of_ble_eq_true rfl⟩) (rPreV hK (wP_r hP) (ci := 6) (q := (RX6, TX6, 11)) rfl rfl) rfl rfl hl.1 rfl (lv_room (Nat.le_of_ble_eq_true rfl)) dL_law_1048 ⟨by show cells + 3 + 0 ≤ 601024; omega, by show slots + 18 + 0 ≤ 7293034; omega⟩) ?_
  refine lv_iload hx hb dL_law_1051 (lv_at hl 1 rfl) ?_
  refine lv_icmp_eq (tgt := 1058) hx hb dL_law_1053 (by decide) (fun _ => ?_) (fun h => absurd rfl h)
  refine lv_iload hx hb dL_law_1058 (lv_at hl 1 rfl) ?_
  have fin : W p l e room_1 s m #[Value.ref b] below meth c H locs (cells + 3 + 0) (slots + 18 + 0) Q (F0 m 1075 ls []) := by
    refine lv_goto (tgt := 1602) hx hb dL_law_1075 (by decide) ?_
    exact kk H locs ls ⟨sr, wm, wW, bh, bF, bZ, bK, bM, ol, oS, kd, kf, kA, kV, kP, ms, ml, z_mt, mq, mu, mN, mP, mK, mI, mT, mD, f', hI, hP, hD, hS⟩ (lv_sub hl [2, 3, 4, 5, 6] rfl)
  refine lv_if_ne (tgt := 1075) hx hb dL_law_1060 (by decide) (fun _ => fin) (fun h0 => ?_)
  have hk0 : k = 0 := oc1_0 hoc h0
  refine lv_aload_n hx hb dL_law_1063 rfl (lv_at hl 5 rfl) ?_
  refine lv_iconst (v := 0) hx hb dL_law_1064 (by decide) ?_
  refine va_lald hx hb hK.1 (wP_l hP) (((W5x cI aC aS aL aW aB aF aZ aK aM aO aT aY sr wm wW bh bF bZ bK bM ol oS) ++ (HB cI cZ cS aY aV aU aR kd kf kA kV kQ kP))).length 3 (get_last _ _) rfl (i := 0) (by unfold vp_in; decide) dL_law_1065 ?_
  refine lv_iload hx hb dL_law_1066 (lv_at hl 0 rfl) ?_
  refine lv_i2l hx hb dL_law_1068 rfl ?_
  refine l_lcmp hx hb (by rw [hf0 hk0, hrr hk0]; exact if_pos rfl) dL_law_1069 ?_
  exact lv_if_eq (tgt := 1075) hx hb dL_law_1070 (by decide) (fun _ => fin) (fun h => absurd rfl h)
set_option maxHeartbeats 4000000 in
set_option maxRecDepth 100000 in
theorem C_ranked (hfl : l.stackTraces = false) (C : LC p s m c b L xs D cI cZ cS cJ) {i : Nat} {i4 : Int32} (hi : i + 4 ≤ L) (hL : L ≤ 2048) (e4 : i4 = nI i) (hcs : cells + 3 ≤ 601024 ∧ slots + 18 ≤ 7293034) (hl : lv_has ls 9 [(0, .ref b), (1, .ref aC), (2, .ref aX), (3, .ref aQ), (4, .int i4)]) (hI : LI s D cI cZ cS cJ aC aS aL aW aB aF aZ aK aM aO aT aY aV aU aR aQ aX aN aP aJ aI aG aD kQ H locs) (kk : ∀ (H1 : Heap) (locs1 : List Loc) (ls : Array Slot), LI s D cI cZ cS cJ aC aS aL aW aB aF aZ aK aM aO aT aY aV aU aR aQ aX aN aP aJ aI aG aD kQ H1 locs1 → lv_has ls 9 [(0, .ref b), (1, .ref aC), (2, .ref aX), (3, .ref aQ), (4, .int i4)] → W p l e room_1 s m #[Value.ref b] below meth c H1 locs1 (cells + 3) (slots + 18) Q (F0 m 1602 ls [])) : W p l e room_1 s m #[Value.ref b] below meth c H locs cells slots Q (F0 m 1078 ls []) := by
  obtain ⟨hx, hb, hml, hown, hts, hXs, hbl, hK, hX, hZ, hY⟩ := C
  have hbA : ¬ lA s b := Nat.not_le.mpr hbl
  have S : CallFix p m c cL_law 9 s #[Value.ref b] lw_all RL := ⟨hx, hb, hml, hown, hts⟩
  obtain ⟨hc1, hc2⟩ := hcs
  have n1 : vp_in (i4 + 1) L := by rw [e4]; exact in_arg (j := 1) (by omega) hL
  obtain ⟨sr, wm, wW, bh, bF, bZ, bK, bM, ol, oS, kd, kf, kA, kV, kP, ms, ml, mt, mq, mu, mN, mP, mK, mI, mT, mD, f, hI, hP, hD, hS⟩ := hI
  obtain ⟨k, r, r6, z_mt, hF5, hF6, hoc, hrr, hI⟩ := T_ranked hI kA mt (xs (i4 + 1).toNatClampNeg)
  have ht : ∀ B : Nat → Prop, va_D B ((W5x cI aC aS aL aW aB aF aZ aK aM aO aT aY sr wm wW bh bF bZ bK bM ol oS) ++ (HB cI cZ cS aY aV aU aR kd kf kA kV kQ kP)) → va_D B ((W5x cI aC aS aL aW aB aF aZ aK aM aO aT aY sr wm wW bh bF bZ bK bM ol oS) ++ (HB cI cZ cS aY aV aU aR kd kf kA kV kQ kP)) := tr_D cI cZ cS aC aS aL aW aB aF aZ aK aM aO aT aY aV aU aR kQ (Or.inl rfl)
  obtain ⟨f', hf0, hf1⟩ : ∃ f' : Nat → Int64, (k = 0 → f' = vp_updL f 0 r.toInt64) ∧ (k ≠ 0 → f' = f) := ⟨if k = 0 then vp_updL f 0 r.toInt64 else f, fun h => if_pos h, fun h => if_neg h⟩
  refine lv_aload_n hx hb dL_law_1078 rfl (lv_at hl 1 rfl) ?_
  refine lv_aload_n hx hb dL_law_1079 rfl (lv_at hl 0 rfl) ?_
  refine lv_iload hx hb dL_law_1080 (lv_at hl 4 rfl) ?_
  refine lv_iconst (v := 1) hx hb dL_law_1082 (by decide) ?_
  refine lv_iadd hx hb dL_law_1083 ?_
  refine va_sld hx hb hXs hbl hbA hS n1 dL_law_1084 ?_
  refine lv_aload_n hx hb dL_law_1085 rfl (lv_at hl 3 rfl) ?_
  refine ucallLi (X' := (((W5x cI aC aS aL aW aB aF aZ aK aM aO aT aY sr wm wW bh bF bZ bK bM ol oS) ++ (HB cI cZ cS aY aV aU aR kd kf kA kV kQ kP)) ++ [(aQ, .inl (cJ, 1, .inr (.inl f')))])) (vx_runSW (As := [.ref aC, .int (xs (i4 + 1).toNatClampNeg), .ref aQ]) (rest := []) S (KL_ranked l D cI cZ cS cJ aC aQ _ _ [.ref aS, .ref aY, .ref aO] rfl ht f f' (xs (i4 + 1).toNatClampNeg) k r z_mt hoc hf0 hf1 (K5_ranked l hfl D cI cZ cS cJ aC aS aL aW aB aF aZ aK aM aO aT aY aV aU aR kQ sr wm wW bh bF bZ bK bM ol oS kd kf kA kV kP (xs (i4 + 1).toNatClampNeg) k r  hF5)) (vx_cwSW 3 hts (gd_SW wd_677 wd_678 wd_60 cwL_ranked) rfl rfl rfl hdL_ranked ⟨Nat.le_of_ble_eq_true rfl, Nat.le_of_ble_eq_true rfl⟩) (wPreS hK hX hZ hY hS (wP_l hP) (wD_l hD)) rfl rfl hl.1 rfl (lv_room (Nat.le_of_ble_eq_true rfl)) dL_law_1086 ⟨by show cells + 1 ≤ 601024; omega, by show slots + 6 ≤ 7293034; omega⟩) hS hP hD (fun H locs hP hS => ?_)
  have hD : va_D (lA s) ((((W5x cI aC aS aL aW aB aF aZ aK aM aO aT aY sr wm wW bh bF bZ bK bM ol oS) ++ (HB cI cZ cS aY aV aU aR kd kf kA kV kQ kP)) ++ [(aQ, .inl (cJ, 1, .inr (.inl f')))]) ++ (W6 cI aX aN aP aJ aI aG aD ms ml mt mq mu mN mP mK mI mT mD)) := wD_re hD (fun B h => wD_re2 (wD_re h ht) rfl)
  refine W.widen (k := cells + 3) (n := slots + 18) (by show cells + 1 ≤ cells + 3; omega) (by show slots + 6 ≤ slots + 18; omega) ?_
  refine lv_istore (lv' := [(5, .int z_mt), (0, .ref b), (1, .ref aC), (2, .ref aX), (3, .ref aQ), (4, .int i4)]) hx hb dL_law_1089 hl (by decide) rfl (fun ls hl => ?_)
  refine lv_aload_n hx hb dL_law_1091 rfl (lv_at hl 3 rfl) ?_
  refine lv_aload_n hx hb dL_law_1092 rfl (lv_at hl 1 rfl) ?_
  refine lv_iload hx hb dL_law_1093 (lv_at hl 5 rfl) ?_
  refine lv_iconst (v := 1) hx hb dL_law_1095 (by decide) ?_
  refine lv_iadd hx hb dL_law_1096 ?_
  refine va_sld hx hb hXs hbl hbA hS n1 dL_law_1097 ?_
  refine ucallRi (Y' := (W6 cI aX aN aP aJ aI aG aD ms ml z_mt mq mu mN mP mK mI mT mD)) (va_runV (As := [.int (xs (i4 + 1).toNatClampNeg)]) (rest := []) S (K6_ranked l D cI cZ cS cJ aX aN aP aJ aI aG aD ms ml mt mq mu mN mP mK mI mT mD (xs (i4 + 1).toNatClampNeg) r6 z_mt hF6) (cwV 1 hts (gd_V wd_1053 wd_1054 wd_1055 wd_67 wd_1056) rfl rfl rfl hd6_ranked ⟨Nat.le_of_ble_eq_true rfl, Nat.le_of_ble_eq_true rfl⟩) (uPreV2 hK (wP_r hP) (wD_r hD) (ci := 6) (q := (RX6, TX6, 11)) rfl rfl) rfl rfl hl.1 rfl (lv_room (Nat.le_of_ble_eq_true rfl)) dL_law_1098 ⟨by show cells + 3 + 0 ≤ 601024; omega, by show slots + 18 + 0 ≤ 7293034; omega⟩) hS hP hD (fun H locs hP hS => ?_)
  have hD : va_D (lA s) ((((W5x cI aC aS aL aW aB aF aZ aK aM aO aT aY sr wm wW bh bF bZ bK bM ol oS) ++ (HB cI cZ cS aY aV aU aR kd kf kA kV kQ kP)) ++ [(aQ, .inl (cJ, 1, .inr (.inl f')))]) ++ (W6 cI aX aN aP aJ aI aG aD ms ml z_mt mq mu mN mP mK mI mT mD)) := wD_re2 hD rfl
  refine lv_istore (lv' := [(6, .int r6), (5, .int z_mt), (0, .ref b), (1, .ref aC), (2, .ref aX), (3, .ref aQ), (4, .int i4)]) hx hb dL_law_1101 hl (by decide) rfl (fun ls hl => ?_)
  refine lv_aload_n hx hb dL_law_1103 rfl (lv_at hl 4 rfl) ?_
  refine rcall (va_runV (As := []) (rest := []) S (K6_thrown l D cI cZ cS cJ aX aN aP aJ aI aG aD ms ml z_mt mq mu mN mP mK mI mT mD z_mt rfl) (cwV 0 hts (gd_V wd_845 wd_846 wd_847 wd_67 wd_848) rfl rfl rfl hd6_thrown ⟨Nat.le_of_ble_eq_true rfl, Nat.le_of_ble_eq_true rfl⟩) (rPreV hK (wP_r hP) (ci := 6) (q := (RX6, TX6, 11)) rfl rfl) rfl rfl hl.1 rfl (lv_room (Nat.le_of_ble_eq_true rfl)) dL_law_1104 ⟨by show cells + 3 + 0 ≤ 601024; omega, by show slots + 18 + 0 ≤ 7293034; omega⟩) ?_
  refine lv_iload hx hb dL_law_1107 (lv_at hl 1 rfl) ?_
  refine lv_icmp_eq (tgt := 1114) hx hb dL_law_1109 (by decide) (fun _ => ?_) (fun h => absurd rfl h)
  refine lv_iload hx hb dL_law_1114 (lv_at hl 1 rfl) ?_
  have fin : W p l e room_1 s m #[Value.ref b] below meth c H locs (cells + 3 + 0) (slots + 18 + 0) Q (F0 m 1131 ls []) := by
    refine lv_goto (tgt := 1602) hx hb dL_law_1131 (by decide) ?_
    exact kk H locs ls ⟨sr, wm, wW, bh, bF, bZ, bK, bM, ol, oS, kd, kf, kA, kV, kP, ms, ml, z_mt, mq, mu, mN, mP, mK, mI, mT, mD, f', hI, hP, hD, hS⟩ (lv_sub hl [2, 3, 4, 5, 6] rfl)
  refine lv_if_ne (tgt := 1131) hx hb dL_law_1116 (by decide) (fun _ => fin) (fun h0 => ?_)
  have hk0 : k = 0 := oc1_0 hoc h0
  refine lv_aload_n hx hb dL_law_1119 rfl (lv_at hl 5 rfl) ?_
  refine lv_iconst (v := 0) hx hb dL_law_1120 (by decide) ?_
  refine va_lald hx hb hK.1 (wP_l hP) (((W5x cI aC aS aL aW aB aF aZ aK aM aO aT aY sr wm wW bh bF bZ bK bM ol oS) ++ (HB cI cZ cS aY aV aU aR kd kf kA kV kQ kP))).length 3 (get_last _ _) rfl (i := 0) (by unfold vp_in; decide) dL_law_1121 ?_
  refine lv_iload hx hb dL_law_1122 (lv_at hl 0 rfl) ?_
  refine lv_i2l hx hb dL_law_1124 rfl ?_
  refine l_lcmp hx hb (by rw [hf0 hk0, hrr hk0]; exact if_pos rfl) dL_law_1125 ?_
  exact lv_if_eq (tgt := 1131) hx hb dL_law_1126 (by decide) (fun _ => fin) (fun h => absurd rfl h)
set_option maxHeartbeats 4000000 in
set_option maxRecDepth 100000 in
theorem C_missed (hfl : l.stackTraces = false) (C : LC p s m c b L xs D cI cZ cS cJ) {i : Nat} {i4 : Int32} (hi : i + 4 ≤ L) (hL : L ≤ 2048) (e4 : i4 = nI i) (hcs : cells + 3 ≤ 601024 ∧ slots + 18 ≤ 7293034) (hl : lv_has ls 9 [(0, .ref b), (1, .ref aC), (2, .ref aX), (3, .ref aQ), (4, .int i4)]) (hI : LI s D cI cZ cS cJ aC aS aL aW aB aF aZ aK aM aO aT aY aV aU aR aQ aX aN aP aJ aI aG aD kQ H locs) (kk : ∀ (H1 : Heap) (locs1 : List Loc) (ls : Array Slot), LI s D cI cZ cS cJ aC aS aL aW aB aF aZ aK aM aO aT aY aV aU aR aQ aX aN aP aJ aI aG aD kQ H1 locs1 → lv_has ls 9 [(0, .ref b), (1, .ref aC), (2, .ref aX), (3, .ref aQ), (4, .int i4)] → W p l e room_1 s m #[Value.ref b] below meth c H1 locs1 (cells + 3) (slots + 18) Q (F0 m 1602 ls [])) : W p l e room_1 s m #[Value.ref b] below meth c H locs cells slots Q (F0 m 1134 ls []) := by
  obtain ⟨hx, hb, hml, hown, hts, hXs, hbl, hK, hX, hZ, hY⟩ := C
  have hbA : ¬ lA s b := Nat.not_le.mpr hbl
  have S : CallFix p m c cL_law 9 s #[Value.ref b] lw_all RL := ⟨hx, hb, hml, hown, hts⟩
  obtain ⟨hc1, hc2⟩ := hcs
  have n1 : vp_in (i4 + 1) L := by rw [e4]; exact in_arg (j := 1) (by omega) hL
  have n2 : vp_in (i4 + 2) L := by rw [e4]; exact in_arg (j := 2) (by omega) hL
  obtain ⟨sr, wm, wW, bh, bF, bZ, bK, bM, ol, oS, kd, kf, kA, kV, kP, ms, ml, mt, mq, mu, mN, mP, mK, mI, mT, mD, f, hI, hP, hD, hS⟩ := hI
  obtain ⟨k, r, r6, z_mt, hF5, hF6, hoc, hrr, hI⟩ := T_missed hI kA mt (xs (i4 + 1).toNatClampNeg) (xs (i4 + 2).toNatClampNeg)
  have ht : ∀ B : Nat → Prop, va_D B ((W5x cI aC aS aL aW aB aF aZ aK aM aO aT aY sr wm wW bh bF bZ bK bM ol oS) ++ (HB cI cZ cS aY aV aU aR kd kf kA kV kQ kP)) → va_D B ((W5x cI aC aS aL aW aB aF aZ aK aM aO aT aY sr wm wW bh bF bZ bK bM ol oS) ++ (HB cI cZ cS aY aV aU aR kd kf kA kV kQ kP)) := tr_D cI cZ cS aC aS aL aW aB aF aZ aK aM aO aT aY aV aU aR kQ (Or.inl rfl)
  obtain ⟨f', hf0, hf1⟩ : ∃ f' : Nat → Int64, (k = 0 → f' = vp_updL f 0 r.toInt64) ∧ (k ≠ 0 → f' = f) := ⟨if k = 0 then vp_updL f 0 r.toInt64 else f, fun h => if_pos h, fun h => if_neg h⟩
  refine lv_aload_n hx hb dL_law_1134 rfl (lv_at hl 1 rfl) ?_
  refine lv_aload_n hx hb dL_law_1135 rfl (lv_at hl 0 rfl) ?_
  refine lv_iload hx hb dL_law_1136 (lv_at hl 4 rfl) ?_
  refine lv_iconst (v := 1) hx hb dL_law_1138 (by decide) ?_
  refine lv_iadd hx hb dL_law_1139 ?_
  refine va_sld hx hb hXs hbl hbA hS n1 dL_law_1140 ?_
  refine lv_aload_n hx hb dL_law_1141 rfl (lv_at hl 0 rfl) ?_
  refine lv_iload hx hb dL_law_1142 (lv_at hl 4 rfl) ?_
  refine lv_iconst (v := 2) hx hb dL_law_1144 (by decide) ?_
  refine lv_iadd hx hb dL_law_1145 ?_
  refine va_sld hx hb hXs hbl hbA hS n2 dL_law_1146 ?_
  refine lv_aload_n hx hb dL_law_1147 rfl (lv_at hl 3 rfl) ?_
  refine ucallLi (X' := (((W5x cI aC aS aL aW aB aF aZ aK aM aO aT aY sr wm wW bh bF bZ bK bM ol oS) ++ (HB cI cZ cS aY aV aU aR kd kf kA kV kQ kP)) ++ [(aQ, .inl (cJ, 1, .inr (.inl f')))])) (vx_runSW (As := [.ref aC, .int (xs (i4 + 1).toNatClampNeg), .int (xs (i4 + 2).toNatClampNeg), .ref aQ]) (rest := []) S (KL_missed l D cI cZ cS cJ aC aQ _ _ [.ref aS, .ref aY, .ref aO] rfl ht f f' (xs (i4 + 1).toNatClampNeg) (xs (i4 + 2).toNatClampNeg) k r z_mt hoc hf0 hf1 (K5_missed l hfl D cI cZ cS cJ aC aS aL aW aB aF aZ aK aM aO aT aY aV aU aR kQ sr wm wW bh bF bZ bK bM ol oS kd kf kA kV kP (xs (i4 + 1).toNatClampNeg) (xs (i4 + 2).toNatClampNeg) k r  hF5)) (vx_cwSW 4 hts (gd_SW wd_697 wd_698 wd_60 cwL_missed) rfl rfl rfl hdL_missed ⟨Nat.le_of_ble_eq_true rfl, Nat.le_of_ble_eq_true rfl⟩) (wPreS hK hX hZ hY hS (wP_l hP) (wD_l hD)) rfl rfl hl.1 rfl (lv_room (Nat.le_of_ble_eq_true rfl)) dL_law_1148 ⟨by show cells + 2 ≤ 601024; omega, by show slots + 12 ≤ 7293034; omega⟩) hS hP hD (fun H locs hP hS => ?_)
  have hD : va_D (lA s) ((((W5x cI aC aS aL aW aB aF aZ aK aM aO aT aY sr wm wW bh bF bZ bK bM ol oS) ++ (HB cI cZ cS aY aV aU aR kd kf kA kV kQ kP)) ++ [(aQ, .inl (cJ, 1, .inr (.inl f')))]) ++ (W6 cI aX aN aP aJ aI aG aD ms ml mt mq mu mN mP mK mI mT mD)) := wD_re hD (fun B h => wD_re2 (wD_re h ht) rfl)
  refine W.widen (k := cells + 3) (n := slots + 18) (by show cells + 2 ≤ cells + 3; omega) (by show slots + 12 ≤ slots + 18; omega) ?_
  refine lv_istore (lv' := [(5, .int z_mt), (0, .ref b), (1, .ref aC), (2, .ref aX), (3, .ref aQ), (4, .int i4)]) hx hb dL_law_1151 hl (by decide) rfl (fun ls hl => ?_)
  refine lv_aload_n hx hb dL_law_1153 rfl (lv_at hl 3 rfl) ?_
  refine lv_aload_n hx hb dL_law_1154 rfl (lv_at hl 1 rfl) ?_
  refine lv_iload hx hb dL_law_1155 (lv_at hl 5 rfl) ?_
  refine lv_iconst (v := 1) hx hb dL_law_1157 (by decide) ?_
  refine lv_iadd hx hb dL_law_1158 ?_
  refine va_sld hx hb hXs hbl hbA hS n1 dL_law_1159 ?_
  refine lv_aload_n hx hb dL_law_1160 rfl (lv_at hl 1 rfl) ?_
  refine lv_iload hx hb dL_law_1161 (lv_at hl 5 rfl) ?_
  refine lv_iconst (v := 2) hx hb dL_law_1163 (by decide) ?_
  refine lv_iadd hx hb dL_law_1164 ?_
  refine va_sld hx hb hXs hbl hbA hS n2 dL_law_1165 ?_
  refine ucallRi (Y' := (W6 cI aX aN aP aJ aI aG aD ms ml z_mt mq mu mN mP mK mI mT mD)) (va_runV (As := [.int (xs (i4 + 1).toNatClampNeg), .int (xs (i4 + 2).toNatClampNeg)]) (rest := []) S (K6_missed l D cI cZ cS cJ aX aN aP aJ aI aG aD ms ml mt mq mu mN mP mK mI mT mD (xs (i4 + 1).toNatClampNeg) (xs (i4 + 2).toNatClampNeg) r6 z_mt hF6) (cwV 2 hts (gd_V wd_1061 wd_1062 wd_1063 wd_67 wd_1064) rfl rfl rfl hd6_missed ⟨Nat.le_of_ble_eq_true rfl, Nat.le_of_ble_eq_true rfl⟩) (uPreV2 hK (wP_r hP) (wD_r hD) (ci := 6) (q := (RX6, TX6, 11)) rfl rfl) rfl rfl hl.1 rfl (lv_room (Nat.le_of_ble_eq_true rfl)) dL_law_1166 ⟨by show cells + 3 + 0 ≤ 601024; omega, by show slots + 18 + 0 ≤ 7293034; omega⟩) hS hP hD (fun H locs hP hS => ?_)
  have hD : va_D (lA s) ((((W5x cI aC aS aL aW aB aF aZ aK aM aO aT aY sr wm wW bh bF bZ bK bM ol oS) ++ (HB cI cZ cS aY aV aU aR kd kf kA kV kQ kP)) ++ [(aQ, .inl (cJ, 1, .inr (.inl f')))]) ++ (W6 cI aX aN aP aJ aI aG aD ms ml z_mt mq mu mN mP mK mI mT mD)) := wD_re2 hD rfl
  refine lv_istore (lv' := [(6, .int r6), (5, .int z_mt), (0, .ref b), (1, .ref aC), (2, .ref aX), (3, .ref aQ), (4, .int i4)]) hx hb dL_law_1169 hl (by decide) rfl (fun ls hl => ?_)
  refine lv_aload_n hx hb dL_law_1171 rfl (lv_at hl 4 rfl) ?_
  refine rcall (va_runV (As := []) (rest := []) S (K6_thrown l D cI cZ cS cJ aX aN aP aJ aI aG aD ms ml z_mt mq mu mN mP mK mI mT mD z_mt rfl) (cwV 0 hts (gd_V wd_845 wd_846 wd_847 wd_67 wd_848) rfl rfl rfl hd6_thrown ⟨Nat.le_of_ble_eq_true rfl, Nat.le_of_ble_eq_true rfl⟩) (rPreV hK (wP_r hP) (ci := 6) (q := (RX6, TX6, 11)) rfl rfl) rfl rfl hl.1 rfl (lv_room (Nat.le_of_ble_eq_true rfl)) dL_law_1172 ⟨by show cells + 3 + 0 ≤ 601024; omega, by show slots + 18 + 0 ≤ 7293034; omega⟩) ?_
  refine lv_iload hx hb dL_law_1175 (lv_at hl 1 rfl) ?_
  refine lv_icmp_eq (tgt := 1182) hx hb dL_law_1177 (by decide) (fun _ => ?_) (fun h => absurd rfl h)
  refine lv_iload hx hb dL_law_1182 (lv_at hl 1 rfl) ?_
  have fin : W p l e room_1 s m #[Value.ref b] below meth c H locs (cells + 3 + 0) (slots + 18 + 0) Q (F0 m 1199 ls []) := by
    refine lv_goto (tgt := 1602) hx hb dL_law_1199 (by decide) ?_
    exact kk H locs ls ⟨sr, wm, wW, bh, bF, bZ, bK, bM, ol, oS, kd, kf, kA, kV, kP, ms, ml, z_mt, mq, mu, mN, mP, mK, mI, mT, mD, f', hI, hP, hD, hS⟩ (lv_sub hl [2, 3, 4, 5, 6] rfl)
  refine lv_if_ne (tgt := 1199) hx hb dL_law_1184 (by decide) (fun _ => fin) (fun h0 => ?_)
  have hk0 : k = 0 := oc2_0 hoc h0
  refine lv_aload_n hx hb dL_law_1187 rfl (lv_at hl 5 rfl) ?_
  refine lv_iconst (v := 0) hx hb dL_law_1188 (by decide) ?_
  refine va_lald hx hb hK.1 (wP_l hP) (((W5x cI aC aS aL aW aB aF aZ aK aM aO aT aY sr wm wW bh bF bZ bK bM ol oS) ++ (HB cI cZ cS aY aV aU aR kd kf kA kV kQ kP))).length 3 (get_last _ _) rfl (i := 0) (by unfold vp_in; decide) dL_law_1189 ?_
  refine lv_iload hx hb dL_law_1190 (lv_at hl 0 rfl) ?_
  refine lv_i2l hx hb dL_law_1192 rfl ?_
  refine l_lcmp hx hb (by rw [hf0 hk0, hrr hk0]; exact if_pos rfl) dL_law_1193 ?_
  exact lv_if_eq (tgt := 1199) hx hb dL_law_1194 (by decide) (fun _ => fin) (fun h => absurd rfl h)
set_option maxHeartbeats 4000000 in
set_option maxRecDepth 100000 in
theorem C_weak (hfl : l.stackTraces = false) (C : LC p s m c b L xs D cI cZ cS cJ) {i : Nat} {i4 : Int32} (hi : i + 4 ≤ L) (hL : L ≤ 2048) (e4 : i4 = nI i) (hcs : cells + 3 ≤ 601024 ∧ slots + 18 ≤ 7293034) (hl : lv_has ls 9 [(0, .ref b), (1, .ref aC), (2, .ref aX), (3, .ref aQ), (4, .int i4)]) (hI : LI s D cI cZ cS cJ aC aS aL aW aB aF aZ aK aM aO aT aY aV aU aR aQ aX aN aP aJ aI aG aD kQ H locs) (kk : ∀ (H1 : Heap) (locs1 : List Loc) (ls : Array Slot), LI s D cI cZ cS cJ aC aS aL aW aB aF aZ aK aM aO aT aY aV aU aR aQ aX aN aP aJ aI aG aD kQ H1 locs1 → lv_has ls 9 [(0, .ref b), (1, .ref aC), (2, .ref aX), (3, .ref aQ), (4, .int i4)] → W p l e room_1 s m #[Value.ref b] below meth c H1 locs1 (cells + 3) (slots + 18) Q (F0 m 1602 ls [])) : W p l e room_1 s m #[Value.ref b] below meth c H locs cells slots Q (F0 m 1202 ls []) := by
  obtain ⟨hx, hb, hml, hown, hts, hXs, hbl, hK, hX, hZ, hY⟩ := C
  have hbA : ¬ lA s b := Nat.not_le.mpr hbl
  have S : CallFix p m c cL_law 9 s #[Value.ref b] lw_all RL := ⟨hx, hb, hml, hown, hts⟩
  obtain ⟨hc1, hc2⟩ := hcs
  have n1 : vp_in (i4 + 1) L := by rw [e4]; exact in_arg (j := 1) (by omega) hL
  have n2 : vp_in (i4 + 2) L := by rw [e4]; exact in_arg (j := 2) (by omega) hL
  have n3 : vp_in (i4 + 3) L := by rw [e4]; exact in_arg (j := 3) (by omega) hL
  obtain ⟨sr, wm, wW, bh, bF, bZ, bK, bM, ol, oS, kd, kf, kA, kV, kP, ms, ml, mt, mq, mu, mN, mP, mK, mI, mT, mD, f, hI, hP, hD, hS⟩ := hI
  obtain ⟨k, r, r6, z_mt, hF5, hF6, hoc, hrr, hI⟩ := T_weak hI kA mt (xs (i4 + 1).toNatClampNeg) (xs (i4 + 2).toNatClampNeg) (xs (i4 + 3).toNatClampNeg)
  have ht : ∀ B : Nat → Prop, va_D B ((W5x cI aC aS aL aW aB aF aZ aK aM aO aT aY sr wm wW bh bF bZ bK bM ol oS) ++ (HB cI cZ cS aY aV aU aR kd kf kA kV kQ kP)) → va_D B ((W5x cI aC aS aL aW aB aF aZ aK aM aO aT aY sr wm wW bh bF bZ bK bM ol oS) ++ (HB cI cZ cS aY aV aU aR kd kf kA kV kQ kP)) := tr_D cI cZ cS aC aS aL aW aB aF aZ aK aM aO aT aY aV aU aR kQ (Or.inl rfl)
  obtain ⟨f', hf0, hf1⟩ : ∃ f' : Nat → Int64, (k = 0 → f' = vp_updL f 0 r.toInt64) ∧ (k ≠ 0 → f' = f) := ⟨if k = 0 then vp_updL f 0 r.toInt64 else f, fun h => if_pos h, fun h => if_neg h⟩
  refine lv_aload_n hx hb dL_law_1202 rfl (lv_at hl 1 rfl) ?_
  refine lv_aload_n hx hb dL_law_1203 rfl (lv_at hl 0 rfl) ?_
  refine lv_iload hx hb dL_law_1204 (lv_at hl 4 rfl) ?_
  refine lv_iconst (v := 1) hx hb dL_law_1206 (by decide) ?_
  refine lv_iadd hx hb dL_law_1207 ?_
  refine va_sld hx hb hXs hbl hbA hS n1 dL_law_1208 ?_
  refine lv_aload_n hx hb dL_law_1209 rfl (lv_at hl 0 rfl) ?_
  refine lv_iload hx hb dL_law_1210 (lv_at hl 4 rfl) ?_
  refine lv_iconst (v := 2) hx hb dL_law_1212 (by decide) ?_
  refine lv_iadd hx hb dL_law_1213 ?_
  refine va_sld hx hb hXs hbl hbA hS n2 dL_law_1214 ?_
  refine lv_aload_n hx hb dL_law_1215 rfl (lv_at hl 0 rfl) ?_
  refine lv_iload hx hb dL_law_1216 (lv_at hl 4 rfl) ?_
  refine lv_iconst (v := 3) hx hb dL_law_1218 (by decide) ?_
  refine lv_iadd hx hb dL_law_1219 ?_
  refine va_sld hx hb hXs hbl hbA hS n3 dL_law_1220 ?_
  refine lv_aload_n hx hb dL_law_1221 rfl (lv_at hl 3 rfl) ?_
  refine ucallLi (X' := (((W5x cI aC aS aL aW aB aF aZ aK aM aO aT aY sr wm wW bh bF bZ bK bM ol oS) ++ (HB cI cZ cS aY aV aU aR kd kf kA kV kQ kP)) ++ [(aQ, .inl (cJ, 1, .inr (.inl f')))])) (vx_runSW (As := [.ref aC, .int (xs (i4 + 1).toNatClampNeg), .int (xs (i4 + 2).toNatClampNeg), .int (xs (i4 + 3).toNatClampNeg), .ref aQ]) (rest := []) S (KL_weak l D cI cZ cS cJ aC aQ _ _ [.ref aS, .ref aY, .ref aO] rfl ht f f' (xs (i4 + 1).toNatClampNeg) (xs (i4 + 2).toNatClampNeg) (xs (i4 + 3).toNatClampNeg) k r z_mt hoc hf0 hf1 (K5_weak l hfl D cI cZ cS cJ aC aS aL aW aB aF aZ aK aM aO aT aY aV aU aR kQ sr wm wW bh bF bZ bK bM ol oS kd kf kA kV kP (xs (i4 + 1).toNatClampNeg) (xs (i4 + 2).toNatClampNeg) (xs (i4 + 3).toNatClampNeg) k r  hF5)) (vx_cwSW 5 hts (gd_SW wd_727 wd_728 wd_60 cwL_weak) rfl rfl rfl hdL_weak ⟨Nat.le_of_ble_eq_true rfl, Nat.le_of_ble_eq_true rfl⟩) (wPreS hK hX hZ hY hS (wP_l hP) (wD_l hD)) rfl rfl hl.1 rfl (lv_room (Nat.le_of_ble_eq_true rfl)) dL_law_1222 ⟨by show cells + 1 ≤ 601024; omega, by show slots + 6 ≤ 7293034; omega⟩) hS hP hD (fun H locs hP hS => ?_)
  have hD : va_D (lA s) ((((W5x cI aC aS aL aW aB aF aZ aK aM aO aT aY sr wm wW bh bF bZ bK bM ol oS) ++ (HB cI cZ cS aY aV aU aR kd kf kA kV kQ kP)) ++ [(aQ, .inl (cJ, 1, .inr (.inl f')))]) ++ (W6 cI aX aN aP aJ aI aG aD ms ml mt mq mu mN mP mK mI mT mD)) := wD_re hD (fun B h => wD_re2 (wD_re h ht) rfl)
  refine W.widen (k := cells + 3) (n := slots + 18) (by show cells + 1 ≤ cells + 3; omega) (by show slots + 6 ≤ slots + 18; omega) ?_
  refine lv_istore (lv' := [(5, .int z_mt), (0, .ref b), (1, .ref aC), (2, .ref aX), (3, .ref aQ), (4, .int i4)]) hx hb dL_law_1225 hl (by decide) rfl (fun ls hl => ?_)
  refine lv_aload_n hx hb dL_law_1227 rfl (lv_at hl 3 rfl) ?_
  refine lv_aload_n hx hb dL_law_1228 rfl (lv_at hl 1 rfl) ?_
  refine lv_iload hx hb dL_law_1229 (lv_at hl 5 rfl) ?_
  refine lv_iconst (v := 1) hx hb dL_law_1231 (by decide) ?_
  refine lv_iadd hx hb dL_law_1232 ?_
  refine va_sld hx hb hXs hbl hbA hS n1 dL_law_1233 ?_
  refine lv_aload_n hx hb dL_law_1234 rfl (lv_at hl 1 rfl) ?_
  refine lv_iload hx hb dL_law_1235 (lv_at hl 5 rfl) ?_
  refine lv_iconst (v := 2) hx hb dL_law_1237 (by decide) ?_
  refine lv_iadd hx hb dL_law_1238 ?_
  refine va_sld hx hb hXs hbl hbA hS n2 dL_law_1239 ?_
  refine lv_aload_n hx hb dL_law_1240 rfl (lv_at hl 1 rfl) ?_
  refine lv_iload hx hb dL_law_1241 (lv_at hl 5 rfl) ?_
  refine lv_iconst (v := 3) hx hb dL_law_1243 (by decide) ?_
  refine lv_iadd hx hb dL_law_1244 ?_
  refine va_sld hx hb hXs hbl hbA hS n3 dL_law_1245 ?_
  refine ucallRi (Y' := (W6 cI aX aN aP aJ aI aG aD ms ml z_mt mq mu mN mP mK mI mT mD)) (va_runV (As := [.int (xs (i4 + 1).toNatClampNeg), .int (xs (i4 + 2).toNatClampNeg), .int (xs (i4 + 3).toNatClampNeg)]) (rest := []) S (K6_weak l D cI cZ cS cJ aX aN aP aJ aI aG aD ms ml mt mq mu mN mP mK mI mT mD (xs (i4 + 1).toNatClampNeg) (xs (i4 + 2).toNatClampNeg) (xs (i4 + 3).toNatClampNeg) r6 z_mt hF6) (cwV 3 hts (gd_V wd_1077 wd_1078 wd_1079 wd_67 wd_1080) rfl rfl rfl hd6_weak ⟨Nat.le_of_ble_eq_true rfl, Nat.le_of_ble_eq_true rfl⟩) (uPreV2 hK (wP_r hP) (wD_r hD) (ci := 6) (q := (RX6, TX6, 11)) rfl rfl) rfl rfl hl.1 rfl (lv_room (Nat.le_of_ble_eq_true rfl)) dL_law_1246 ⟨by show cells + 3 + 0 ≤ 601024; omega, by show slots + 18 + 0 ≤ 7293034; omega⟩) hS hP hD (fun H locs hP hS => ?_)
  have hD : va_D (lA s) ((((W5x cI aC aS aL aW aB aF aZ aK aM aO aT aY sr wm wW bh bF bZ bK bM ol oS) ++ (HB cI cZ cS aY aV aU aR kd kf kA kV kQ kP)) ++ [(aQ, .inl (cJ, 1, .inr (.inl f')))]) ++ (W6 cI aX aN aP aJ aI aG aD ms ml z_mt mq mu mN mP mK mI mT mD)) := wD_re2 hD rfl
  refine lv_istore (lv' := [(6, .int r6), (5, .int z_mt), (0, .ref b), (1, .ref aC), (2, .ref aX), (3, .ref aQ), (4, .int i4)]) hx hb dL_law_1249 hl (by decide) rfl (fun ls hl => ?_)
  refine lv_aload_n hx hb dL_law_1251 rfl (lv_at hl 4 rfl) ?_
  refine rcall (va_runV (As := []) (rest := []) S (K6_thrown l D cI cZ cS cJ aX aN aP aJ aI aG aD ms ml z_mt mq mu mN mP mK mI mT mD z_mt rfl) (cwV 0 hts (gd_V wd_845 wd_846 wd_847 wd_67 wd_848) rfl rfl rfl hd6_thrown ⟨Nat.le_of_ble_eq_true rfl, Nat.le_of_ble_eq_true rfl⟩) (rPreV hK (wP_r hP) (ci := 6) (q := (RX6, TX6, 11)) rfl rfl) rfl rfl hl.1 rfl (lv_room (Nat.le_of_ble_eq_true rfl)) dL_law_1252 ⟨by show cells + 3 + 0 ≤ 601024; omega, by show slots + 18 + 0 ≤ 7293034; omega⟩) ?_
  refine lv_iload hx hb dL_law_1255 (lv_at hl 1 rfl) ?_
  refine lv_icmp_eq (tgt := 1262) hx hb dL_law_1257 (by decide) (fun _ => ?_) (fun h => absurd rfl h)
  refine lv_iload hx hb dL_law_1262 (lv_at hl 1 rfl) ?_
  have fin : W p l e room_1 s m #[Value.ref b] below meth c H locs (cells + 3 + 0) (slots + 18 + 0) Q (F0 m 1279 ls []) := by
    refine lv_goto (tgt := 1602) hx hb dL_law_1279 (by decide) ?_
    exact kk H locs ls ⟨sr, wm, wW, bh, bF, bZ, bK, bM, ol, oS, kd, kf, kA, kV, kP, ms, ml, z_mt, mq, mu, mN, mP, mK, mI, mT, mD, f', hI, hP, hD, hS⟩ (lv_sub hl [2, 3, 4, 5, 6] rfl)
  refine lv_if_ne (tgt := 1279) hx hb dL_law_1264 (by decide) (fun _ => fin) (fun h0 => ?_)
  have hk0 : k = 0 := oc2_0 hoc h0
  refine lv_aload_n hx hb dL_law_1267 rfl (lv_at hl 5 rfl) ?_
  refine lv_iconst (v := 0) hx hb dL_law_1268 (by decide) ?_
  refine va_lald hx hb hK.1 (wP_l hP) (((W5x cI aC aS aL aW aB aF aZ aK aM aO aT aY sr wm wW bh bF bZ bK bM ol oS) ++ (HB cI cZ cS aY aV aU aR kd kf kA kV kQ kP))).length 3 (get_last _ _) rfl (i := 0) (by unfold vp_in; decide) dL_law_1269 ?_
  refine lv_iload hx hb dL_law_1270 (lv_at hl 0 rfl) ?_
  refine lv_i2l hx hb dL_law_1272 rfl ?_
  refine l_lcmp hx hb (by rw [hf0 hk0, hrr hk0]; exact if_pos rfl) dL_law_1273 ?_
  exact lv_if_eq (tgt := 1279) hx hb dL_law_1274 (by decide) (fun _ => fin) (fun h => absurd rfl h)
set_option maxHeartbeats 4000000 in
set_option maxRecDepth 100000 in
theorem C_finds (hfl : l.stackTraces = false) (C : LC p s m c b L xs D cI cZ cS cJ) {i : Nat} {i4 : Int32} (hi : i + 4 ≤ L) (hL : L ≤ 2048) (e4 : i4 = nI i) (hcs : cells + 3 ≤ 601024 ∧ slots + 18 ≤ 7293034) (hl : lv_has ls 9 [(0, .ref b), (1, .ref aC), (2, .ref aX), (3, .ref aQ), (4, .int i4)]) (hI : LI s D cI cZ cS cJ aC aS aL aW aB aF aZ aK aM aO aT aY aV aU aR aQ aX aN aP aJ aI aG aD kQ H locs) (kk : ∀ (H1 : Heap) (locs1 : List Loc) (ls : Array Slot), LI s D cI cZ cS cJ aC aS aL aW aB aF aZ aK aM aO aT aY aV aU aR aQ aX aN aP aJ aI aG aD kQ H1 locs1 → lv_has ls 9 [(0, .ref b), (1, .ref aC), (2, .ref aX), (3, .ref aQ), (4, .int i4)] → W p l e room_1 s m #[Value.ref b] below meth c H1 locs1 (cells + 3) (slots + 18) Q (F0 m 1602 ls [])) : W p l e room_1 s m #[Value.ref b] below meth c H locs cells slots Q (F0 m 1282 ls []) := by
  obtain ⟨hx, hb, hml, hown, hts, hXs, hbl, hK, hX, hZ, hY⟩ := C
  have hbA : ¬ lA s b := Nat.not_le.mpr hbl
  have S : CallFix p m c cL_law 9 s #[Value.ref b] lw_all RL := ⟨hx, hb, hml, hown, hts⟩
  obtain ⟨hc1, hc2⟩ := hcs
  have n1 : vp_in (i4 + 1) L := by rw [e4]; exact in_arg (j := 1) (by omega) hL
  obtain ⟨sr, wm, wW, bh, bF, bZ, bK, bM, ol, oS, kd, kf, kA, kV, kP, ms, ml, mt, mq, mu, mN, mP, mK, mI, mT, mD, f, hI, hP, hD, hS⟩ := hI
  obtain ⟨k, r, r6, z_mt, hF5, hF6, hoc, hrr, hI⟩ := T_finds hI kA mt (xs (i4 + 1).toNatClampNeg)
  have ht : ∀ B : Nat → Prop, va_D B ((W5x cI aC aS aL aW aB aF aZ aK aM aO aT aY sr wm wW bh bF bZ bK bM ol oS) ++ (HB cI cZ cS aY aV aU aR kd kf kA kV kQ kP)) → va_D B ((W5x cI aC aS aL aW aB aF aZ aK aM aO aT aY sr wm wW bh bF bZ bK bM ol oS) ++ (HB cI cZ cS aY aV aU aR kd kf kA kV kQ kP)) := tr_D cI cZ cS aC aS aL aW aB aF aZ aK aM aO aT aY aV aU aR kQ (Or.inl rfl)
  obtain ⟨f', hf0, hf1⟩ : ∃ f' : Nat → Int64, (k = 0 → f' = vp_updL f 0 (if r = 0 then (0 : Int64) else 1)) ∧ (k ≠ 0 → f' = f) := ⟨if k = 0 then vp_updL f 0 (if r = 0 then (0 : Int64) else 1) else f, fun h => if_pos h, fun h => if_neg h⟩
  refine lv_aload_n hx hb dL_law_1282 rfl (lv_at hl 1 rfl) ?_
  refine lv_aload_n hx hb dL_law_1283 rfl (lv_at hl 0 rfl) ?_
  refine lv_iload hx hb dL_law_1284 (lv_at hl 4 rfl) ?_
  refine lv_iconst (v := 1) hx hb dL_law_1286 (by decide) ?_
  refine lv_iadd hx hb dL_law_1287 ?_
  refine va_sld hx hb hXs hbl hbA hS n1 dL_law_1288 ?_
  refine lv_aload_n hx hb dL_law_1289 rfl (lv_at hl 3 rfl) ?_
  refine ucallLi (X' := (((W5x cI aC aS aL aW aB aF aZ aK aM aO aT aY sr wm wW bh bF bZ bK bM ol oS) ++ (HB cI cZ cS aY aV aU aR kd kf kA kV kQ kP)) ++ [(aQ, .inl (cJ, 1, .inr (.inl f')))])) (vx_runSW (As := [.ref aC, .int (xs (i4 + 1).toNatClampNeg), .ref aQ]) (rest := []) S (KL_finds l D cI cZ cS cJ aC aQ _ _ [.ref aS, .ref aY, .ref aO] rfl ht f f' (xs (i4 + 1).toNatClampNeg) k r z_mt hoc hf0 hf1 (K5_finds l hfl D cI cZ cS cJ aC aS aL aW aB aF aZ aK aM aO aT aY aV aU aR kQ sr wm wW bh bF bZ bK bM ol oS kd kf kA kV kP (xs (i4 + 1).toNatClampNeg) k r  hF5)) (vx_cwSW 3 hts (gd_SW wd_747 wd_748 wd_60 cwL_finds) rfl rfl rfl hdL_finds ⟨Nat.le_of_ble_eq_true rfl, Nat.le_of_ble_eq_true rfl⟩) (wPreS hK hX hZ hY hS (wP_l hP) (wD_l hD)) rfl rfl hl.1 rfl (lv_room (Nat.le_of_ble_eq_true rfl)) dL_law_1290 ⟨by show cells + 1 ≤ 601024; omega, by show slots + 6 ≤ 7293034; omega⟩) hS hP hD (fun H locs hP hS => ?_)
  have hD : va_D (lA s) ((((W5x cI aC aS aL aW aB aF aZ aK aM aO aT aY sr wm wW bh bF bZ bK bM ol oS) ++ (HB cI cZ cS aY aV aU aR kd kf kA kV kQ kP)) ++ [(aQ, .inl (cJ, 1, .inr (.inl f')))]) ++ (W6 cI aX aN aP aJ aI aG aD ms ml mt mq mu mN mP mK mI mT mD)) := wD_re hD (fun B h => wD_re2 (wD_re h ht) rfl)
  refine W.widen (k := cells + 3) (n := slots + 18) (by show cells + 1 ≤ cells + 3; omega) (by show slots + 6 ≤ slots + 18; omega) ?_
  refine lv_istore (lv' := [(5, .int z_mt), (0, .ref b), (1, .ref aC), (2, .ref aX), (3, .ref aQ), (4, .int i4)]) hx hb dL_law_1293 hl (by decide) rfl (fun ls hl => ?_)
  refine lv_aload_n hx hb dL_law_1295 rfl (lv_at hl 3 rfl) ?_
  refine lv_aload_n hx hb dL_law_1296 rfl (lv_at hl 1 rfl) ?_
  refine lv_iload hx hb dL_law_1297 (lv_at hl 5 rfl) ?_
  refine lv_iconst (v := 1) hx hb dL_law_1299 (by decide) ?_
  refine lv_iadd hx hb dL_law_1300 ?_
  refine va_sld hx hb hXs hbl hbA hS n1 dL_law_1301 ?_
  refine ucallRi (Y' := (W6 cI aX aN aP aJ aI aG aD ms ml z_mt mq mu mN mP mK mI mT mD)) (va_runV (As := [.int (xs (i4 + 1).toNatClampNeg)]) (rest := []) S (K6_finds l D cI cZ cS cJ aX aN aP aJ aI aG aD ms ml mt mq mu mN mP mK mI mT mD (xs (i4 + 1).toNatClampNeg) r6 z_mt hF6) (cwV 1 hts (gd_V wd_1089 wd_1090 wd_1091 wd_67 wd_1092) rfl rfl rfl hd6_finds ⟨Nat.le_of_ble_eq_true rfl, Nat.le_of_ble_eq_true rfl⟩) (uPreV2 hK (wP_r hP) (wD_r hD) (ci := 6) (q := (RX6, TX6, 11)) rfl rfl) rfl rfl hl.1 rfl (lv_room (Nat.le_of_ble_eq_true rfl)) dL_law_1302 ⟨by show cells + 3 + 0 ≤ 601024; omega, by show slots + 18 + 0 ≤ 7293034; omega⟩) hS hP hD (fun H locs hP hS => ?_)
  have hD : va_D (lA s) ((((W5x cI aC aS aL aW aB aF aZ aK aM aO aT aY sr wm wW bh bF bZ bK bM ol oS) ++ (HB cI cZ cS aY aV aU aR kd kf kA kV kQ kP)) ++ [(aQ, .inl (cJ, 1, .inr (.inl f')))]) ++ (W6 cI aX aN aP aJ aI aG aD ms ml z_mt mq mu mN mP mK mI mT mD)) := wD_re2 hD rfl
  refine lv_istore (lv' := [(6, .int r6), (5, .int z_mt), (0, .ref b), (1, .ref aC), (2, .ref aX), (3, .ref aQ), (4, .int i4)]) hx hb dL_law_1305 hl (by decide) rfl (fun ls hl => ?_)
  refine lv_aload_n hx hb dL_law_1307 rfl (lv_at hl 4 rfl) ?_
  refine rcall (va_runV (As := []) (rest := []) S (K6_thrown l D cI cZ cS cJ aX aN aP aJ aI aG aD ms ml z_mt mq mu mN mP mK mI mT mD z_mt rfl) (cwV 0 hts (gd_V wd_845 wd_846 wd_847 wd_67 wd_848) rfl rfl rfl hd6_thrown ⟨Nat.le_of_ble_eq_true rfl, Nat.le_of_ble_eq_true rfl⟩) (rPreV hK (wP_r hP) (ci := 6) (q := (RX6, TX6, 11)) rfl rfl) rfl rfl hl.1 rfl (lv_room (Nat.le_of_ble_eq_true rfl)) dL_law_1308 ⟨by show cells + 3 + 0 ≤ 601024; omega, by show slots + 18 + 0 ≤ 7293034; omega⟩) ?_
  refine lv_iload hx hb dL_law_1311 (lv_at hl 1 rfl) ?_
  refine lv_icmp_eq (tgt := 1318) hx hb dL_law_1313 (by decide) (fun _ => ?_) (fun h => absurd rfl h)
  refine lv_iload hx hb dL_law_1318 (lv_at hl 1 rfl) ?_
  have fin : W p l e room_1 s m #[Value.ref b] below meth c H locs (cells + 3 + 0) (slots + 18 + 0) Q (F0 m 1342 ls []) := by
    refine lv_goto (tgt := 1602) hx hb dL_law_1342 (by decide) ?_
    exact kk H locs ls ⟨sr, wm, wW, bh, bF, bZ, bK, bM, ol, oS, kd, kf, kA, kV, kP, ms, ml, z_mt, mq, mu, mN, mP, mK, mI, mT, mD, f', hI, hP, hD, hS⟩ (lv_sub hl [2, 3, 4, 5, 6] rfl)
  refine lv_if_ne (tgt := 1342) hx hb dL_law_1320 (by decide) (fun _ => fin) (fun h0 => ?_)
  have hk0 : k = 0 := oc1_0 hoc h0
  refine lv_aload_n hx hb dL_law_1323 rfl (lv_at hl 5 rfl) ?_
  refine lv_iconst (v := 0) hx hb dL_law_1324 (by decide) ?_
  refine va_lald hx hb hK.1 (wP_l hP) (((W5x cI aC aS aL aW aB aF aZ aK aM aO aT aY sr wm wW bh bF bZ bK bM ol oS) ++ (HB cI cZ cS aY aV aU aR kd kf kA kV kQ kP))).length 3 (get_last _ _) rfl (i := 0) (by unfold vp_in; decide) dL_law_1325 ?_
  refine lv_iload hx hb dL_law_1326 (lv_at hl 0 rfl) ?_
  refine lv_if_eq (tgt := 1335) hx hb dL_law_1328 (by decide) (fun hr0 => ?_) (fun hr0 => ?_)
  · refine lv_lconst (v := 0) hx hb dL_law_1335 (by decide) ?_
    refine l_lcmp hx hb (by rw [hf0 hk0, hrr hk0, if_pos hr0]; exact if_pos rfl) dL_law_1336 ?_
    exact lv_if_eq (tgt := 1342) hx hb dL_law_1337 (by decide) (fun _ => fin) (fun h => absurd rfl h)
  · refine lv_lconst (v := 1) hx hb dL_law_1331 (by decide) ?_
    refine lv_goto (tgt := 1336) hx hb dL_law_1332 (by decide) ?_
    refine l_lcmp hx hb (by rw [hf0 hk0, hrr hk0, if_neg hr0]; exact if_pos rfl) dL_law_1336 ?_
    exact lv_if_eq (tgt := 1342) hx hb dL_law_1337 (by decide) (fun _ => fin) (fun h => absurd rfl h)
set_option maxHeartbeats 4000000 in
set_option maxRecDepth 100000 in
theorem C_bestWeight (hfl : l.stackTraces = false) (C : LC p s m c b L xs D cI cZ cS cJ) {i : Nat} {i4 : Int32} (hi : i + 4 ≤ L) (hL : L ≤ 2048) (e4 : i4 = nI i) (hcs : cells + 3 ≤ 601024 ∧ slots + 18 ≤ 7293034) (hl : lv_has ls 9 [(0, .ref b), (1, .ref aC), (2, .ref aX), (3, .ref aQ), (4, .int i4)]) (hI : LI s D cI cZ cS cJ aC aS aL aW aB aF aZ aK aM aO aT aY aV aU aR aQ aX aN aP aJ aI aG aD kQ H locs) (kk : ∀ (H1 : Heap) (locs1 : List Loc) (ls : Array Slot), LI s D cI cZ cS cJ aC aS aL aW aB aF aZ aK aM aO aT aY aV aU aR aQ aX aN aP aJ aI aG aD kQ H1 locs1 → lv_has ls 9 [(0, .ref b), (1, .ref aC), (2, .ref aX), (3, .ref aQ), (4, .int i4)] → W p l e room_1 s m #[Value.ref b] below meth c H1 locs1 (cells + 3) (slots + 18) Q (F0 m 1602 ls [])) : W p l e room_1 s m #[Value.ref b] below meth c H locs cells slots Q (F0 m 1345 ls []) := by
  obtain ⟨hx, hb, hml, hown, hts, hXs, hbl, hK, hX, hZ, hY⟩ := C
  have hbA : ¬ lA s b := Nat.not_le.mpr hbl
  have S : CallFix p m c cL_law 9 s #[Value.ref b] lw_all RL := ⟨hx, hb, hml, hown, hts⟩
  obtain ⟨hc1, hc2⟩ := hcs
  have n1 : vp_in (i4 + 1) L := by rw [e4]; exact in_arg (j := 1) (by omega) hL
  obtain ⟨sr, wm, wW, bh, bF, bZ, bK, bM, ol, oS, kd, kf, kA, kV, kP, ms, ml, mt, mq, mu, mN, mP, mK, mI, mT, mD, f, hI, hP, hD, hS⟩ := hI
  obtain ⟨k, r, r6, z_mt, z_mN, hF5, hF6, hoc, hrr, hI⟩ := T_bestWeight hI kA mt (xs (i4 + 1).toNatClampNeg)
  have ht : ∀ B : Nat → Prop, va_D B ((W5x cI aC aS aL aW aB aF aZ aK aM aO aT aY sr wm wW bh bF bZ bK bM ol oS) ++ (HB cI cZ cS aY aV aU aR kd kf kA kV kQ kP)) → va_D B ((W5x cI aC aS aL aW aB aF aZ aK aM aO aT aY sr wm wW bh bF bZ bK bM ol oS) ++ (HB cI cZ cS aY aV aU aR kd kf kA kV kQ kP)) := tr_D cI cZ cS aC aS aL aW aB aF aZ aK aM aO aT aY aV aU aR kQ (Or.inl rfl)
  obtain ⟨f', hf0, hf1⟩ : ∃ f' : Nat → Int64, (k = 0 → f' = vp_updL f 0 r.toInt64) ∧ (k ≠ 0 → f' = f) := ⟨if k = 0 then vp_updL f 0 r.toInt64 else f, fun h => if_pos h, fun h => if_neg h⟩
  refine lv_aload_n hx hb dL_law_1345 rfl (lv_at hl 1 rfl) ?_
  refine lv_aload_n hx hb dL_law_1346 rfl (lv_at hl 0 rfl) ?_
  refine lv_iload hx hb dL_law_1347 (lv_at hl 4 rfl) ?_
  refine lv_iconst (v := 1) hx hb dL_law_1349 (by decide) ?_
  refine lv_iadd hx hb dL_law_1350 ?_
  refine va_sld hx hb hXs hbl hbA hS n1 dL_law_1351 ?_
  refine lv_aload_n hx hb dL_law_1352 rfl (lv_at hl 3 rfl) ?_
  refine ucallLi (X' := (((W5x cI aC aS aL aW aB aF aZ aK aM aO aT aY sr wm wW bh bF bZ bK bM ol oS) ++ (HB cI cZ cS aY aV aU aR kd kf kA kV kQ kP)) ++ [(aQ, .inl (cJ, 1, .inr (.inl f')))])) (vx_runSW (As := [.ref aC, .int (xs (i4 + 1).toNatClampNeg), .ref aQ]) (rest := []) S (KL_bestWeight l D cI cZ cS cJ aC aQ _ _ [.ref aS, .ref aY, .ref aO] rfl ht f f' (xs (i4 + 1).toNatClampNeg) k r z_mt hoc hf0 hf1 (K5_bestWeight l hfl D cI cZ cS cJ aC aS aL aW aB aF aZ aK aM aO aT aY aV aU aR kQ sr wm wW bh bF bZ bK bM ol oS kd kf kA kV kP (xs (i4 + 1).toNatClampNeg) k r  hF5)) (vx_cwSW 3 hts (gd_SW wd_760 wd_761 wd_60 cwL_bestWeight) rfl rfl rfl hdL_bestWeight ⟨Nat.le_of_ble_eq_true rfl, Nat.le_of_ble_eq_true rfl⟩) (wPreS hK hX hZ hY hS (wP_l hP) (wD_l hD)) rfl rfl hl.1 rfl (lv_room (Nat.le_of_ble_eq_true rfl)) dL_law_1353 ⟨by show cells + 1 ≤ 601024; omega, by show slots + 6 ≤ 7293034; omega⟩) hS hP hD (fun H locs hP hS => ?_)
  have hD : va_D (lA s) ((((W5x cI aC aS aL aW aB aF aZ aK aM aO aT aY sr wm wW bh bF bZ bK bM ol oS) ++ (HB cI cZ cS aY aV aU aR kd kf kA kV kQ kP)) ++ [(aQ, .inl (cJ, 1, .inr (.inl f')))]) ++ (W6 cI aX aN aP aJ aI aG aD ms ml mt mq mu mN mP mK mI mT mD)) := wD_re hD (fun B h => wD_re2 (wD_re h ht) rfl)
  refine W.widen (k := cells + 3) (n := slots + 18) (by show cells + 1 ≤ cells + 3; omega) (by show slots + 6 ≤ slots + 18; omega) ?_
  refine lv_istore (lv' := [(5, .int z_mt), (0, .ref b), (1, .ref aC), (2, .ref aX), (3, .ref aQ), (4, .int i4)]) hx hb dL_law_1356 hl (by decide) rfl (fun ls hl => ?_)
  refine lv_aload_n hx hb dL_law_1358 rfl (lv_at hl 3 rfl) ?_
  refine lv_aload_n hx hb dL_law_1359 rfl (lv_at hl 1 rfl) ?_
  refine lv_iload hx hb dL_law_1360 (lv_at hl 5 rfl) ?_
  refine lv_iconst (v := 1) hx hb dL_law_1362 (by decide) ?_
  refine lv_iadd hx hb dL_law_1363 ?_
  refine va_sld hx hb hXs hbl hbA hS n1 dL_law_1364 ?_
  refine ucallRi (Y' := (W6 cI aX aN aP aJ aI aG aD ms ml z_mt mq mu z_mN mP mK mI mT mD)) (va_runV (As := [.int (xs (i4 + 1).toNatClampNeg)]) (rest := []) S (K6_bestWeight l D cI cZ cS cJ aX aN aP aJ aI aG aD ms ml mt mq mu mN mP mK mI mT mD (xs (i4 + 1).toNatClampNeg) r6 z_mt z_mN hF6) (cwV 1 hts (gd_V wd_1097 wd_1098 wd_1099 wd_67 wd_1100) rfl rfl rfl hd6_bestWeight ⟨Nat.le_of_ble_eq_true rfl, Nat.le_of_ble_eq_true rfl⟩) (uPreV2 hK (wP_r hP) (wD_r hD) (ci := 6) (q := (RX6, TX6, 11)) rfl rfl) rfl rfl hl.1 rfl (lv_room (Nat.le_of_ble_eq_true rfl)) dL_law_1365 ⟨by show cells + 3 + 0 ≤ 601024; omega, by show slots + 18 + 0 ≤ 7293034; omega⟩) hS hP hD (fun H locs hP hS => ?_)
  have hD : va_D (lA s) ((((W5x cI aC aS aL aW aB aF aZ aK aM aO aT aY sr wm wW bh bF bZ bK bM ol oS) ++ (HB cI cZ cS aY aV aU aR kd kf kA kV kQ kP)) ++ [(aQ, .inl (cJ, 1, .inr (.inl f')))]) ++ (W6 cI aX aN aP aJ aI aG aD ms ml z_mt mq mu z_mN mP mK mI mT mD)) := wD_re2 hD rfl
  refine lv_istore (lv' := [(6, .int r6), (5, .int z_mt), (0, .ref b), (1, .ref aC), (2, .ref aX), (3, .ref aQ), (4, .int i4)]) hx hb dL_law_1368 hl (by decide) rfl (fun ls hl => ?_)
  refine lv_aload_n hx hb dL_law_1370 rfl (lv_at hl 4 rfl) ?_
  refine rcall (va_runV (As := []) (rest := []) S (K6_thrown l D cI cZ cS cJ aX aN aP aJ aI aG aD ms ml z_mt mq mu z_mN mP mK mI mT mD z_mt rfl) (cwV 0 hts (gd_V wd_845 wd_846 wd_847 wd_67 wd_848) rfl rfl rfl hd6_thrown ⟨Nat.le_of_ble_eq_true rfl, Nat.le_of_ble_eq_true rfl⟩) (rPreV hK (wP_r hP) (ci := 6) (q := (RX6, TX6, 11)) rfl rfl) rfl rfl hl.1 rfl (lv_room (Nat.le_of_ble_eq_true rfl)) dL_law_1371 ⟨by show cells + 3 + 0 ≤ 601024; omega, by show slots + 18 + 0 ≤ 7293034; omega⟩) ?_
  refine lv_iload hx hb dL_law_1374 (lv_at hl 1 rfl) ?_
  refine lv_icmp_eq (tgt := 1381) hx hb dL_law_1376 (by decide) (fun _ => ?_) (fun h => absurd rfl h)
  refine lv_iload hx hb dL_law_1381 (lv_at hl 1 rfl) ?_
  have fin : W p l e room_1 s m #[Value.ref b] below meth c H locs (cells + 3 + 0) (slots + 18 + 0) Q (F0 m 1398 ls []) := by
    refine lv_goto (tgt := 1602) hx hb dL_law_1398 (by decide) ?_
    exact kk H locs ls ⟨sr, wm, wW, bh, bF, bZ, bK, bM, ol, oS, kd, kf, kA, kV, kP, ms, ml, z_mt, mq, mu, z_mN, mP, mK, mI, mT, mD, f', hI, hP, hD, hS⟩ (lv_sub hl [2, 3, 4, 5, 6] rfl)
  refine lv_if_ne (tgt := 1398) hx hb dL_law_1383 (by decide) (fun _ => fin) (fun h0 => ?_)
  have hk0 : k = 0 := oc1_0 hoc h0
  refine lv_aload_n hx hb dL_law_1386 rfl (lv_at hl 5 rfl) ?_
  refine lv_iconst (v := 0) hx hb dL_law_1387 (by decide) ?_
  refine va_lald hx hb hK.1 (wP_l hP) (((W5x cI aC aS aL aW aB aF aZ aK aM aO aT aY sr wm wW bh bF bZ bK bM ol oS) ++ (HB cI cZ cS aY aV aU aR kd kf kA kV kQ kP))).length 3 (get_last _ _) rfl (i := 0) (by unfold vp_in; decide) dL_law_1388 ?_
  refine lv_iload hx hb dL_law_1389 (lv_at hl 0 rfl) ?_
  refine lv_i2l hx hb dL_law_1391 rfl ?_
  refine l_lcmp hx hb (by rw [hf0 hk0, hrr hk0]; exact if_pos rfl) dL_law_1392 ?_
  exact lv_if_eq (tgt := 1398) hx hb dL_law_1393 (by decide) (fun _ => fin) (fun h => absurd rfl h)
set_option maxHeartbeats 4000000 in
set_option maxRecDepth 100000 in
theorem C_meant (hfl : l.stackTraces = false) (C : LC p s m c b L xs D cI cZ cS cJ) {i : Nat} {i4 : Int32} (hi : i + 4 ≤ L) (hL : L ≤ 2048) (e4 : i4 = nI i) (hcs : cells + 3 ≤ 601024 ∧ slots + 18 ≤ 7293034) (hl : lv_has ls 9 [(0, .ref b), (1, .ref aC), (2, .ref aX), (3, .ref aQ), (4, .int i4)]) (hI : LI s D cI cZ cS cJ aC aS aL aW aB aF aZ aK aM aO aT aY aV aU aR aQ aX aN aP aJ aI aG aD kQ H locs) (kk : ∀ (H1 : Heap) (locs1 : List Loc) (ls : Array Slot), LI s D cI cZ cS cJ aC aS aL aW aB aF aZ aK aM aO aT aY aV aU aR aQ aX aN aP aJ aI aG aD kQ H1 locs1 → lv_has ls 9 [(0, .ref b), (1, .ref aC), (2, .ref aX), (3, .ref aQ), (4, .int i4)] → W p l e room_1 s m #[Value.ref b] below meth c H1 locs1 (cells + 3) (slots + 18) Q (F0 m 1602 ls [])) : W p l e room_1 s m #[Value.ref b] below meth c H locs cells slots Q (F0 m 1401 ls []) := by
  obtain ⟨hx, hb, hml, hown, hts, hXs, hbl, hK, hX, hZ, hY⟩ := C
  have hbA : ¬ lA s b := Nat.not_le.mpr hbl
  have S : CallFix p m c cL_law 9 s #[Value.ref b] lw_all RL := ⟨hx, hb, hml, hown, hts⟩
  obtain ⟨hc1, hc2⟩ := hcs
  have n1 : vp_in (i4 + 1) L := by rw [e4]; exact in_arg (j := 1) (by omega) hL
  have n2 : vp_in (i4 + 2) L := by rw [e4]; exact in_arg (j := 2) (by omega) hL
  have n3 : vp_in (i4 + 3) L := by rw [e4]; exact in_arg (j := 3) (by omega) hL
  obtain ⟨sr, wm, wW, bh, bF, bZ, bK, bM, ol, oS, kd, kf, kA, kV, kP, ms, ml, mt, mq, mu, mN, mP, mK, mI, mT, mD, f, hI, hP, hD, hS⟩ := hI
  obtain ⟨k, r, r6, z_mt, hF5, hF6, hoc, hrr, hI⟩ := T_meant hI kA mt (xs (i4 + 1).toNatClampNeg) (xs (i4 + 2).toNatClampNeg) (xs (i4 + 3).toNatClampNeg)
  have ht : ∀ B : Nat → Prop, va_D B ((W5x cI aC aS aL aW aB aF aZ aK aM aO aT aY sr wm wW bh bF bZ bK bM ol oS) ++ (HB cI cZ cS aY aV aU aR kd kf kA kV kQ kP)) → va_D B ((W5x cI aC aS aL aW aB aF aZ aK aM aO aT aY sr wm wW bh bF bZ bK bM ol oS) ++ (HB cI cZ cS aY aV aU aR kd kf kA kV kQ kP)) := tr_D cI cZ cS aC aS aL aW aB aF aZ aK aM aO aT aY aV aU aR kQ (Or.inl rfl)
  obtain ⟨f', hf0, hf1⟩ : ∃ f' : Nat → Int64, (k = 0 → f' = vp_updL f 0 r.toInt64) ∧ (k ≠ 0 → f' = f) := ⟨if k = 0 then vp_updL f 0 r.toInt64 else f, fun h => if_pos h, fun h => if_neg h⟩
  refine lv_aload_n hx hb dL_law_1401 rfl (lv_at hl 1 rfl) ?_
  refine lv_aload_n hx hb dL_law_1402 rfl (lv_at hl 0 rfl) ?_
  refine lv_iload hx hb dL_law_1403 (lv_at hl 4 rfl) ?_
  refine lv_iconst (v := 1) hx hb dL_law_1405 (by decide) ?_
  refine lv_iadd hx hb dL_law_1406 ?_
  refine va_sld hx hb hXs hbl hbA hS n1 dL_law_1407 ?_
  refine lv_aload_n hx hb dL_law_1408 rfl (lv_at hl 0 rfl) ?_
  refine lv_iload hx hb dL_law_1409 (lv_at hl 4 rfl) ?_
  refine lv_iconst (v := 2) hx hb dL_law_1411 (by decide) ?_
  refine lv_iadd hx hb dL_law_1412 ?_
  refine va_sld hx hb hXs hbl hbA hS n2 dL_law_1413 ?_
  refine lv_aload_n hx hb dL_law_1414 rfl (lv_at hl 0 rfl) ?_
  refine lv_iload hx hb dL_law_1415 (lv_at hl 4 rfl) ?_
  refine lv_iconst (v := 3) hx hb dL_law_1417 (by decide) ?_
  refine lv_iadd hx hb dL_law_1418 ?_
  refine va_sld hx hb hXs hbl hbA hS n3 dL_law_1419 ?_
  refine lv_aload_n hx hb dL_law_1420 rfl (lv_at hl 3 rfl) ?_
  refine ucallLi (X' := (((W5x cI aC aS aL aW aB aF aZ aK aM aO aT aY sr wm wW bh bF bZ bK bM ol oS) ++ (HB cI cZ cS aY aV aU aR kd kf kA kV kQ kP)) ++ [(aQ, .inl (cJ, 1, .inr (.inl f')))])) (vx_runSW (As := [.ref aC, .int (xs (i4 + 1).toNatClampNeg), .int (xs (i4 + 2).toNatClampNeg), .int (xs (i4 + 3).toNatClampNeg), .ref aQ]) (rest := []) S (KL_meant l D cI cZ cS cJ aC aQ _ _ [.ref aS, .ref aY, .ref aO] rfl ht f f' (xs (i4 + 1).toNatClampNeg) (xs (i4 + 2).toNatClampNeg) (xs (i4 + 3).toNatClampNeg) k r z_mt hoc hf0 hf1 (K5_meant l hfl D cI cZ cS cJ aC aS aL aW aB aF aZ aK aM aO aT aY aV aU aR kQ sr wm wW bh bF bZ bK bM ol oS kd kf kA kV kP (xs (i4 + 1).toNatClampNeg) (xs (i4 + 2).toNatClampNeg) (xs (i4 + 3).toNatClampNeg) k r  hF5)) (vx_cwSW 5 hts (gd_SW wd_771 wd_772 wd_60 cwL_meant) rfl rfl rfl hdL_meant ⟨Nat.le_of_ble_eq_true rfl, Nat.le_of_ble_eq_true rfl⟩) (wPreS hK hX hZ hY hS (wP_l hP) (wD_l hD)) rfl rfl hl.1 rfl (lv_room (Nat.le_of_ble_eq_true rfl)) dL_law_1421 ⟨by show cells + 3 ≤ 601024; omega, by show slots + 18 ≤ 7293034; omega⟩) hS hP hD (fun H locs hP hS => ?_)
  have hD : va_D (lA s) ((((W5x cI aC aS aL aW aB aF aZ aK aM aO aT aY sr wm wW bh bF bZ bK bM ol oS) ++ (HB cI cZ cS aY aV aU aR kd kf kA kV kQ kP)) ++ [(aQ, .inl (cJ, 1, .inr (.inl f')))]) ++ (W6 cI aX aN aP aJ aI aG aD ms ml mt mq mu mN mP mK mI mT mD)) := wD_re hD (fun B h => wD_re2 (wD_re h ht) rfl)
  refine W.widen (k := cells + 3) (n := slots + 18) (by show cells + 3 ≤ cells + 3; omega) (by show slots + 18 ≤ slots + 18; omega) ?_
  refine lv_istore (lv' := [(5, .int z_mt), (0, .ref b), (1, .ref aC), (2, .ref aX), (3, .ref aQ), (4, .int i4)]) hx hb dL_law_1424 hl (by decide) rfl (fun ls hl => ?_)
  refine lv_aload_n hx hb dL_law_1426 rfl (lv_at hl 3 rfl) ?_
  refine lv_aload_n hx hb dL_law_1427 rfl (lv_at hl 1 rfl) ?_
  refine lv_iload hx hb dL_law_1428 (lv_at hl 5 rfl) ?_
  refine lv_iconst (v := 1) hx hb dL_law_1430 (by decide) ?_
  refine lv_iadd hx hb dL_law_1431 ?_
  refine va_sld hx hb hXs hbl hbA hS n1 dL_law_1432 ?_
  refine lv_aload_n hx hb dL_law_1433 rfl (lv_at hl 1 rfl) ?_
  refine lv_iload hx hb dL_law_1434 (lv_at hl 5 rfl) ?_
  refine lv_iconst (v := 2) hx hb dL_law_1436 (by decide) ?_
  refine lv_iadd hx hb dL_law_1437 ?_
  refine va_sld hx hb hXs hbl hbA hS n2 dL_law_1438 ?_
  refine lv_aload_n hx hb dL_law_1439 rfl (lv_at hl 1 rfl) ?_
  refine lv_iload hx hb dL_law_1440 (lv_at hl 5 rfl) ?_
  refine lv_iconst (v := 3) hx hb dL_law_1442 (by decide) ?_
  refine lv_iadd hx hb dL_law_1443 ?_
  refine va_sld hx hb hXs hbl hbA hS n3 dL_law_1444 ?_
  refine ucallRi (Y' := (W6 cI aX aN aP aJ aI aG aD ms ml z_mt mq mu mN mP mK mI mT mD)) (va_runV (As := [.int (xs (i4 + 1).toNatClampNeg), .int (xs (i4 + 2).toNatClampNeg), .int (xs (i4 + 3).toNatClampNeg)]) (rest := []) S (K6_meant l D cI cZ cS cJ aX aN aP aJ aI aG aD ms ml mt mq mu mN mP mK mI mT mD (xs (i4 + 1).toNatClampNeg) (xs (i4 + 2).toNatClampNeg) (xs (i4 + 3).toNatClampNeg) r6 z_mt hF6) (cwV 3 hts (gd_V wd_1101 wd_1102 wd_1103 wd_67 wd_1104) rfl rfl rfl hd6_meant ⟨Nat.le_of_ble_eq_true rfl, Nat.le_of_ble_eq_true rfl⟩) (uPreV2 hK (wP_r hP) (wD_r hD) (ci := 6) (q := (RX6, TX6, 11)) rfl rfl) rfl rfl hl.1 rfl (lv_room (Nat.le_of_ble_eq_true rfl)) dL_law_1445 ⟨by show cells + 3 + 0 ≤ 601024; omega, by show slots + 18 + 0 ≤ 7293034; omega⟩) hS hP hD (fun H locs hP hS => ?_)
  have hD : va_D (lA s) ((((W5x cI aC aS aL aW aB aF aZ aK aM aO aT aY sr wm wW bh bF bZ bK bM ol oS) ++ (HB cI cZ cS aY aV aU aR kd kf kA kV kQ kP)) ++ [(aQ, .inl (cJ, 1, .inr (.inl f')))]) ++ (W6 cI aX aN aP aJ aI aG aD ms ml z_mt mq mu mN mP mK mI mT mD)) := wD_re2 hD rfl
  refine lv_istore (lv' := [(6, .int r6), (5, .int z_mt), (0, .ref b), (1, .ref aC), (2, .ref aX), (3, .ref aQ), (4, .int i4)]) hx hb dL_law_1448 hl (by decide) rfl (fun ls hl => ?_)
  refine lv_aload_n hx hb dL_law_1450 rfl (lv_at hl 4 rfl) ?_
  refine rcall (va_runV (As := []) (rest := []) S (K6_thrown l D cI cZ cS cJ aX aN aP aJ aI aG aD ms ml z_mt mq mu mN mP mK mI mT mD z_mt rfl) (cwV 0 hts (gd_V wd_845 wd_846 wd_847 wd_67 wd_848) rfl rfl rfl hd6_thrown ⟨Nat.le_of_ble_eq_true rfl, Nat.le_of_ble_eq_true rfl⟩) (rPreV hK (wP_r hP) (ci := 6) (q := (RX6, TX6, 11)) rfl rfl) rfl rfl hl.1 rfl (lv_room (Nat.le_of_ble_eq_true rfl)) dL_law_1451 ⟨by show cells + 3 + 0 ≤ 601024; omega, by show slots + 18 + 0 ≤ 7293034; omega⟩) ?_
  refine lv_iload hx hb dL_law_1454 (lv_at hl 1 rfl) ?_
  refine lv_icmp_eq (tgt := 1461) hx hb dL_law_1456 (by decide) (fun _ => ?_) (fun h => absurd rfl h)
  refine lv_iload hx hb dL_law_1461 (lv_at hl 1 rfl) ?_
  have fin : W p l e room_1 s m #[Value.ref b] below meth c H locs (cells + 3 + 0) (slots + 18 + 0) Q (F0 m 1478 ls []) := by
    refine lv_goto (tgt := 1602) hx hb dL_law_1478 (by decide) ?_
    exact kk H locs ls ⟨sr, wm, wW, bh, bF, bZ, bK, bM, ol, oS, kd, kf, kA, kV, kP, ms, ml, z_mt, mq, mu, mN, mP, mK, mI, mT, mD, f', hI, hP, hD, hS⟩ (lv_sub hl [2, 3, 4, 5, 6] rfl)
  refine lv_if_ne (tgt := 1478) hx hb dL_law_1463 (by decide) (fun _ => fin) (fun h0 => ?_)
  have hk0 : k = 0 := oc2_0 hoc h0
  refine lv_aload_n hx hb dL_law_1466 rfl (lv_at hl 5 rfl) ?_
  refine lv_iconst (v := 0) hx hb dL_law_1467 (by decide) ?_
  refine va_lald hx hb hK.1 (wP_l hP) (((W5x cI aC aS aL aW aB aF aZ aK aM aO aT aY sr wm wW bh bF bZ bK bM ol oS) ++ (HB cI cZ cS aY aV aU aR kd kf kA kV kQ kP))).length 3 (get_last _ _) rfl (i := 0) (by unfold vp_in; decide) dL_law_1468 ?_
  refine lv_iload hx hb dL_law_1469 (lv_at hl 0 rfl) ?_
  refine lv_i2l hx hb dL_law_1471 rfl ?_
  refine l_lcmp hx hb (by rw [hf0 hk0, hrr hk0]; exact if_pos rfl) dL_law_1472 ?_
  exact lv_if_eq (tgt := 1478) hx hb dL_law_1473 (by decide) (fun _ => fin) (fun h => absurd rfl h)
set_option maxHeartbeats 4000000 in
set_option maxRecDepth 100000 in
theorem C_slip (hfl : l.stackTraces = false) (C : LC p s m c b L xs D cI cZ cS cJ) {i : Nat} {i4 : Int32} (hi : i + 4 ≤ L) (hL : L ≤ 2048) (e4 : i4 = nI i) (hcs : cells + 3 ≤ 601024 ∧ slots + 18 ≤ 7293034) (hl : lv_has ls 9 [(0, .ref b), (1, .ref aC), (2, .ref aX), (3, .ref aQ), (4, .int i4)]) (hI : LI s D cI cZ cS cJ aC aS aL aW aB aF aZ aK aM aO aT aY aV aU aR aQ aX aN aP aJ aI aG aD kQ H locs) (kk : ∀ (H1 : Heap) (locs1 : List Loc) (ls : Array Slot), LI s D cI cZ cS cJ aC aS aL aW aB aF aZ aK aM aO aT aY aV aU aR aQ aX aN aP aJ aI aG aD kQ H1 locs1 → lv_has ls 9 [(0, .ref b), (1, .ref aC), (2, .ref aX), (3, .ref aQ), (4, .int i4)] → W p l e room_1 s m #[Value.ref b] below meth c H1 locs1 (cells + 3) (slots + 18) Q (F0 m 1602 ls [])) : W p l e room_1 s m #[Value.ref b] below meth c H locs cells slots Q (F0 m 1481 ls []) := by
  obtain ⟨hx, hb, hml, hown, hts, hXs, hbl, hK, hX, hZ, hY⟩ := C
  have hbA : ¬ lA s b := Nat.not_le.mpr hbl
  have S : CallFix p m c cL_law 9 s #[Value.ref b] lw_all RL := ⟨hx, hb, hml, hown, hts⟩
  obtain ⟨hc1, hc2⟩ := hcs
  have n1 : vp_in (i4 + 1) L := by rw [e4]; exact in_arg (j := 1) (by omega) hL
  have n2 : vp_in (i4 + 2) L := by rw [e4]; exact in_arg (j := 2) (by omega) hL
  have n3 : vp_in (i4 + 3) L := by rw [e4]; exact in_arg (j := 3) (by omega) hL
  obtain ⟨sr, wm, wW, bh, bF, bZ, bK, bM, ol, oS, kd, kf, kA, kV, kP, ms, ml, mt, mq, mu, mN, mP, mK, mI, mT, mD, f, hI, hP, hD, hS⟩ := hI
  obtain ⟨k, r, r6, z_mt, hF5, hF6, hoc, hrr, hI⟩ := T_slip hI kA mt (xs (i4 + 1).toNatClampNeg) (xs (i4 + 2).toNatClampNeg) (xs (i4 + 3).toNatClampNeg)
  have ht : ∀ B : Nat → Prop, va_D B ((W5x cI aC aS aL aW aB aF aZ aK aM aO aT aY sr wm wW bh bF bZ bK bM ol oS) ++ (HB cI cZ cS aY aV aU aR kd kf kA kV kQ kP)) → va_D B ((W5x cI aC aS aL aW aB aF aZ aK aM aO aT aY sr wm wW bh bF bZ bK bM ol oS) ++ (HB cI cZ cS aY aV aU aR kd kf kA kV kQ kP)) := tr_D cI cZ cS aC aS aL aW aB aF aZ aK aM aO aT aY aV aU aR kQ (Or.inl rfl)
  obtain ⟨f', hf0, hf1⟩ : ∃ f' : Nat → Int64, (k = 0 → f' = vp_updL f 0 r.toInt64) ∧ (k ≠ 0 → f' = f) := ⟨if k = 0 then vp_updL f 0 r.toInt64 else f, fun h => if_pos h, fun h => if_neg h⟩
  refine lv_aload_n hx hb dL_law_1481 rfl (lv_at hl 1 rfl) ?_
  refine lv_aload_n hx hb dL_law_1482 rfl (lv_at hl 0 rfl) ?_
  refine lv_iload hx hb dL_law_1483 (lv_at hl 4 rfl) ?_
  refine lv_iconst (v := 1) hx hb dL_law_1485 (by decide) ?_
  refine lv_iadd hx hb dL_law_1486 ?_
  refine va_sld hx hb hXs hbl hbA hS n1 dL_law_1487 ?_
  refine lv_aload_n hx hb dL_law_1488 rfl (lv_at hl 0 rfl) ?_
  refine lv_iload hx hb dL_law_1489 (lv_at hl 4 rfl) ?_
  refine lv_iconst (v := 2) hx hb dL_law_1491 (by decide) ?_
  refine lv_iadd hx hb dL_law_1492 ?_
  refine va_sld hx hb hXs hbl hbA hS n2 dL_law_1493 ?_
  refine lv_aload_n hx hb dL_law_1494 rfl (lv_at hl 0 rfl) ?_
  refine lv_iload hx hb dL_law_1495 (lv_at hl 4 rfl) ?_
  refine lv_iconst (v := 3) hx hb dL_law_1497 (by decide) ?_
  refine lv_iadd hx hb dL_law_1498 ?_
  refine va_sld hx hb hXs hbl hbA hS n3 dL_law_1499 ?_
  refine lv_aload_n hx hb dL_law_1500 rfl (lv_at hl 3 rfl) ?_
  refine ucallLi (X' := (((W5x cI aC aS aL aW aB aF aZ aK aM aO aT aY sr wm wW bh bF bZ bK bM ol oS) ++ (HB cI cZ cS aY aV aU aR kd kf kA kV kQ kP)) ++ [(aQ, .inl (cJ, 1, .inr (.inl f')))])) (vx_runSW (As := [.ref aC, .int (xs (i4 + 1).toNatClampNeg), .int (xs (i4 + 2).toNatClampNeg), .int (xs (i4 + 3).toNatClampNeg), .ref aQ]) (rest := []) S (KL_slip l D cI cZ cS cJ aC aQ _ _ [.ref aS, .ref aY, .ref aO] rfl ht f f' (xs (i4 + 1).toNatClampNeg) (xs (i4 + 2).toNatClampNeg) (xs (i4 + 3).toNatClampNeg) k r z_mt hoc hf0 hf1 (K5_slip l hfl D cI cZ cS cJ aC aS aL aW aB aF aZ aK aM aO aT aY aV aU aR kQ sr wm wW bh bF bZ bK bM ol oS kd kf kA kV kP (xs (i4 + 1).toNatClampNeg) (xs (i4 + 2).toNatClampNeg) (xs (i4 + 3).toNatClampNeg) k r  hF5)) (vx_cwSW 5 hts (gd_SW wd_797 wd_798 wd_60 cwL_slip) rfl rfl rfl hdL_slip ⟨Nat.le_of_ble_eq_true rfl, Nat.le_of_ble_eq_true rfl⟩) (wPreS hK hX hZ hY hS (wP_l hP) (wD_l hD)) rfl rfl hl.1 rfl (lv_room (Nat.le_of_ble_eq_true rfl)) dL_law_1501 ⟨by show cells + 3 ≤ 601024; omega, by show slots + 18 ≤ 7293034; omega⟩) hS hP hD (fun H locs hP hS => ?_)
  have hD : va_D (lA s) ((((W5x cI aC aS aL aW aB aF aZ aK aM aO aT aY sr wm wW bh bF bZ bK bM ol oS) ++ (HB cI cZ cS aY aV aU aR kd kf kA kV kQ kP)) ++ [(aQ, .inl (cJ, 1, .inr (.inl f')))]) ++ (W6 cI aX aN aP aJ aI aG aD ms ml mt mq mu mN mP mK mI mT mD)) := wD_re hD (fun B h => wD_re2 (wD_re h ht) rfl)
  refine W.widen (k := cells + 3) (n := slots + 18) (by show cells + 3 ≤ cells + 3; omega) (by show slots + 18 ≤ slots + 18; omega) ?_
  refine lv_istore (lv' := [(5, .int z_mt), (0, .ref b), (1, .ref aC), (2, .ref aX), (3, .ref aQ), (4, .int i4)]) hx hb dL_law_1504 hl (by decide) rfl (fun ls hl => ?_)
  refine lv_aload_n hx hb dL_law_1506 rfl (lv_at hl 3 rfl) ?_
  refine lv_aload_n hx hb dL_law_1507 rfl (lv_at hl 1 rfl) ?_
  refine lv_iload hx hb dL_law_1508 (lv_at hl 5 rfl) ?_
  refine lv_iconst (v := 1) hx hb dL_law_1510 (by decide) ?_
  refine lv_iadd hx hb dL_law_1511 ?_
  refine va_sld hx hb hXs hbl hbA hS n1 dL_law_1512 ?_
  refine lv_aload_n hx hb dL_law_1513 rfl (lv_at hl 1 rfl) ?_
  refine lv_iload hx hb dL_law_1514 (lv_at hl 5 rfl) ?_
  refine lv_iconst (v := 2) hx hb dL_law_1516 (by decide) ?_
  refine lv_iadd hx hb dL_law_1517 ?_
  refine va_sld hx hb hXs hbl hbA hS n2 dL_law_1518 ?_
  refine lv_aload_n hx hb dL_law_1519 rfl (lv_at hl 1 rfl) ?_
  refine lv_iload hx hb dL_law_1520 (lv_at hl 5 rfl) ?_
  refine lv_iconst (v := 3) hx hb dL_law_1522 (by decide) ?_
  refine lv_iadd hx hb dL_law_1523 ?_
  refine va_sld hx hb hXs hbl hbA hS n3 dL_law_1524 ?_
  refine ucallRi (Y' := (W6 cI aX aN aP aJ aI aG aD ms ml z_mt mq mu mN mP mK mI mT mD)) (va_runV (As := [.int (xs (i4 + 1).toNatClampNeg), .int (xs (i4 + 2).toNatClampNeg), .int (xs (i4 + 3).toNatClampNeg)]) (rest := []) S (K6_slip l D cI cZ cS cJ aX aN aP aJ aI aG aD ms ml mt mq mu mN mP mK mI mT mD (xs (i4 + 1).toNatClampNeg) (xs (i4 + 2).toNatClampNeg) (xs (i4 + 3).toNatClampNeg) r6 z_mt hF6) (cwV 3 hts (gd_V wd_1116 wd_1117 wd_1118 wd_67 wd_1119) rfl rfl rfl hd6_slip ⟨Nat.le_of_ble_eq_true rfl, Nat.le_of_ble_eq_true rfl⟩) (uPreV2 hK (wP_r hP) (wD_r hD) (ci := 6) (q := (RX6, TX6, 11)) rfl rfl) rfl rfl hl.1 rfl (lv_room (Nat.le_of_ble_eq_true rfl)) dL_law_1525 ⟨by show cells + 3 + 0 ≤ 601024; omega, by show slots + 18 + 0 ≤ 7293034; omega⟩) hS hP hD (fun H locs hP hS => ?_)
  have hD : va_D (lA s) ((((W5x cI aC aS aL aW aB aF aZ aK aM aO aT aY sr wm wW bh bF bZ bK bM ol oS) ++ (HB cI cZ cS aY aV aU aR kd kf kA kV kQ kP)) ++ [(aQ, .inl (cJ, 1, .inr (.inl f')))]) ++ (W6 cI aX aN aP aJ aI aG aD ms ml z_mt mq mu mN mP mK mI mT mD)) := wD_re2 hD rfl
  refine lv_istore (lv' := [(6, .int r6), (5, .int z_mt), (0, .ref b), (1, .ref aC), (2, .ref aX), (3, .ref aQ), (4, .int i4)]) hx hb dL_law_1528 hl (by decide) rfl (fun ls hl => ?_)
  refine lv_aload_n hx hb dL_law_1530 rfl (lv_at hl 4 rfl) ?_
  refine rcall (va_runV (As := []) (rest := []) S (K6_thrown l D cI cZ cS cJ aX aN aP aJ aI aG aD ms ml z_mt mq mu mN mP mK mI mT mD z_mt rfl) (cwV 0 hts (gd_V wd_845 wd_846 wd_847 wd_67 wd_848) rfl rfl rfl hd6_thrown ⟨Nat.le_of_ble_eq_true rfl, Nat.le_of_ble_eq_true rfl⟩) (rPreV hK (wP_r hP) (ci := 6) (q := (RX6, TX6, 11)) rfl rfl) rfl rfl hl.1 rfl (lv_room (Nat.le_of_ble_eq_true rfl)) dL_law_1531 ⟨by show cells + 3 + 0 ≤ 601024; omega, by show slots + 18 + 0 ≤ 7293034; omega⟩) ?_
  refine lv_iload hx hb dL_law_1534 (lv_at hl 1 rfl) ?_
  refine lv_icmp_eq (tgt := 1541) hx hb dL_law_1536 (by decide) (fun _ => ?_) (fun h => absurd rfl h)
  refine lv_iload hx hb dL_law_1541 (lv_at hl 1 rfl) ?_
  have fin : W p l e room_1 s m #[Value.ref b] below meth c H locs (cells + 3 + 0) (slots + 18 + 0) Q (F0 m 1558 ls []) := by
    refine lv_goto (tgt := 1602) hx hb dL_law_1558 (by decide) ?_
    exact kk H locs ls ⟨sr, wm, wW, bh, bF, bZ, bK, bM, ol, oS, kd, kf, kA, kV, kP, ms, ml, z_mt, mq, mu, mN, mP, mK, mI, mT, mD, f', hI, hP, hD, hS⟩ (lv_sub hl [2, 3, 4, 5, 6] rfl)
  refine lv_if_ne (tgt := 1558) hx hb dL_law_1543 (by decide) (fun _ => fin) (fun h0 => ?_)
  have hk0 : k = 0 := oc2_0 hoc h0
  refine lv_aload_n hx hb dL_law_1546 rfl (lv_at hl 5 rfl) ?_
  refine lv_iconst (v := 0) hx hb dL_law_1547 (by decide) ?_
  refine va_lald hx hb hK.1 (wP_l hP) (((W5x cI aC aS aL aW aB aF aZ aK aM aO aT aY sr wm wW bh bF bZ bK bM ol oS) ++ (HB cI cZ cS aY aV aU aR kd kf kA kV kQ kP))).length 3 (get_last _ _) rfl (i := 0) (by unfold vp_in; decide) dL_law_1548 ?_
  refine lv_iload hx hb dL_law_1549 (lv_at hl 0 rfl) ?_
  refine lv_i2l hx hb dL_law_1551 rfl ?_
  refine l_lcmp hx hb (by rw [hf0 hk0, hrr hk0]; exact if_pos rfl) dL_law_1552 ?_
  exact lv_if_eq (tgt := 1558) hx hb dL_law_1553 (by decide) (fun _ => fin) (fun h => absurd rfl h)
set_option maxHeartbeats 4000000 in
set_option maxRecDepth 100000 in
theorem C_cashed (hfl : l.stackTraces = false) (C : LC p s m c b L xs D cI cZ cS cJ) {i : Nat} {i4 : Int32} (hi : i + 4 ≤ L) (hL : L ≤ 2048) (e4 : i4 = nI i) (hcs : cells + 3 ≤ 601024 ∧ slots + 18 ≤ 7293034) (hl : lv_has ls 9 [(0, .ref b), (1, .ref aC), (2, .ref aX), (3, .ref aQ), (4, .int i4)]) (hI : LI s D cI cZ cS cJ aC aS aL aW aB aF aZ aK aM aO aT aY aV aU aR aQ aX aN aP aJ aI aG aD kQ H locs) (kk : ∀ (H1 : Heap) (locs1 : List Loc) (ls : Array Slot), LI s D cI cZ cS cJ aC aS aL aW aB aF aZ aK aM aO aT aY aV aU aR aQ aX aN aP aJ aI aG aD kQ H1 locs1 → lv_has ls 9 [(0, .ref b), (1, .ref aC), (2, .ref aX), (3, .ref aQ), (4, .int i4)] → W p l e room_1 s m #[Value.ref b] below meth c H1 locs1 (cells + 3) (slots + 18) Q (F0 m 1602 ls [])) : W p l e room_1 s m #[Value.ref b] below meth c H locs cells slots Q (F0 m 1561 ls []) := by
  obtain ⟨hx, hb, hml, hown, hts, hXs, hbl, hK, hX, hZ, hY⟩ := C
  have hbA : ¬ lA s b := Nat.not_le.mpr hbl
  have S : CallFix p m c cL_law 9 s #[Value.ref b] lw_all RL := ⟨hx, hb, hml, hown, hts⟩
  obtain ⟨hc1, hc2⟩ := hcs
  obtain ⟨sr, wm, wW, bh, bF, bZ, bK, bM, ol, oS, kd, kf, kA, kV, kP, ms, ml, mt, mq, mu, mN, mP, mK, mI, mT, mD, f, hI, hP, hD, hS⟩ := hI
  obtain ⟨r, r6, z_mt, hF5, hF6, hrr, hI⟩ := T_cashed hI kA mt
  have ht : ∀ B : Nat → Prop, va_D B ((W5x cI aC aS aL aW aB aF aZ aK aM aO aT aY sr wm wW bh bF bZ bK bM ol oS) ++ (HB cI cZ cS aY aV aU aR kd kf kA kV kQ kP)) → va_D B ((W5x cI aC aS aL aW aB aF aZ aK aM aO aT aY sr wm wW bh bF bZ bK bM ol oS) ++ (HB cI cZ cS aY aV aU aR kd kf kA kV kQ kP)) := tr_D cI cZ cS aC aS aL aW aB aF aZ aK aM aO aT aY aV aU aR kQ (Or.inl rfl)
  refine lv_aload_n hx hb dL_law_1561 rfl (lv_at hl 1 rfl) ?_
  refine rcall (va_runV (As := []) (rest := []) S (K5_cashed l D cI cZ cS cJ aC aS aL aW aB aF aZ aK aM aO aT aY aV aU aR kQ sr wm wW bh bF bZ bK bM ol oS kd kf kA kV kP r  hF5) (cwV 0 hts (gd_V wd_231 wd_232 wd_233 wd_61 wd_234) rfl rfl rfl hd5_cashed ⟨Nat.le_of_ble_eq_true rfl, Nat.le_of_ble_eq_true rfl⟩) (rPreV hK (wP_l (wP_l hP)) (ci := 5) (q := (RX5, TX5, 3)) rfl rfl) rfl rfl hl.1 rfl (lv_room (Nat.le_of_ble_eq_true rfl)) dL_law_1562 ⟨by show cells + 0 ≤ 601024; omega, by show slots + 0 ≤ 7293034; omega⟩) ?_
  refine lv_dstore (lv' := [(5, .double r), (0, .ref b), (1, .ref aC), (2, .ref aX), (3, .ref aQ), (4, .int i4)]) hx hb dL_law_1565 hl (by decide) rfl (fun ls hl => ?_)
  refine lv_aload_n hx hb dL_law_1567 rfl (lv_at hl 3 rfl) ?_
  refine ucallRd (Y' := (W6 cI aX aN aP aJ aI aG aD ms ml z_mt mq mu mN mP mK mI mT mD)) (va_runV (As := []) (rest := []) S (K6_cashed l D cI cZ cS cJ aX aN aP aJ aI aG aD ms ml mt mq mu mN mP mK mI mT mD r6 z_mt hF6) (cwV 0 hts (gd_V wd_1120 wd_1121 wd_1122 wd_67 wd_1123) rfl rfl rfl hd6_cashed ⟨Nat.le_of_ble_eq_true rfl, Nat.le_of_ble_eq_true rfl⟩) (uPreV2 hK (wP_r hP) (wD_r hD) (ci := 6) (q := (RX6, TX6, 11)) rfl rfl) rfl rfl hl.1 rfl (lv_room (Nat.le_of_ble_eq_true rfl)) dL_law_1568 ⟨by show cells + 0 ≤ 601024; omega, by show slots + 0 ≤ 7293034; omega⟩) hS hP hD (fun H locs hP hS => ?_)
  have hD : va_D (lA s) ((((W5x cI aC aS aL aW aB aF aZ aK aM aO aT aY sr wm wW bh bF bZ bK bM ol oS) ++ (HB cI cZ cS aY aV aU aR kd kf kA kV kQ kP)) ++ [(aQ, .inl (cJ, 1, .inr (.inl f)))]) ++ (W6 cI aX aN aP aJ aI aG aD ms ml z_mt mq mu mN mP mK mI mT mD)) := wD_re2 hD rfl
  refine W.widen (k := cells + 3) (n := slots + 18) (by omega) (by omega) ?_
  refine lv_dstore (lv' := [(7, .double r6), (5, .double r), (0, .ref b), (1, .ref aC), (2, .ref aX), (3, .ref aQ), (4, .int i4)]) hx hb dL_law_1571 hl (by decide) rfl (fun ls hl => ?_)
  have fin : W p l e room_1 s m #[Value.ref b] below meth c H locs (cells + 3) (slots + 18) Q (F0 m 1599 ls []) := by
    refine lv_goto (tgt := 1602) hx hb dL_law_1599 (by decide) ?_
    exact kk H locs ls ⟨sr, wm, wW, bh, bF, bZ, bK, bM, ol, oS, kd, kf, kA, kV, kP, ms, ml, z_mt, mq, mu, mN, mP, mK, mI, mT, mD, f, hI, hP, hD, hS⟩ (lv_sub hl [2, 3, 4, 5, 6] rfl)
  subst hrr
  obtain ⟨v, hv⟩ : ∃ v, v = Op.cmpValue (FP.dcmp r r) CmpOp.l := ⟨_, rfl⟩
  refine lv_dload hx hb dL_law_1573 (lv_at hl 1 rfl) ?_
  refine lv_dload hx hb dL_law_1575 (lv_at hl 0 rfl) ?_
  refine lv_dcmp hx hb dL_law_1577 ?_
  rw [← hv]
  refine lv_if_eq (tgt := 1599) hx hb dL_law_1578 (by decide) (fun _ => fin) (fun h1 => ?_)
  refine lv_dload hx hb dL_law_1581 (lv_at hl 1 rfl) ?_
  refine lv_dload hx hb dL_law_1583 (lv_at hl 1 rfl) ?_
  refine lv_dcmp hx hb dL_law_1585 ?_
  rw [← hv]
  refine lv_if_eq (tgt := 1597) hx hb dL_law_1586 (by decide) (fun h => absurd h h1) (fun _ => ?_)
  refine lv_dload hx hb dL_law_1589 (lv_at hl 0 rfl) ?_
  refine lv_dload hx hb dL_law_1591 (lv_at hl 0 rfl) ?_
  refine lv_dcmp hx hb dL_law_1593 ?_
  rw [← hv]
  exact lv_if_ne (tgt := 1599) hx hb dL_law_1594 (by decide) (fun _ => fin) (fun h => absurd h h1)
end Cases
