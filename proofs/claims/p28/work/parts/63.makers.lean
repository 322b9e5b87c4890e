
abbrev rmL_letters : Room := { frames := 11, cells := 769, slots := 8791, locals := 235 }
theorem hdnL_letters : yL_letters.cls ≠ "java/lang/invoke/MethodHandle" ∧ yL_letters.cls ≠ "java/lang/invoke/VarHandle" ∧ (parseMethodDescriptor yL_letters.desc).map (fun d => d.parameters.length) = some 0 := by decide +kernel
set_option maxHeartbeats 8000000 in
set_option maxRecDepth 100000 in
theorem KL_letters (l : Launch) (hfl : l.stackTraces = false) (D : va_G) (cI cZ cS cJ : ClassId) (sz : Nat) (r : Int32) (hF : fL_lettersB st0 = some r) : Met l yL_letters wsL_letters rmL_letters (nP D (gT cI cZ cS cJ) sz) (nQ (.int r) (fun q => sz ≤ q)) 769 8791 (fun q => sz ≤ q) := by
  refine Met.ofW (cc := cL_letters) (maxL := 1) (ret := (some .boolean)) (by decide) rfl ?_
  intro p e s m args below meth c s₁ B hml hv
  obtain ⟨ha, hsz, hK, hM, hX, hZ, hY⟩ := hv
  subst hsz
  have hx := B.exec
  have hb := B.bytes
  have hr := B.returns
  have hlocks := B.notSynchronized
  have hts : ∀ w ∈ lw_all, w.before args s = true := fun w h => atoms_spec (ws := wsL_letters) B.pre w (List.mem_cons_of_mem _ h)
  have hown : s.vm.findClass RL = some m.cls := findClass_of_methodNamed B.named
  have S : CallFix p m c cL_letters 1 s args lw_all RL := ⟨hx, hb, hml, hown, hts⟩
  have hA : ∀ q : Nat, s.heap.size ≤ q → (fun q => s.heap.size ≤ q) q := fun q h => h
  generalize (fun q => s.heap.size ≤ q) = A0 at hZ hA ⊢
  have hS : va_S A0 s.heap s.heap [] := va_S.rf
  have key : ∀ (a : AD) (H : Heap) (locs : List Loc) (cl sl : Nat), cl + 690 ≤ 769 → sl + 4140 ≤ 8791 → va_P D vwCl (WS cI cZ cS a st0) H → va_D A0 (WS cI cZ cS a st0) → va_S A0 s.heap H locs → ∀ ls : Array Slot, lv_has ls 1 [(0, .ref a.1)] → W p l e (headSpec wsL_letters rmL_letters).room s m args below meth c H locs cl sl (MQ below (nQ (.int r) A0) args s 769 8791 A0) (F0 m 8 ls []) := by
    intro a
    intro H locs cl sl hc1 hc2 hP hD hS ls hl
    rw [fL_lettersB] at hF
    refine lv_aload_n hx hb dL_letters_8 rfl (lv_at hl 0 rfl) ?_
    refine lv_bipush (v := (8 : Int32)) hx hb dL_letters_9 (by decide) ?_
    refine lv_iconst (v := (0 : Int32)) hx hb dL_letters_11 (by decide) ?_
    refine lv_iconst (v := (0 : Int32)) hx hb dL_letters_12 (by decide) ?_
    refine lv_iconst (v := (0 : Int32)) hx hb dL_letters_13 (by decide) ?_
    obtain ⟨q1, u2, h3, hF⟩ := bd2_at hF
    refine scalli (X' := WS cI cZ cS a u2) (vx_runSW (As := [.ref a.1, .int (8 : Int32), .int (0 : Int32), .int (0 : Int32), .int (0 : Int32)]) (rest := []) S (KT_undo l hfl D cI cZ cS cJ a st0 (0 : Int32) (0 : Int32) (0 : Int32) q1 u2 h3) (vx_cwSW 5 hts (gd_SW wd_448 wd_449 wd_21 cwL_call) rfl rfl rfl hdL_call ⟨Nat.le_of_ble_eq_true rfl, Nat.le_of_ble_eq_true rfl⟩) (wPreS hK hX hZ hY hS hP hD) rfl rfl hl.1 rfl (lv_room (Nat.le_of_ble_eq_true rfl)) dL_letters_14 ⟨(by show cl + 3 ≤ 769; omega), (by show sl + 18 ≤ 8791; omega)⟩) hS hD (fun H locs hP hS => ?_)
    have hD : va_D A0 (WS cI cZ cS a u2) := WS_D u2 hD
    have hP : va_P D vwCl (WS cI cZ cS a u2) H := hP
    refine lv_bipush (v := (-13 : Int32)) hx hb dL_letters_17 (by decide) ?_
    refine lv_icmp_ne (tgt := 183) hx hb dL_letters_19 (by decide) (fun c4 => ?_) (fun c4 => ?_)
    · have hF := ite_f c4 hF
      refine lv_iconst (v := (0 : Int32)) hx hb dL_letters_183 (by decide) ?_
      cases hF
      exact nretz (by omega) (by omega) (by decide) hx hb hr hlocks hS dL_letters_184
    · have hF := ite_t c4 hF
      refine lv_aload_n hx hb dL_letters_22 rfl (lv_at hl 0 rfl) ?_
      refine lv_bipush (v := (10 : Int32)) hx hb dL_letters_23 (by decide) ?_
      refine lv_iconst (v := (0 : Int32)) hx hb dL_letters_25 (by decide) ?_
      refine lv_iconst (v := (0 : Int32)) hx hb dL_letters_26 (by decide) ?_
      refine lv_iconst (v := (0 : Int32)) hx hb dL_letters_27 (by decide) ?_
      obtain ⟨q5, u6, h7, hF⟩ := bd2_at hF
      refine scalli (X' := WS cI cZ cS a u6) (vx_runSW (As := [.ref a.1, .int (10 : Int32), .int (0 : Int32), .int (0 : Int32), .int (0 : Int32)]) (rest := []) S (KT_goBack l hfl D cI cZ cS cJ a u2 (0 : Int32) (0 : Int32) (0 : Int32) q5 u6 h7) (vx_cwSW 5 hts (gd_SW wd_448 wd_449 wd_21 cwL_call) rfl rfl rfl hdL_call ⟨Nat.le_of_ble_eq_true rfl, Nat.le_of_ble_eq_true rfl⟩) (wPreS hK hX hZ hY hS hP hD) rfl rfl hl.1 rfl (lv_room (Nat.le_of_ble_eq_true rfl)) dL_letters_28 ⟨(by show cl + 6 ≤ 769; omega), (by show sl + 36 ≤ 8791; omega)⟩) hS hD (fun H locs hP hS => ?_)
      have hD : va_D A0 (WS cI cZ cS a u6) := WS_D u6 hD
      have hP : va_P D vwCl (WS cI cZ cS a u6) H := hP
      refine lv_bipush (v := (-13 : Int32)) hx hb dL_letters_31 (by decide) ?_
      refine lv_icmp_ne (tgt := 183) hx hb dL_letters_33 (by decide) (fun c8 => ?_) (fun c8 => ?_)
      · have hF := ite_f c8 hF
        refine lv_iconst (v := (0 : Int32)) hx hb dL_letters_183 (by decide) ?_
        cases hF
        exact nretz (by omega) (by omega) (by decide) hx hb hr hlocks hS dL_letters_184
      · have hF := ite_t c8 hF
        refine lv_aload_n hx hb dL_letters_36 rfl (lv_at hl 0 rfl) ?_
        refine lv_bipush (v := (9 : Int32)) hx hb dL_letters_37 (by decide) ?_
        obtain ⟨k9, q10, h11, hF⟩ := bd2_at hF
        obtain ⟨g12, hF⟩ := gd_at hF
        rw [g12] at h11
        refine rcall (va_runV (As := [.int (9 : Int32)]) (rest := []) S (NS_count l D cI cZ cS cJ a u6 (9 : Int32) q10 h11) (cwV 1 hts (gd_V wd_413 wd_414 wd_415 wd_22 wd_416) rfl rfl rfl hd5_count ⟨Nat.le_of_ble_eq_true rfl, Nat.le_of_ble_eq_true rfl⟩) (rPreV hK hP (ci := 5) (q := (RX5, TX5, 3)) (WS_0 cI cZ cS a u6) rfl) rfl rfl hl.1 rfl (lv_room (Nat.le_of_ble_eq_true rfl)) dL_letters_39 ⟨(by show cl + 6 ≤ 769; omega), (by show sl + 36 ≤ 8791; omega)⟩) ?_
        refine lv_bipush (v := (11 : Int32)) hx hb dL_letters_42 (by decide) ?_
        refine lv_icmp_ne (tgt := 183) hx hb dL_letters_44 (by decide) (fun c13 => ?_) (fun c13 => ?_)
        · have hF := ite_f c13 hF
          refine lv_iconst (v := (0 : Int32)) hx hb dL_letters_183 (by decide) ?_
          cases hF
          exact nretz (by omega) (by omega) (by decide) hx hb hr hlocks hS dL_letters_184
        · have hF := ite_t c13 hF
          refine lv_aload_n hx hb dL_letters_47 rfl (lv_at hl 0 rfl) ?_
          refine lv_bipush (v := (17 : Int32)) hx hb dL_letters_48 (by decide) ?_
          obtain ⟨k14, q15, h16, hF⟩ := bd2_at hF
          obtain ⟨g17, hF⟩ := gd_at hF
          rw [g17] at h16
          refine rcall (va_runV (As := [.int (17 : Int32)]) (rest := []) S (NS_count l D cI cZ cS cJ a u6 (17 : Int32) q15 h16) (cwV 1 hts (gd_V wd_413 wd_414 wd_415 wd_22 wd_416) rfl rfl rfl hd5_count ⟨Nat.le_of_ble_eq_true rfl, Nat.le_of_ble_eq_true rfl⟩) (rPreV hK hP (ci := 5) (q := (RX5, TX5, 3)) (WS_0 cI cZ cS a u6) rfl) rfl rfl hl.1 rfl (lv_room (Nat.le_of_ble_eq_true rfl)) dL_letters_50 ⟨(by show cl + 6 ≤ 769; omega), (by show sl + 36 ≤ 8791; omega)⟩) ?_
          refine lv_bipush (v := (6 : Int32)) hx hb dL_letters_53 (by decide) ?_
          refine lv_icmp_ne (tgt := 183) hx hb dL_letters_55 (by decide) (fun c18 => ?_) (fun c18 => ?_)
          · have hF := ite_f c18 hF
            refine lv_iconst (v := (0 : Int32)) hx hb dL_letters_183 (by decide) ?_
            cases hF
            exact nretz (by omega) (by omega) (by decide) hx hb hr hlocks hS dL_letters_184
          · have hF := ite_t c18 hF
            refine lv_aload_n hx hb dL_letters_58 rfl (lv_at hl 0 rfl) ?_
            refine lv_bipush (v := (123 : Int32)) hx hb dL_letters_59 (by decide) ?_
            obtain ⟨k19, q20, h21, hF⟩ := bd2_at hF
            obtain ⟨g22, hF⟩ := gd_at hF
            rw [g22] at h21
            refine rcall (va_runV (As := [.int (123 : Int32)]) (rest := []) S (NS_letter l D cI cZ cS cJ a u6 (123 : Int32) q20 h21) (cwV 1 hts (gd_V wd_409 wd_410 wd_411 wd_22 wd_412) rfl rfl rfl hd5_letter ⟨Nat.le_of_ble_eq_true rfl, Nat.le_of_ble_eq_true rfl⟩) (rPreV hK hP (ci := 5) (q := (RX5, TX5, 3)) (WS_0 cI cZ cS a u6) rfl) rfl rfl hl.1 rfl (lv_room (Nat.le_of_ble_eq_true rfl)) dL_letters_61 ⟨(by show cl + 6 ≤ 769; omega), (by show sl + 36 ≤ 8791; omega)⟩) ?_
            refine lv_bipush (v := (10 : Int32)) hx hb dL_letters_64 (by decide) ?_
            refine lv_icmp_ne (tgt := 183) hx hb dL_letters_66 (by decide) (fun c23 => ?_) (fun c23 => ?_)
            · have hF := ite_f c23 hF
              refine lv_iconst (v := (0 : Int32)) hx hb dL_letters_183 (by decide) ?_
              cases hF
              exact nretz (by omega) (by omega) (by decide) hx hb hr hlocks hS dL_letters_184
            · have hF := ite_t c23 hF
              refine lv_aload_n hx hb dL_letters_69 rfl (lv_at hl 0 rfl) ?_
              refine lv_ldc hx hb hown (hts _ wd_719) dL_letters_70 ?_
              obtain ⟨k24, q25, h26, hF⟩ := bd2_at hF
              obtain ⟨g27, hF⟩ := gd_at hF
              rw [g27] at h26
              refine rcall (va_runV (As := [.int (123456 : Int32)]) (rest := []) S (NS_letter l D cI cZ cS cJ a u6 (123456 : Int32) q25 h26) (cwV 1 hts (gd_V wd_409 wd_410 wd_411 wd_22 wd_412) rfl rfl rfl hd5_letter ⟨Nat.le_of_ble_eq_true rfl, Nat.le_of_ble_eq_true rfl⟩) (rPreV hK hP (ci := 5) (q := (RX5, TX5, 3)) (WS_0 cI cZ cS a u6) rfl) rfl rfl hl.1 rfl (lv_room (Nat.le_of_ble_eq_true rfl)) dL_letters_72 ⟨(by show cl + 6 ≤ 769; omega), (by show sl + 36 ≤ 8791; omega)⟩) ?_
              refine lv_iconst (v := (3 : Int32)) hx hb dL_letters_75 (by decide) ?_
              refine lv_icmp_ne (tgt := 183) hx hb dL_letters_76 (by decide) (fun c28 => ?_) (fun c28 => ?_)
              · have hF := ite_f c28 hF
                refine lv_iconst (v := (0 : Int32)) hx hb dL_letters_183 (by decide) ?_
                cases hF
                exact nretz (by omega) (by omega) (by decide) hx hb hr hlocks hS dL_letters_184
              · have hF := ite_t c28 hF
                refine lv_aload_n hx hb dL_letters_79 rfl (lv_at hl 0 rfl) ?_
                refine lv_iconst (v := (0 : Int32)) hx hb dL_letters_80 (by decide) ?_
                obtain ⟨k29, q30, h31, hF⟩ := bd2_at hF
                obtain ⟨g32, hF⟩ := gd_at hF
                rw [g32] at h31
                refine rcall (va_runV (As := [.int (0 : Int32)]) (rest := []) S (NS_letter l D cI cZ cS cJ a u6 (0 : Int32) q30 h31) (cwV 1 hts (gd_V wd_409 wd_410 wd_411 wd_22 wd_412) rfl rfl rfl hd5_letter ⟨Nat.le_of_ble_eq_true rfl, Nat.le_of_ble_eq_true rfl⟩) (rPreV hK hP (ci := 5) (q := (RX5, TX5, 3)) (WS_0 cI cZ cS a u6) rfl) rfl rfl hl.1 rfl (lv_room (Nat.le_of_ble_eq_true rfl)) dL_letters_81 ⟨(by show cl + 6 ≤ 769; omega), (by show sl + 36 ≤ 8791; omega)⟩) ?_
                refine lv_if_ne (tgt := 183) hx hb dL_letters_84 (by decide) (fun c33 => ?_) (fun c33 => ?_)
                · have hF := ite_f c33 hF
                  refine lv_iconst (v := (0 : Int32)) hx hb dL_letters_183 (by decide) ?_
                  cases hF
                  exact nretz (by omega) (by omega) (by decide) hx hb hr hlocks hS dL_letters_184
                · have hF := ite_t c33 hF
                  refine lv_aload_n hx hb dL_letters_87 rfl (lv_at hl 0 rfl) ?_
                  refine lv_ldc hx hb hown (hts _ wd_710) dL_letters_88 ?_
                  obtain ⟨k34, q35, h36, hF⟩ := bd2_at hF
                  obtain ⟨g37, hF⟩ := gd_at hF
                  rw [g37] at h36
                  refine rcall (va_runV (As := [.int (999999 : Int32)]) (rest := []) S (NS_letter l D cI cZ cS cJ a u6 (999999 : Int32) q35 h36) (cwV 1 hts (gd_V wd_409 wd_410 wd_411 wd_22 wd_412) rfl rfl rfl hd5_letter ⟨Nat.le_of_ble_eq_true rfl, Nat.le_of_ble_eq_true rfl⟩) (rPreV hK hP (ci := 5) (q := (RX5, TX5, 3)) (WS_0 cI cZ cS a u6) rfl) rfl rfl hl.1 rfl (lv_room (Nat.le_of_ble_eq_true rfl)) dL_letters_90 ⟨(by show cl + 6 ≤ 769; omega), (by show sl + 36 ≤ 8791; omega)⟩) ?_
                  refine lv_iconst (v := (2 : Int32)) hx hb dL_letters_93 (by decide) ?_
                  refine lv_icmp_ne (tgt := 183) hx hb dL_letters_94 (by decide) (fun c38 => ?_) (fun c38 => ?_)
                  · have hF := ite_f c38 hF
                    refine lv_iconst (v := (0 : Int32)) hx hb dL_letters_183 (by decide) ?_
                    cases hF
                    exact nretz (by omega) (by omega) (by decide) hx hb hr hlocks hS dL_letters_184
                  · have hF := ite_t c38 hF
                    refine lv_aload_n hx hb dL_letters_97 rfl (lv_at hl 0 rfl) ?_
                    refine lv_iconst (v := (0 : Int32)) hx hb dL_letters_98 (by decide) ?_
                    obtain ⟨k39, q40, h41, hF⟩ := bd2_at hF
                    obtain ⟨g42, hF⟩ := gd_at hF
                    rw [g42] at h41
                    refine rcall (va_runV (As := [.int (0 : Int32)]) (rest := []) S (NS_finds l D cI cZ cS cJ a u6 (0 : Int32) q40 h41) (cwV 1 hts (gd_V wd_688 wd_689 wd_690 wd_22 wd_691) rfl rfl rfl hd5_finds ⟨Nat.le_of_ble_eq_true rfl, Nat.le_of_ble_eq_true rfl⟩) (rPreV hK hP (ci := 5) (q := (RX5, TX5, 3)) (WS_0 cI cZ cS a u6) rfl) rfl rfl hl.1 rfl (lv_room (Nat.le_of_ble_eq_true rfl)) dL_letters_99 ⟨(by show cl + 6 ≤ 769; omega), (by show sl + 36 ≤ 8791; omega)⟩) ?_
                    refine lv_if_eq (tgt := 183) hx hb dL_letters_102 (by decide) (fun c43 => ?_) (fun c43 => ?_)
                    · have hF := ite_t c43 hF
                      refine lv_iconst (v := (0 : Int32)) hx hb dL_letters_183 (by decide) ?_
                      cases hF
                      exact nretz (by omega) (by omega) (by decide) hx hb hr hlocks hS dL_letters_184
                    · have hF := ite_f c43 hF
                      refine lv_aload_n hx hb dL_letters_105 rfl (lv_at hl 0 rfl) ?_
                      refine lv_iconst (v := (1 : Int32)) hx hb dL_letters_106 (by decide) ?_
                      obtain ⟨k44, q45, h46, hF⟩ := bd2_at hF
                      obtain ⟨g47, hF⟩ := gd_at hF
                      rw [g47] at h46
                      refine rcall (va_runV (As := [.int (1 : Int32)]) (rest := []) S (NS_finds l D cI cZ cS cJ a u6 (1 : Int32) q45 h46) (cwV 1 hts (gd_V wd_688 wd_689 wd_690 wd_22 wd_691) rfl rfl rfl hd5_finds ⟨Nat.le_of_ble_eq_true rfl, Nat.le_of_ble_eq_true rfl⟩) (rPreV hK hP (ci := 5) (q := (RX5, TX5, 3)) (WS_0 cI cZ cS a u6) rfl) rfl rfl hl.1 rfl (lv_room (Nat.le_of_ble_eq_true rfl)) dL_letters_107 ⟨(by show cl + 6 ≤ 769; omega), (by show sl + 36 ≤ 8791; omega)⟩) ?_
                      refine lv_if_eq (tgt := 183) hx hb dL_letters_110 (by decide) (fun c48 => ?_) (fun c48 => ?_)
                      · have hF := ite_t c48 hF
                        refine lv_iconst (v := (0 : Int32)) hx hb dL_letters_183 (by decide) ?_
                        cases hF
                        exact nretz (by omega) (by omega) (by decide) hx hb hr hlocks hS dL_letters_184
                      · have hF := ite_f c48 hF
                        refine lv_aload_n hx hb dL_letters_113 rfl (lv_at hl 0 rfl) ?_
                        refine lv_iconst (v := (2 : Int32)) hx hb dL_letters_114 (by decide) ?_
                        obtain ⟨k49, q50, h51, hF⟩ := bd2_at hF
                        obtain ⟨g52, hF⟩ := gd_at hF
                        rw [g52] at h51
                        refine rcall (va_runV (As := [.int (2 : Int32)]) (rest := []) S (NS_finds l D cI cZ cS cJ a u6 (2 : Int32) q50 h51) (cwV 1 hts (gd_V wd_688 wd_689 wd_690 wd_22 wd_691) rfl rfl rfl hd5_finds ⟨Nat.le_of_ble_eq_true rfl, Nat.le_of_ble_eq_true rfl⟩) (rPreV hK hP (ci := 5) (q := (RX5, TX5, 3)) (WS_0 cI cZ cS a u6) rfl) rfl rfl hl.1 rfl (lv_room (Nat.le_of_ble_eq_true rfl)) dL_letters_115 ⟨(by show cl + 6 ≤ 769; omega), (by show sl + 36 ≤ 8791; omega)⟩) ?_
                        refine lv_if_eq (tgt := 183) hx hb dL_letters_118 (by decide) (fun c53 => ?_) (fun c53 => ?_)
                        · have hF := ite_t c53 hF
                          refine lv_iconst (v := (0 : Int32)) hx hb dL_letters_183 (by decide) ?_
                          cases hF
                          exact nretz (by omega) (by omega) (by decide) hx hb hr hlocks hS dL_letters_184
                        · have hF := ite_f c53 hF
                          refine lv_aload_n hx hb dL_letters_121 rfl (lv_at hl 0 rfl) ?_
                          refine lv_iconst (v := (0 : Int32)) hx hb dL_letters_122 (by decide) ?_
                          obtain ⟨k54, q55, h56, hF⟩ := bd2_at hF
                          obtain ⟨g57, hF⟩ := gd_at hF
                          rw [g57] at h56
                          refine rcall (va_runV (As := [.int (0 : Int32)]) (rest := []) S (NS_bestWeight l D cI cZ cS cJ a u6 (0 : Int32) q55 h56) (cwV 1 hts (gd_V wd_651 wd_652 wd_653 wd_22 wd_654) rfl rfl rfl hd5_bestWeight ⟨Nat.le_of_ble_eq_true rfl, Nat.le_of_ble_eq_true rfl⟩) (rPreV hK hP (ci := 5) (q := (RX5, TX5, 3)) (WS_0 cI cZ cS a u6) rfl) rfl rfl hl.1 rfl (lv_room (Nat.le_of_ble_eq_true rfl)) dL_letters_123 ⟨(by show cl + 6 ≤ 769; omega), (by show sl + 36 ≤ 8791; omega)⟩) ?_
                          refine lv_iconst (v := (1 : Int32)) hx hb dL_letters_126 (by decide) ?_
                          refine lv_icmp_ne (tgt := 183) hx hb dL_letters_127 (by decide) (fun c58 => ?_) (fun c58 => ?_)
                          · have hF := ite_f c58 hF
                            refine lv_iconst (v := (0 : Int32)) hx hb dL_letters_183 (by decide) ?_
                            cases hF
                            exact nretz (by omega) (by omega) (by decide) hx hb hr hlocks hS dL_letters_184
                          · have hF := ite_t c58 hF
                            refine lv_aload_n hx hb dL_letters_130 rfl (lv_at hl 0 rfl) ?_
                            refine lv_iconst (v := (1 : Int32)) hx hb dL_letters_131 (by decide) ?_
                            obtain ⟨k59, q60, h61, hF⟩ := bd2_at hF
                            obtain ⟨g62, hF⟩ := gd_at hF
                            rw [g62] at h61
                            refine rcall (va_runV (As := [.int (1 : Int32)]) (rest := []) S (NS_bestWeight l D cI cZ cS cJ a u6 (1 : Int32) q60 h61) (cwV 1 hts (gd_V wd_651 wd_652 wd_653 wd_22 wd_654) rfl rfl rfl hd5_bestWeight ⟨Nat.le_of_ble_eq_true rfl, Nat.le_of_ble_eq_true rfl⟩) (rPreV hK hP (ci := 5) (q := (RX5, TX5, 3)) (WS_0 cI cZ cS a u6) rfl) rfl rfl hl.1 rfl (lv_room (Nat.le_of_ble_eq_true rfl)) dL_letters_132 ⟨(by show cl + 6 ≤ 769; omega), (by show sl + 36 ≤ 8791; omega)⟩) ?_
                            refine lv_iconst (v := (2 : Int32)) hx hb dL_letters_135 (by decide) ?_
                            refine lv_icmp_ne (tgt := 183) hx hb dL_letters_136 (by decide) (fun c63 => ?_) (fun c63 => ?_)
                            · have hF := ite_f c63 hF
                              refine lv_iconst (v := (0 : Int32)) hx hb dL_letters_183 (by decide) ?_
                              cases hF
                              exact nretz (by omega) (by omega) (by decide) hx hb hr hlocks hS dL_letters_184
                            · have hF := ite_t c63 hF
                              refine lv_aload_n hx hb dL_letters_139 rfl (lv_at hl 0 rfl) ?_
                              refine lv_iconst (v := (5 : Int32)) hx hb dL_letters_140 (by decide) ?_
                              obtain ⟨k64, q65, h66, hF⟩ := bd2_at hF
                              obtain ⟨g67, hF⟩ := gd_at hF
                              rw [g67] at h66
                              refine rcall (va_runV (As := [.int (5 : Int32)]) (rest := []) S (NS_bestWeight l D cI cZ cS cJ a u6 (5 : Int32) q65 h66) (cwV 1 hts (gd_V wd_651 wd_652 wd_653 wd_22 wd_654) rfl rfl rfl hd5_bestWeight ⟨Nat.le_of_ble_eq_true rfl, Nat.le_of_ble_eq_true rfl⟩) (rPreV hK hP (ci := 5) (q := (RX5, TX5, 3)) (WS_0 cI cZ cS a u6) rfl) rfl rfl hl.1 rfl (lv_room (Nat.le_of_ble_eq_true rfl)) dL_letters_141 ⟨(by show cl + 6 ≤ 769; omega), (by show sl + 36 ≤ 8791; omega)⟩) ?_
                              refine lv_iconst (v := (1 : Int32)) hx hb dL_letters_144 (by decide) ?_
                              refine lv_icmp_ne (tgt := 183) hx hb dL_letters_145 (by decide) (fun c68 => ?_) (fun c68 => ?_)
                              · have hF := ite_f c68 hF
                                refine lv_iconst (v := (0 : Int32)) hx hb dL_letters_183 (by decide) ?_
                                cases hF
                                exact nretz (by omega) (by omega) (by decide) hx hb hr hlocks hS dL_letters_184
                              · have hF := ite_t c68 hF
                                refine lv_aload_n hx hb dL_letters_148 rfl (lv_at hl 0 rfl) ?_
                                refine lv_bipush (v := (123 : Int32)) hx hb dL_letters_149 (by decide) ?_
                                refine lv_iconst (v := (0 : Int32)) hx hb dL_letters_151 (by decide) ?_
                                obtain ⟨k69, q70, h71, hF⟩ := bd2_at hF
                                obtain ⟨g72, hF⟩ := gd_at hF
                                rw [g72] at h71
                                refine rcall (va_runV (As := [.int (123 : Int32), .int (0 : Int32)]) (rest := []) S (NS_missed l D cI cZ cS cJ a u6 (123 : Int32) (0 : Int32) q70 h71) (cwV 2 hts (gd_V wd_607 wd_608 wd_609 wd_22 wd_610) rfl rfl rfl hd5_missed ⟨Nat.le_of_ble_eq_true rfl, Nat.le_of_ble_eq_true rfl⟩) (rPreV hK hP (ci := 5) (q := (RX5, TX5, 3)) (WS_0 cI cZ cS a u6) rfl) rfl rfl hl.1 rfl (lv_room (Nat.le_of_ble_eq_true rfl)) dL_letters_152 ⟨(by show cl + 6 ≤ 769; omega), (by show sl + 36 ≤ 8791; omega)⟩) ?_
                                refine lv_if_ne (tgt := 183) hx hb dL_letters_155 (by decide) (fun c73 => ?_) (fun c73 => ?_)
                                · have hF := ite_f c73 hF
                                  refine lv_iconst (v := (0 : Int32)) hx hb dL_letters_183 (by decide) ?_
                                  cases hF
                                  exact nretz (by omega) (by omega) (by decide) hx hb hr hlocks hS dL_letters_184
                                · have hF := ite_t c73 hF
                                  refine lv_aload_n hx hb dL_letters_158 rfl (lv_at hl 0 rfl) ?_
                                  refine lv_iconst (v := (0 : Int32)) hx hb dL_letters_159 (by decide) ?_
                                  obtain ⟨k74, q75, h76, hF⟩ := bd2_at hF
                                  obtain ⟨g77, hF⟩ := gd_at hF
                                  rw [g77] at h76
                                  refine rcall (va_runV (As := [.int (0 : Int32)]) (rest := []) S (NS_ranked l D cI cZ cS cJ a u6 (0 : Int32) q75 h76) (cwV 1 hts (gd_V wd_590 wd_591 wd_592 wd_22 wd_593) rfl rfl rfl hd5_ranked ⟨Nat.le_of_ble_eq_true rfl, Nat.le_of_ble_eq_true rfl⟩) (rPreV hK hP (ci := 5) (q := (RX5, TX5, 3)) (WS_0 cI cZ cS a u6) rfl) rfl rfl hl.1 rfl (lv_room (Nat.le_of_ble_eq_true rfl)) dL_letters_160 ⟨(by show cl + 6 ≤ 769; omega), (by show sl + 36 ≤ 8791; omega)⟩) ?_
                                  refine lv_iconst (v := (-1 : Int32)) hx hb dL_letters_163 (by decide) ?_
                                  refine lv_icmp_ne (tgt := 183) hx hb dL_letters_164 (by decide) (fun c78 => ?_) (fun c78 => ?_)
                                  · have hF := ite_f c78 hF
                                    refine lv_iconst (v := (0 : Int32)) hx hb dL_letters_183 (by decide) ?_
                                    cases hF
                                    exact nretz (by omega) (by omega) (by decide) hx hb hr hlocks hS dL_letters_184
                                  · have hF := ite_t c78 hF
                                    refine lv_aload_n hx hb dL_letters_167 rfl (lv_at hl 0 rfl) ?_
                                    obtain ⟨q79, h80, hF⟩ := bd1_at hF
                                    refine rcall (va_runV (As := []) (rest := []) S (NS_cashed l D cI cZ cS cJ a u6 q79 h80) (cwV 0 hts (gd_V wd_720 wd_721 wd_722 wd_22 wd_723) rfl rfl rfl hd5_cashed ⟨Nat.le_of_ble_eq_true rfl, Nat.le_of_ble_eq_true rfl⟩) (rPreV hK hP (ci := 5) (q := (RX5, TX5, 3)) (WS_0 cI cZ cS a u6) rfl) rfl rfl hl.1 rfl (lv_room (Nat.le_of_ble_eq_true rfl)) dL_letters_168 ⟨(by show cl + 6 ≤ 769; omega), (by show sl + 36 ≤ 8791; omega)⟩) ?_
                                    refine lv_dconst0 hx hb dL_letters_171 ?_
                                    refine lv_dcmp hx hb dL_letters_172 ?_
                                    refine lv_if_ne (tgt := 183) hx hb dL_letters_173 (by decide) (fun c81 => ?_) (fun c81 => ?_)
                                    · have hF := ite_f c81 hF
                                      refine lv_iconst (v := (0 : Int32)) hx hb dL_letters_183 (by decide) ?_
                                      cases hF
                                      exact nretz (by omega) (by omega) (by decide) hx hb hr hlocks hS dL_letters_184
                                    · have hF := ite_t c81 hF
                                      refine lv_aload_n hx hb dL_letters_176 rfl (lv_at hl 0 rfl) ?_
                                      obtain ⟨q82, u84, h83, hF⟩ := bd2_at hF
                                      refine scalli (X' := WS cI cZ cS a u84) (va_runS (As := [.ref a.1]) (rest := []) S (KL_refused l hfl D cI cZ cS cJ a u6 q82 u84 h83) (va_cwS 1 hts (gd_S wd_704 wd_705 wd_21 wd_706) rfl rfl rfl hdnL_refused ⟨Nat.le_of_ble_eq_true rfl, Nat.le_of_ble_eq_true rfl⟩) (wPreS hK hX hZ hY hS hP hD) rfl rfl hl.1 rfl (lv_room (Nat.le_of_ble_eq_true rfl)) dL_letters_177 ⟨(by show cl + 690 ≤ 769; omega), (by show sl + 4140 ≤ 8791; omega)⟩) hS hD (fun H locs hP hS => ?_)
                                      have hD : va_D A0 (WS cI cZ cS a u84) := WS_D u84 hD
                                      have hP : va_P D vwCl (WS cI cZ cS a u84) H := hP
                                      refine lv_if_ne (tgt := 185) hx hb dL_letters_180 (by decide) (fun c85 => ?_) (fun c85 => ?_)
                                      · have hF := ite_f c85 hF
                                        refine lv_aload_n hx hb dL_letters_185 rfl (lv_at hl 0 rfl) ?_
                                        refine lv_bipush (v := (90 : Int32)) hx hb dL_letters_186 (by decide) ?_
                                        refine lv_bipush (v := (90 : Int32)) hx hb dL_letters_188 (by decide) ?_
                                        refine lv_iconst (v := (1 : Int32)) hx hb dL_letters_190 (by decide) ?_
                                        obtain ⟨k86, q87, h88, hF⟩ := bd2_at hF
                                        obtain ⟨g89, hF⟩ := gd_at hF
                                        rw [g89] at h88
                                        refine rcall (va_runV (As := [.int (90 : Int32), .int (90 : Int32), .int (1 : Int32)]) (rest := []) S (NS_slip l D cI cZ cS cJ a u84 (90 : Int32) (90 : Int32) (1 : Int32) q87 h88) (cwV 3 hts (gd_V wd_683 wd_684 wd_685 wd_22 wd_686) rfl rfl rfl hd5_slip ⟨Nat.le_of_ble_eq_true rfl, Nat.le_of_ble_eq_true rfl⟩) (rPreV hK hP (ci := 5) (q := (RX5, TX5, 3)) (WS_0 cI cZ cS a u84) rfl) rfl rfl hl.1 rfl (lv_room (Nat.le_of_ble_eq_true rfl)) dL_letters_191 ⟨(by show cl + 690 ≤ 769; omega), (by show sl + 4140 ≤ 8791; omega)⟩) ?_
                                        refine lv_iconst (v := (3 : Int32)) hx hb dL_letters_194 (by decide) ?_
                                        refine lv_icmp_ne (tgt := 318) hx hb dL_letters_195 (by decide) (fun c90 => ?_) (fun c90 => ?_)
                                        · have hF := ite_f c90 hF
                                          refine lv_iconst (v := (0 : Int32)) hx hb dL_letters_318 (by decide) ?_
                                          cases hF
                                          exact nretz (by omega) (by omega) (by decide) hx hb hr hlocks hS dL_letters_319
                                        · have hF := ite_t c90 hF
                                          refine lv_aload_n hx hb dL_letters_198 rfl (lv_at hl 0 rfl) ?_
                                          refine lv_bipush (v := (90 : Int32)) hx hb dL_letters_199 (by decide) ?_
                                          refine lv_bipush (v := (90 : Int32)) hx hb dL_letters_201 (by decide) ?_
                                          refine lv_iconst (v := (2 : Int32)) hx hb dL_letters_203 (by decide) ?_
                                          obtain ⟨k91, q92, h93, hF⟩ := bd2_at hF
                                          obtain ⟨g94, hF⟩ := gd_at hF
                                          rw [g94] at h93
                                          refine rcall (va_runV (As := [.int (90 : Int32), .int (90 : Int32), .int (2 : Int32)]) (rest := []) S (NS_slip l D cI cZ cS cJ a u84 (90 : Int32) (90 : Int32) (2 : Int32) q92 h93) (cwV 3 hts (gd_V wd_683 wd_684 wd_685 wd_22 wd_686) rfl rfl rfl hd5_slip ⟨Nat.le_of_ble_eq_true rfl, Nat.le_of_ble_eq_true rfl⟩) (rPreV hK hP (ci := 5) (q := (RX5, TX5, 3)) (WS_0 cI cZ cS a u84) rfl) rfl rfl hl.1 rfl (lv_room (Nat.le_of_ble_eq_true rfl)) dL_letters_204 ⟨(by show cl + 690 ≤ 769; omega), (by show sl + 4140 ≤ 8791; omega)⟩) ?_
                                          refine lv_iconst (v := (2 : Int32)) hx hb dL_letters_207 (by decide) ?_
                                          refine lv_icmp_ne (tgt := 318) hx hb dL_letters_208 (by decide) (fun c95 => ?_) (fun c95 => ?_)
                                          · have hF := ite_f c95 hF
                                            refine lv_iconst (v := (0 : Int32)) hx hb dL_letters_318 (by decide) ?_
                                            cases hF
                                            exact nretz (by omega) (by omega) (by decide) hx hb hr hlocks hS dL_letters_319
                                          · have hF := ite_t c95 hF
                                            refine lv_aload_n hx hb dL_letters_211 rfl (lv_at hl 0 rfl) ?_
                                            refine lv_bipush (v := (90 : Int32)) hx hb dL_letters_212 (by decide) ?_
                                            refine lv_bipush (v := (90 : Int32)) hx hb dL_letters_214 (by decide) ?_
                                            refine lv_bipush (v := (10 : Int32)) hx hb dL_letters_216 (by decide) ?_
                                            obtain ⟨k96, q97, h98, hF⟩ := bd2_at hF
                                            obtain ⟨g99, hF⟩ := gd_at hF
                                            rw [g99] at h98
                                            refine rcall (va_runV (As := [.int (90 : Int32), .int (90 : Int32), .int (10 : Int32)]) (rest := []) S (NS_slip l D cI cZ cS cJ a u84 (90 : Int32) (90 : Int32) (10 : Int32) q97 h98) (cwV 3 hts (gd_V wd_683 wd_684 wd_685 wd_22 wd_686) rfl rfl rfl hd5_slip ⟨Nat.le_of_ble_eq_true rfl, Nat.le_of_ble_eq_true rfl⟩) (rPreV hK hP (ci := 5) (q := (RX5, TX5, 3)) (WS_0 cI cZ cS a u84) rfl) rfl rfl hl.1 rfl (lv_room (Nat.le_of_ble_eq_true rfl)) dL_letters_218 ⟨(by show cl + 690 ≤ 769; omega), (by show sl + 4140 ≤ 8791; omega)⟩) ?_
                                            refine lv_iconst (v := (2 : Int32)) hx hb dL_letters_221 (by decide) ?_
                                            refine lv_icmp_ne (tgt := 318) hx hb dL_letters_222 (by decide) (fun c100 => ?_) (fun c100 => ?_)
                                            · have hF := ite_f c100 hF
                                              refine lv_iconst (v := (0 : Int32)) hx hb dL_letters_318 (by decide) ?_
                                              cases hF
                                              exact nretz (by omega) (by omega) (by decide) hx hb hr hlocks hS dL_letters_319
                                            · have hF := ite_t c100 hF
                                              refine lv_aload_n hx hb dL_letters_225 rfl (lv_at hl 0 rfl) ?_
                                              refine lv_bipush (v := (90 : Int32)) hx hb dL_letters_226 (by decide) ?_
                                              refine lv_bipush (v := (90 : Int32)) hx hb dL_letters_228 (by decide) ?_
                                              refine lv_bipush (v := (11 : Int32)) hx hb dL_letters_230 (by decide) ?_
                                              obtain ⟨k101, q102, h103, hF⟩ := bd2_at hF
                                              obtain ⟨g104, hF⟩ := gd_at hF
                                              rw [g104] at h103
                                              refine rcall (va_runV (As := [.int (90 : Int32), .int (90 : Int32), .int (11 : Int32)]) (rest := []) S (NS_slip l D cI cZ cS cJ a u84 (90 : Int32) (90 : Int32) (11 : Int32) q102 h103) (cwV 3 hts (gd_V wd_683 wd_684 wd_685 wd_22 wd_686) rfl rfl rfl hd5_slip ⟨Nat.le_of_ble_eq_true rfl, Nat.le_of_ble_eq_true rfl⟩) (rPreV hK hP (ci := 5) (q := (RX5, TX5, 3)) (WS_0 cI cZ cS a u84) rfl) rfl rfl hl.1 rfl (lv_room (Nat.le_of_ble_eq_true rfl)) dL_letters_232 ⟨(by show cl + 690 ≤ 769; omega), (by show sl + 4140 ≤ 8791; omega)⟩) ?_
                                              refine lv_iconst (v := (-1 : Int32)) hx hb dL_letters_235 (by decide) ?_
                                              refine lv_icmp_ne (tgt := 318) hx hb dL_letters_236 (by decide) (fun c105 => ?_) (fun c105 => ?_)
                                              · have hF := ite_f c105 hF
                                                refine lv_iconst (v := (0 : Int32)) hx hb dL_letters_318 (by decide) ?_
                                                cases hF
                                                exact nretz (by omega) (by omega) (by decide) hx hb hr hlocks hS dL_letters_319
                                              · have hF := ite_t c105 hF
                                                refine lv_aload_n hx hb dL_letters_239 rfl (lv_at hl 0 rfl) ?_
                                                refine lv_bipush (v := (90 : Int32)) hx hb dL_letters_240 (by decide) ?_
                                                refine lv_bipush (v := (91 : Int32)) hx hb dL_letters_242 (by decide) ?_
                                                refine lv_iconst (v := (1 : Int32)) hx hb dL_letters_244 (by decide) ?_
                                                obtain ⟨k106, q107, h108, hF⟩ := bd2_at hF
                                                obtain ⟨g109, hF⟩ := gd_at hF
                                                rw [g109] at h108
                                                refine rcall (va_runV (As := [.int (90 : Int32), .int (91 : Int32), .int (1 : Int32)]) (rest := []) S (NS_slip l D cI cZ cS cJ a u84 (90 : Int32) (91 : Int32) (1 : Int32) q107 h108) (cwV 3 hts (gd_V wd_683 wd_684 wd_685 wd_22 wd_686) rfl rfl rfl hd5_slip ⟨Nat.le_of_ble_eq_true rfl, Nat.le_of_ble_eq_true rfl⟩) (rPreV hK hP (ci := 5) (q := (RX5, TX5, 3)) (WS_0 cI cZ cS a u84) rfl) rfl rfl hl.1 rfl (lv_room (Nat.le_of_ble_eq_true rfl)) dL_letters_245 ⟨(by show cl + 690 ≤ 769; omega), (by show sl + 4140 ≤ 8791; omega)⟩) ?_
                                                refine lv_if_ne (tgt := 318) hx hb dL_letters_248 (by decide) (fun c110 => ?_) (fun c110 => ?_)
                                                · have hF := ite_f c110 hF
                                                  refine lv_iconst (v := (0 : Int32)) hx hb dL_letters_318 (by decide) ?_
                                                  cases hF
                                                  exact nretz (by omega) (by omega) (by decide) hx hb hr hlocks hS dL_letters_319
                                                · have hF := ite_t c110 hF
                                                  refine lv_aload_n hx hb dL_letters_251 rfl (lv_at hl 0 rfl) ?_
                                                  refine lv_bipush (v := (90 : Int32)) hx hb dL_letters_252 (by decide) ?_
                                                  refine lv_bipush (v := (9 : Int32)) hx hb dL_letters_254 (by decide) ?_
                                                  refine lv_iconst (v := (1 : Int32)) hx hb dL_letters_256 (by decide) ?_
                                                  obtain ⟨k111, q112, h113, hF⟩ := bd2_at hF
                                                  obtain ⟨g114, hF⟩ := gd_at hF
                                                  rw [g114] at h113
                                                  refine rcall (va_runV (As := [.int (90 : Int32), .int (9 : Int32), .int (1 : Int32)]) (rest := []) S (NS_slip l D cI cZ cS cJ a u84 (90 : Int32) (9 : Int32) (1 : Int32) q112 h113) (cwV 3 hts (gd_V wd_683 wd_684 wd_685 wd_22 wd_686) rfl rfl rfl hd5_slip ⟨Nat.le_of_ble_eq_true rfl, Nat.le_of_ble_eq_true rfl⟩) (rPreV hK hP (ci := 5) (q := (RX5, TX5, 3)) (WS_0 cI cZ cS a u84) rfl) rfl rfl hl.1 rfl (lv_room (Nat.le_of_ble_eq_true rfl)) dL_letters_257 ⟨(by show cl + 690 ≤ 769; omega), (by show sl + 4140 ≤ 8791; omega)⟩) ?_
                                                  refine lv_iconst (v := (1 : Int32)) hx hb dL_letters_260 (by decide) ?_
                                                  refine lv_icmp_ne (tgt := 318) hx hb dL_letters_261 (by decide) (fun c115 => ?_) (fun c115 => ?_)
                                                  · have hF := ite_f c115 hF
                                                    refine lv_iconst (v := (0 : Int32)) hx hb dL_letters_318 (by decide) ?_
                                                    cases hF
                                                    exact nretz (by omega) (by omega) (by decide) hx hb hr hlocks hS dL_letters_319
                                                  · have hF := ite_t c115 hF
                                                    refine lv_aload_n hx hb dL_letters_264 rfl (lv_at hl 0 rfl) ?_
                                                    refine lv_bipush (v := (90 : Int32)) hx hb dL_letters_265 (by decide) ?_
                                                    refine lv_sipush (v := (900 : Int32)) hx hb dL_letters_267 (by decide) ?_
                                                    refine lv_iconst (v := (1 : Int32)) hx hb dL_letters_270 (by decide) ?_
                                                    obtain ⟨k116, q117, h118, hF⟩ := bd2_at hF
                                                    obtain ⟨g119, hF⟩ := gd_at hF
                                                    rw [g119] at h118
                                                    refine rcall (va_runV (As := [.int (90 : Int32), .int (900 : Int32), .int (1 : Int32)]) (rest := []) S (NS_slip l D cI cZ cS cJ a u84 (90 : Int32) (900 : Int32) (1 : Int32) q117 h118) (cwV 3 hts (gd_V wd_683 wd_684 wd_685 wd_22 wd_686) rfl rfl rfl hd5_slip ⟨Nat.le_of_ble_eq_true rfl, Nat.le_of_ble_eq_true rfl⟩) (rPreV hK hP (ci := 5) (q := (RX5, TX5, 3)) (WS_0 cI cZ cS a u84) rfl) rfl rfl hl.1 rfl (lv_room (Nat.le_of_ble_eq_true rfl)) dL_letters_271 ⟨(by show cl + 690 ≤ 769; omega), (by show sl + 4140 ≤ 8791; omega)⟩) ?_
                                                    refine lv_iconst (v := (1 : Int32)) hx hb dL_letters_274 (by decide) ?_
                                                    refine lv_icmp_ne (tgt := 318) hx hb dL_letters_275 (by decide) (fun c120 => ?_) (fun c120 => ?_)
                                                    · have hF := ite_f c120 hF
                                                      refine lv_iconst (v := (0 : Int32)) hx hb dL_letters_318 (by decide) ?_
                                                      cases hF
                                                      exact nretz (by omega) (by omega) (by decide) hx hb hr hlocks hS dL_letters_319
                                                    · have hF := ite_t c120 hF
                                                      refine lv_aload_n hx hb dL_letters_278 rfl (lv_at hl 0 rfl) ?_
                                                      refine lv_bipush (v := (90 : Int32)) hx hb dL_letters_279 (by decide) ?_
                                                      refine lv_sipush (v := (9000 : Int32)) hx hb dL_letters_281 (by decide) ?_
                                                      refine lv_iconst (v := (1 : Int32)) hx hb dL_letters_284 (by decide) ?_
                                                      obtain ⟨k121, q122, h123, hF⟩ := bd2_at hF
                                                      obtain ⟨g124, hF⟩ := gd_at hF
                                                      rw [g124] at h123
                                                      refine rcall (va_runV (As := [.int (90 : Int32), .int (9000 : Int32), .int (1 : Int32)]) (rest := []) S (NS_slip l D cI cZ cS cJ a u84 (90 : Int32) (9000 : Int32) (1 : Int32) q122 h123) (cwV 3 hts (gd_V wd_683 wd_684 wd_685 wd_22 wd_686) rfl rfl rfl hd5_slip ⟨Nat.le_of_ble_eq_true rfl, Nat.le_of_ble_eq_true rfl⟩) (rPreV hK hP (ci := 5) (q := (RX5, TX5, 3)) (WS_0 cI cZ cS a u84) rfl) rfl rfl hl.1 rfl (lv_room (Nat.le_of_ble_eq_true rfl)) dL_letters_285 ⟨(by show cl + 690 ≤ 769; omega), (by show sl + 4140 ≤ 8791; omega)⟩) ?_
                                                      refine lv_iconst (v := (-1 : Int32)) hx hb dL_letters_288 (by decide) ?_
                                                      refine lv_icmp_ne (tgt := 318) hx hb dL_letters_289 (by decide) (fun c125 => ?_) (fun c125 => ?_)
                                                      · have hF := ite_f c125 hF
                                                        refine lv_iconst (v := (0 : Int32)) hx hb dL_letters_318 (by decide) ?_
                                                        cases hF
                                                        exact nretz (by omega) (by omega) (by decide) hx hb hr hlocks hS dL_letters_319
                                                      · have hF := ite_t c125 hF
                                                        refine lv_aload_n hx hb dL_letters_292 rfl (lv_at hl 0 rfl) ?_
                                                        refine lv_bipush (v := (90 : Int32)) hx hb dL_letters_293 (by decide) ?_
                                                        refine lv_bipush (v := (9 : Int32)) hx hb dL_letters_295 (by decide) ?_
                                                        refine lv_iconst (v := (2 : Int32)) hx hb dL_letters_297 (by decide) ?_
                                                        obtain ⟨k126, q127, h128, hF⟩ := bd2_at hF
                                                        obtain ⟨g129, hF⟩ := gd_at hF
                                                        rw [g129] at h128
                                                        refine rcall (va_runV (As := [.int (90 : Int32), .int (9 : Int32), .int (2 : Int32)]) (rest := []) S (NS_slip l D cI cZ cS cJ a u84 (90 : Int32) (9 : Int32) (2 : Int32) q127 h128) (cwV 3 hts (gd_V wd_683 wd_684 wd_685 wd_22 wd_686) rfl rfl rfl hd5_slip ⟨Nat.le_of_ble_eq_true rfl, Nat.le_of_ble_eq_true rfl⟩) (rPreV hK hP (ci := 5) (q := (RX5, TX5, 3)) (WS_0 cI cZ cS a u84) rfl) rfl rfl hl.1 rfl (lv_room (Nat.le_of_ble_eq_true rfl)) dL_letters_298 ⟨(by show cl + 690 ≤ 769; omega), (by show sl + 4140 ≤ 8791; omega)⟩) ?_
                                                        refine lv_iconst (v := (-1 : Int32)) hx hb dL_letters_301 (by decide) ?_
                                                        refine lv_icmp_ne (tgt := 318) hx hb dL_letters_302 (by decide) (fun c130 => ?_) (fun c130 => ?_)
                                                        · have hF := ite_f c130 hF
                                                          refine lv_iconst (v := (0 : Int32)) hx hb dL_letters_318 (by decide) ?_
                                                          cases hF
                                                          exact nretz (by omega) (by omega) (by decide) hx hb hr hlocks hS dL_letters_319
                                                        · have hF := ite_t c130 hF
                                                          refine lv_aload_n hx hb dL_letters_305 rfl (lv_at hl 0 rfl) ?_
                                                          refine lv_bipush (v := (90 : Int32)) hx hb dL_letters_306 (by decide) ?_
                                                          refine lv_bipush (v := (19 : Int32)) hx hb dL_letters_308 (by decide) ?_
                                                          refine lv_iconst (v := (1 : Int32)) hx hb dL_letters_310 (by decide) ?_
                                                          obtain ⟨k131, q132, h133, hF⟩ := bd2_at hF
                                                          obtain ⟨g134, hF⟩ := gd_at hF
                                                          rw [g134] at h133
                                                          refine rcall (va_runV (As := [.int (90 : Int32), .int (19 : Int32), .int (1 : Int32)]) (rest := []) S (NS_slip l D cI cZ cS cJ a u84 (90 : Int32) (19 : Int32) (1 : Int32) q132 h133) (cwV 3 hts (gd_V wd_683 wd_684 wd_685 wd_22 wd_686) rfl rfl rfl hd5_slip ⟨Nat.le_of_ble_eq_true rfl, Nat.le_of_ble_eq_true rfl⟩) (rPreV hK hP (ci := 5) (q := (RX5, TX5, 3)) (WS_0 cI cZ cS a u84) rfl) rfl rfl hl.1 rfl (lv_room (Nat.le_of_ble_eq_true rfl)) dL_letters_311 ⟨(by show cl + 690 ≤ 769; omega), (by show sl + 4140 ≤ 8791; omega)⟩) ?_
                                                          refine lv_iconst (v := (-1 : Int32)) hx hb dL_letters_314 (by decide) ?_
                                                          refine lv_icmp_eq (tgt := 320) hx hb dL_letters_315 (by decide) (fun c135 => ?_) (fun c135 => ?_)
                                                          · have hF := ite_t c135 hF
                                                            refine lv_aload_n hx hb dL_letters_320 rfl (lv_at hl 0 rfl) ?_
                                                            refine lv_bipush (v := (10 : Int32)) hx hb dL_letters_321 (by decide) ?_
                                                            obtain ⟨k136, q137, u138, h139, hF⟩ := bd3_at hF
                                                            obtain ⟨g140, hF⟩ := gd_at hF
                                                            rw [g140] at h139
                                                            refine scalli (X' := WS cI cZ cS a u138) (va_runV (As := [.int (10 : Int32)]) (rest := []) S (NS_modulus l D cI cZ cS cJ a u84 (10 : Int32) q137 u138 h139) (cwV 1 hts (gd_V wd_467 wd_468 wd_469 wd_22 wd_470) rfl rfl rfl hd5_modulus ⟨Nat.le_of_ble_eq_true rfl, Nat.le_of_ble_eq_true rfl⟩) (uPreV hK hP hD (ci := 5) (q := (RX5, TX5, 3)) (WS_0 cI cZ cS a u84) rfl) rfl rfl hl.1 rfl (lv_room (Nat.le_of_ble_eq_true rfl)) dL_letters_323 ⟨(by show cl + 690 ≤ 769; omega), (by show sl + 4140 ≤ 8791; omega)⟩) hS hD (fun H locs hP hS => ?_)
                                                            have hD : va_D A0 (WS cI cZ cS a u138) := WS_D u138 hD
                                                            have hP : va_P D vwCl (WS cI cZ cS a u138) H := hP
                                                            refine lv_bipush (v := (11 : Int32)) hx hb dL_letters_326 (by decide) ?_
                                                            refine lv_icmp_ne (tgt := 550) hx hb dL_letters_328 (by decide) (fun c141 => ?_) (fun c141 => ?_)
                                                            · have hF := ite_f c141 hF
                                                              refine lv_iconst (v := (0 : Int32)) hx hb dL_letters_550 (by decide) ?_
                                                              cases hF
                                                              exact nretz (by omega) (by omega) (by decide) hx hb hr hlocks hS dL_letters_551
                                                            · have hF := ite_t c141 hF
                                                              refine lv_aload_n hx hb dL_letters_331 rfl (lv_at hl 0 rfl) ?_
                                                              refine lv_bipush (v := (123 : Int32)) hx hb dL_letters_332 (by decide) ?_
                                                              obtain ⟨k142, q143, h144, hF⟩ := bd2_at hF
                                                              obtain ⟨g145, hF⟩ := gd_at hF
                                                              rw [g145] at h144
                                                              refine rcall (va_runV (As := [.int (123 : Int32)]) (rest := []) S (NS_letter l D cI cZ cS cJ a u138 (123 : Int32) q143 h144) (cwV 1 hts (gd_V wd_409 wd_410 wd_411 wd_22 wd_412) rfl rfl rfl hd5_letter ⟨Nat.le_of_ble_eq_true rfl, Nat.le_of_ble_eq_true rfl⟩) (rPreV hK hP (ci := 5) (q := (RX5, TX5, 3)) (WS_0 cI cZ cS a u138) rfl) rfl rfl hl.1 rfl (lv_room (Nat.le_of_ble_eq_true rfl)) dL_letters_334 ⟨(by show cl + 690 ≤ 769; omega), (by show sl + 4140 ≤ 8791; omega)⟩) ?_
                                                              refine lv_iconst (v := (2 : Int32)) hx hb dL_letters_337 (by decide) ?_
                                                              refine lv_icmp_ne (tgt := 550) hx hb dL_letters_338 (by decide) (fun c146 => ?_) (fun c146 => ?_)
                                                              · have hF := ite_f c146 hF
                                                                refine lv_iconst (v := (0 : Int32)) hx hb dL_letters_550 (by decide) ?_
                                                                cases hF
                                                                exact nretz (by omega) (by omega) (by decide) hx hb hr hlocks hS dL_letters_551
                                                              · have hF := ite_t c146 hF
                                                                refine lv_aload_n hx hb dL_letters_341 rfl (lv_at hl 0 rfl) ?_
                                                                refine lv_iconst (v := (0 : Int32)) hx hb dL_letters_342 (by decide) ?_
                                                                refine lv_iconst (v := (0 : Int32)) hx hb dL_letters_343 (by decide) ?_
                                                                refine lv_iconst (v := (0 : Int32)) hx hb dL_letters_344 (by decide) ?_
                                                                obtain ⟨k147, q148, h149, hF⟩ := bd2_at hF
                                                                obtain ⟨g150, hF⟩ := gd_at hF
                                                                rw [g150] at h149
                                                                refine rcall (va_runV (As := [.int (0 : Int32), .int (0 : Int32), .int (0 : Int32)]) (rest := []) S (NS_weak l D cI cZ cS cJ a u138 (0 : Int32) (0 : Int32) (0 : Int32) q148 h149) (cwV 3 hts (gd_V wd_634 wd_635 wd_636 wd_22 wd_637) rfl rfl rfl hd5_weak ⟨Nat.le_of_ble_eq_true rfl, Nat.le_of_ble_eq_true rfl⟩) (rPreV hK hP (ci := 5) (q := (RX5, TX5, 3)) (WS_0 cI cZ cS a u138) rfl) rfl rfl hl.1 rfl (lv_room (Nat.le_of_ble_eq_true rfl)) dL_letters_345 ⟨(by show cl + 690 ≤ 769; omega), (by show sl + 4140 ≤ 8791; omega)⟩) ?_
                                                                refine lv_if_ne (tgt := 550) hx hb dL_letters_348 (by decide) (fun c151 => ?_) (fun c151 => ?_)
                                                                · have hF := ite_f c151 hF
                                                                  refine lv_iconst (v := (0 : Int32)) hx hb dL_letters_550 (by decide) ?_
                                                                  cases hF
                                                                  exact nretz (by omega) (by omega) (by decide) hx hb hr hlocks hS dL_letters_551
                                                                · have hF := ite_t c151 hF
                                                                  refine lv_aload_n hx hb dL_letters_351 rfl (lv_at hl 0 rfl) ?_
                                                                  refine lv_iconst (v := (1 : Int32)) hx hb dL_letters_352 (by decide) ?_
                                                                  refine lv_iconst (v := (0 : Int32)) hx hb dL_letters_353 (by decide) ?_
                                                                  refine lv_iconst (v := (0 : Int32)) hx hb dL_letters_354 (by decide) ?_
                                                                  obtain ⟨k152, q153, h154, hF⟩ := bd2_at hF
                                                                  obtain ⟨g155, hF⟩ := gd_at hF
                                                                  rw [g155] at h154
                                                                  refine rcall (va_runV (As := [.int (1 : Int32), .int (0 : Int32), .int (0 : Int32)]) (rest := []) S (NS_weak l D cI cZ cS cJ a u138 (1 : Int32) (0 : Int32) (0 : Int32) q153 h154) (cwV 3 hts (gd_V wd_634 wd_635 wd_636 wd_22 wd_637) rfl rfl rfl hd5_weak ⟨Nat.le_of_ble_eq_true rfl, Nat.le_of_ble_eq_true rfl⟩) (rPreV hK hP (ci := 5) (q := (RX5, TX5, 3)) (WS_0 cI cZ cS a u138) rfl) rfl rfl hl.1 rfl (lv_room (Nat.le_of_ble_eq_true rfl)) dL_letters_355 ⟨(by show cl + 690 ≤ 769; omega), (by show sl + 4140 ≤ 8791; omega)⟩) ?_
                                                                  refine lv_iconst (v := (5 : Int32)) hx hb dL_letters_358 (by decide) ?_
                                                                  refine lv_icmp_ne (tgt := 550) hx hb dL_letters_359 (by decide) (fun c156 => ?_) (fun c156 => ?_)
                                                                  · have hF := ite_f c156 hF
                                                                    refine lv_iconst (v := (0 : Int32)) hx hb dL_letters_550 (by decide) ?_
                                                                    cases hF
                                                                    exact nretz (by omega) (by omega) (by decide) hx hb hr hlocks hS dL_letters_551
                                                                  · have hF := ite_t c156 hF
                                                                    refine lv_aload_n hx hb dL_letters_362 rfl (lv_at hl 0 rfl) ?_
                                                                    refine lv_iconst (v := (1 : Int32)) hx hb dL_letters_363 (by decide) ?_
                                                                    refine lv_iconst (v := (0 : Int32)) hx hb dL_letters_364 (by decide) ?_
                                                                    refine lv_iconst (v := (1 : Int32)) hx hb dL_letters_365 (by decide) ?_
                                                                    obtain ⟨k157, q158, h159, hF⟩ := bd2_at hF
                                                                    obtain ⟨g160, hF⟩ := gd_at hF
                                                                    rw [g160] at h159
                                                                    refine rcall (va_runV (As := [.int (1 : Int32), .int (0 : Int32), .int (1 : Int32)]) (rest := []) S (NS_weak l D cI cZ cS cJ a u138 (1 : Int32) (0 : Int32) (1 : Int32) q158 h159) (cwV 3 hts (gd_V wd_634 wd_635 wd_636 wd_22 wd_637) rfl rfl rfl hd5_weak ⟨Nat.le_of_ble_eq_true rfl, Nat.le_of_ble_eq_true rfl⟩) (rPreV hK hP (ci := 5) (q := (RX5, TX5, 3)) (WS_0 cI cZ cS a u138) rfl) rfl rfl hl.1 rfl (lv_room (Nat.le_of_ble_eq_true rfl)) dL_letters_366 ⟨(by show cl + 690 ≤ 769; omega), (by show sl + 4140 ≤ 8791; omega)⟩) ?_
                                                                    refine lv_iconst (v := (5 : Int32)) hx hb dL_letters_369 (by decide) ?_
                                                                    refine lv_icmp_ne (tgt := 550) hx hb dL_letters_370 (by decide) (fun c161 => ?_) (fun c161 => ?_)
                                                                    · have hF := ite_f c161 hF
                                                                      refine lv_iconst (v := (0 : Int32)) hx hb dL_letters_550 (by decide) ?_
                                                                      cases hF
                                                                      exact nretz (by omega) (by omega) (by decide) hx hb hr hlocks hS dL_letters_551
                                                                    · have hF := ite_t c161 hF
                                                                      refine lv_aload_n hx hb dL_letters_373 rfl (lv_at hl 0 rfl) ?_
                                                                      refine lv_iconst (v := (4 : Int32)) hx hb dL_letters_374 (by decide) ?_
                                                                      refine lv_iconst (v := (0 : Int32)) hx hb dL_letters_375 (by decide) ?_
                                                                      refine lv_iconst (v := (0 : Int32)) hx hb dL_letters_376 (by decide) ?_
                                                                      obtain ⟨k162, q163, h164, hF⟩ := bd2_at hF
                                                                      obtain ⟨g165, hF⟩ := gd_at hF
                                                                      rw [g165] at h164
                                                                      refine rcall (va_runV (As := [.int (4 : Int32), .int (0 : Int32), .int (0 : Int32)]) (rest := []) S (NS_weak l D cI cZ cS cJ a u138 (4 : Int32) (0 : Int32) (0 : Int32) q163 h164) (cwV 3 hts (gd_V wd_634 wd_635 wd_636 wd_22 wd_637) rfl rfl rfl hd5_weak ⟨Nat.le_of_ble_eq_true rfl, Nat.le_of_ble_eq_true rfl⟩) (rPreV hK hP (ci := 5) (q := (RX5, TX5, 3)) (WS_0 cI cZ cS a u138) rfl) rfl rfl hl.1 rfl (lv_room (Nat.le_of_ble_eq_true rfl)) dL_letters_377 ⟨(by show cl + 690 ≤ 769; omega), (by show sl + 4140 ≤ 8791; omega)⟩) ?_
                                                                      refine lv_bipush (v := (20 : Int32)) hx hb dL_letters_380 (by decide) ?_
                                                                      refine lv_icmp_ne (tgt := 550) hx hb dL_letters_382 (by decide) (fun c166 => ?_) (fun c166 => ?_)
                                                                      · have hF := ite_f c166 hF
                                                                        refine lv_iconst (v := (0 : Int32)) hx hb dL_letters_550 (by decide) ?_
                                                                        cases hF
                                                                        exact nretz (by omega) (by omega) (by decide) hx hb hr hlocks hS dL_letters_551
                                                                      · have hF := ite_t c166 hF
                                                                        refine lv_aload_n hx hb dL_letters_385 rfl (lv_at hl 0 rfl) ?_
                                                                        refine lv_iconst (v := (4 : Int32)) hx hb dL_letters_386 (by decide) ?_
                                                                        refine lv_iconst (v := (0 : Int32)) hx hb dL_letters_387 (by decide) ?_
                                                                        refine lv_iconst (v := (1 : Int32)) hx hb dL_letters_388 (by decide) ?_
                                                                        obtain ⟨k167, q168, h169, hF⟩ := bd2_at hF
                                                                        obtain ⟨g170, hF⟩ := gd_at hF
                                                                        rw [g170] at h169
                                                                        refine rcall (va_runV (As := [.int (4 : Int32), .int (0 : Int32), .int (1 : Int32)]) (rest := []) S (NS_weak l D cI cZ cS cJ a u138 (4 : Int32) (0 : Int32) (1 : Int32) q168 h169) (cwV 3 hts (gd_V wd_634 wd_635 wd_636 wd_22 wd_637) rfl rfl rfl hd5_weak ⟨Nat.le_of_ble_eq_true rfl, Nat.le_of_ble_eq_true rfl⟩) (rPreV hK hP (ci := 5) (q := (RX5, TX5, 3)) (WS_0 cI cZ cS a u138) rfl) rfl rfl hl.1 rfl (lv_room (Nat.le_of_ble_eq_true rfl)) dL_letters_389 ⟨(by show cl + 690 ≤ 769; omega), (by show sl + 4140 ≤ 8791; omega)⟩) ?_
                                                                        refine lv_bipush (v := (20 : Int32)) hx hb dL_letters_392 (by decide) ?_
                                                                        refine lv_icmp_ne (tgt := 550) hx hb dL_letters_394 (by decide) (fun c171 => ?_) (fun c171 => ?_)
                                                                        · have hF := ite_f c171 hF
                                                                          refine lv_iconst (v := (0 : Int32)) hx hb dL_letters_550 (by decide) ?_
                                                                          cases hF
                                                                          exact nretz (by omega) (by omega) (by decide) hx hb hr hlocks hS dL_letters_551
                                                                        · have hF := ite_t c171 hF
                                                                          refine lv_aload_n hx hb dL_letters_397 rfl (lv_at hl 0 rfl) ?_
                                                                          refine lv_iconst (v := (5 : Int32)) hx hb dL_letters_398 (by decide) ?_
                                                                          refine lv_iconst (v := (0 : Int32)) hx hb dL_letters_399 (by decide) ?_
                                                                          refine lv_iconst (v := (0 : Int32)) hx hb dL_letters_400 (by decide) ?_
                                                                          obtain ⟨k172, q173, h174, hF⟩ := bd2_at hF
                                                                          obtain ⟨g175, hF⟩ := gd_at hF
                                                                          rw [g175] at h174
                                                                          refine rcall (va_runV (As := [.int (5 : Int32), .int (0 : Int32), .int (0 : Int32)]) (rest := []) S (NS_weak l D cI cZ cS cJ a u138 (5 : Int32) (0 : Int32) (0 : Int32) q173 h174) (cwV 3 hts (gd_V wd_634 wd_635 wd_636 wd_22 wd_637) rfl rfl rfl hd5_weak ⟨Nat.le_of_ble_eq_true rfl, Nat.le_of_ble_eq_true rfl⟩) (rPreV hK hP (ci := 5) (q := (RX5, TX5, 3)) (WS_0 cI cZ cS a u138) rfl) rfl rfl hl.1 rfl (lv_room (Nat.le_of_ble_eq_true rfl)) dL_letters_401 ⟨(by show cl + 690 ≤ 769; omega), (by show sl + 4140 ≤ 8791; omega)⟩) ?_
                                                                          refine lv_iconst (v := (5 : Int32)) hx hb dL_letters_404 (by decide) ?_
                                                                          refine lv_icmp_ne (tgt := 550) hx hb dL_letters_405 (by decide) (fun c176 => ?_) (fun c176 => ?_)
                                                                          · have hF := ite_f c176 hF
                                                                            refine lv_iconst (v := (0 : Int32)) hx hb dL_letters_550 (by decide) ?_
                                                                            cases hF
                                                                            exact nretz (by omega) (by omega) (by decide) hx hb hr hlocks hS dL_letters_551
                                                                          · have hF := ite_t c176 hF
                                                                            refine lv_aload_n hx hb dL_letters_408 rfl (lv_at hl 0 rfl) ?_
                                                                            refine lv_iconst (v := (4 : Int32)) hx hb dL_letters_409 (by decide) ?_
                                                                            refine lv_iconst (v := (1 : Int32)) hx hb dL_letters_410 (by decide) ?_
                                                                            refine lv_iconst (v := (0 : Int32)) hx hb dL_letters_411 (by decide) ?_
                                                                            obtain ⟨k177, q178, h179, hF⟩ := bd2_at hF
                                                                            obtain ⟨g180, hF⟩ := gd_at hF
                                                                            rw [g180] at h179
                                                                            refine rcall (va_runV (As := [.int (4 : Int32), .int (1 : Int32), .int (0 : Int32)]) (rest := []) S (NS_weak l D cI cZ cS cJ a u138 (4 : Int32) (1 : Int32) (0 : Int32) q178 h179) (cwV 3 hts (gd_V wd_634 wd_635 wd_636 wd_22 wd_637) rfl rfl rfl hd5_weak ⟨Nat.le_of_ble_eq_true rfl, Nat.le_of_ble_eq_true rfl⟩) (rPreV hK hP (ci := 5) (q := (RX5, TX5, 3)) (WS_0 cI cZ cS a u138) rfl) rfl rfl hl.1 rfl (lv_room (Nat.le_of_ble_eq_true rfl)) dL_letters_412 ⟨(by show cl + 690 ≤ 769; omega), (by show sl + 4140 ≤ 8791; omega)⟩) ?_
                                                                            refine lv_if_ne (tgt := 550) hx hb dL_letters_415 (by decide) (fun c181 => ?_) (fun c181 => ?_)
                                                                            · have hF := ite_f c181 hF
                                                                              refine lv_iconst (v := (0 : Int32)) hx hb dL_letters_550 (by decide) ?_
                                                                              cases hF
                                                                              exact nretz (by omega) (by omega) (by decide) hx hb hr hlocks hS dL_letters_551
                                                                            · have hF := ite_t c181 hF
                                                                              refine lv_aload_n hx hb dL_letters_418 rfl (lv_at hl 0 rfl) ?_
                                                                              refine lv_iconst (v := (0 : Int32)) hx hb dL_letters_419 (by decide) ?_
                                                                              obtain ⟨k182, q183, h184, hF⟩ := bd2_at hF
                                                                              obtain ⟨g185, hF⟩ := gd_at hF
                                                                              rw [g185] at h184
                                                                              refine rcall (va_runV (As := [.int (0 : Int32)]) (rest := []) S (NS_finds l D cI cZ cS cJ a u138 (0 : Int32) q183 h184) (cwV 1 hts (gd_V wd_688 wd_689 wd_690 wd_22 wd_691) rfl rfl rfl hd5_finds ⟨Nat.le_of_ble_eq_true rfl, Nat.le_of_ble_eq_true rfl⟩) (rPreV hK hP (ci := 5) (q := (RX5, TX5, 3)) (WS_0 cI cZ cS a u138) rfl) rfl rfl hl.1 rfl (lv_room (Nat.le_of_ble_eq_true rfl)) dL_letters_420 ⟨(by show cl + 690 ≤ 769; omega), (by show sl + 4140 ≤ 8791; omega)⟩) ?_
                                                                              refine lv_if_ne (tgt := 550) hx hb dL_letters_423 (by decide) (fun c186 => ?_) (fun c186 => ?_)
                                                                              · have hF := ite_f c186 hF
                                                                                refine lv_iconst (v := (0 : Int32)) hx hb dL_letters_550 (by decide) ?_
                                                                                cases hF
                                                                                exact nretz (by omega) (by omega) (by decide) hx hb hr hlocks hS dL_letters_551
                                                                              · have hF := ite_t c186 hF
                                                                                refine lv_aload_n hx hb dL_letters_426 rfl (lv_at hl 0 rfl) ?_
                                                                                refine lv_iconst (v := (1 : Int32)) hx hb dL_letters_427 (by decide) ?_
                                                                                obtain ⟨k187, q188, h189, hF⟩ := bd2_at hF
                                                                                obtain ⟨g190, hF⟩ := gd_at hF
                                                                                rw [g190] at h189
                                                                                refine rcall (va_runV (As := [.int (1 : Int32)]) (rest := []) S (NS_finds l D cI cZ cS cJ a u138 (1 : Int32) q188 h189) (cwV 1 hts (gd_V wd_688 wd_689 wd_690 wd_22 wd_691) rfl rfl rfl hd5_finds ⟨Nat.le_of_ble_eq_true rfl, Nat.le_of_ble_eq_true rfl⟩) (rPreV hK hP (ci := 5) (q := (RX5, TX5, 3)) (WS_0 cI cZ cS a u138) rfl) rfl rfl hl.1 rfl (lv_room (Nat.le_of_ble_eq_true rfl)) dL_letters_428 ⟨(by show cl + 690 ≤ 769; omega), (by show sl + 4140 ≤ 8791; omega)⟩) ?_
                                                                                refine lv_if_eq (tgt := 550) hx hb dL_letters_431 (by decide) (fun c191 => ?_) (fun c191 => ?_)
                                                                                · have hF := ite_t c191 hF
                                                                                  refine lv_iconst (v := (0 : Int32)) hx hb dL_letters_550 (by decide) ?_
                                                                                  cases hF
                                                                                  exact nretz (by omega) (by omega) (by decide) hx hb hr hlocks hS dL_letters_551
                                                                                · have hF := ite_f c191 hF
                                                                                  refine lv_aload_n hx hb dL_letters_434 rfl (lv_at hl 0 rfl) ?_
                                                                                  refine lv_bipush (v := (123 : Int32)) hx hb dL_letters_435 (by decide) ?_
                                                                                  refine lv_iconst (v := (0 : Int32)) hx hb dL_letters_437 (by decide) ?_
                                                                                  obtain ⟨k192, q193, h194, hF⟩ := bd2_at hF
                                                                                  obtain ⟨g195, hF⟩ := gd_at hF
                                                                                  rw [g195] at h194
                                                                                  refine rcall (va_runV (As := [.int (123 : Int32), .int (0 : Int32)]) (rest := []) S (NS_missed l D cI cZ cS cJ a u138 (123 : Int32) (0 : Int32) q193 h194) (cwV 2 hts (gd_V wd_607 wd_608 wd_609 wd_22 wd_610) rfl rfl rfl hd5_missed ⟨Nat.le_of_ble_eq_true rfl, Nat.le_of_ble_eq_true rfl⟩) (rPreV hK hP (ci := 5) (q := (RX5, TX5, 3)) (WS_0 cI cZ cS a u138) rfl) rfl rfl hl.1 rfl (lv_room (Nat.le_of_ble_eq_true rfl)) dL_letters_438 ⟨(by show cl + 690 ≤ 769; omega), (by show sl + 4140 ≤ 8791; omega)⟩) ?_
                                                                                  refine lv_bipush (v := (7 : Int32)) hx hb dL_letters_441 (by decide) ?_
                                                                                  refine lv_icmp_ne (tgt := 550) hx hb dL_letters_443 (by decide) (fun c196 => ?_) (fun c196 => ?_)
                                                                                  · have hF := ite_f c196 hF
                                                                                    refine lv_iconst (v := (0 : Int32)) hx hb dL_letters_550 (by decide) ?_
                                                                                    cases hF
                                                                                    exact nretz (by omega) (by omega) (by decide) hx hb hr hlocks hS dL_letters_551
                                                                                  · have hF := ite_t c196 hF
                                                                                    refine lv_aload_n hx hb dL_letters_446 rfl (lv_at hl 0 rfl) ?_
                                                                                    refine lv_bipush (v := (123 : Int32)) hx hb dL_letters_447 (by decide) ?_
                                                                                    refine lv_iconst (v := (1 : Int32)) hx hb dL_letters_449 (by decide) ?_
                                                                                    obtain ⟨k197, q198, h199, hF⟩ := bd2_at hF
                                                                                    obtain ⟨g200, hF⟩ := gd_at hF
                                                                                    rw [g200] at h199
                                                                                    refine rcall (va_runV (As := [.int (123 : Int32), .int (1 : Int32)]) (rest := []) S (NS_missed l D cI cZ cS cJ a u138 (123 : Int32) (1 : Int32) q198 h199) (cwV 2 hts (gd_V wd_607 wd_608 wd_609 wd_22 wd_610) rfl rfl rfl hd5_missed ⟨Nat.le_of_ble_eq_true rfl, Nat.le_of_ble_eq_true rfl⟩) (rPreV hK hP (ci := 5) (q := (RX5, TX5, 3)) (WS_0 cI cZ cS a u138) rfl) rfl rfl hl.1 rfl (lv_room (Nat.le_of_ble_eq_true rfl)) dL_letters_450 ⟨(by show cl + 690 ≤ 769; omega), (by show sl + 4140 ≤ 8791; omega)⟩) ?_
                                                                                    refine lv_if_ne (tgt := 550) hx hb dL_letters_453 (by decide) (fun c201 => ?_) (fun c201 => ?_)
                                                                                    · have hF := ite_f c201 hF
                                                                                      refine lv_iconst (v := (0 : Int32)) hx hb dL_letters_550 (by decide) ?_
                                                                                      cases hF
                                                                                      exact nretz (by omega) (by omega) (by decide) hx hb hr hlocks hS dL_letters_551
                                                                                    · have hF := ite_t c201 hF
                                                                                      refine lv_aload_n hx hb dL_letters_456 rfl (lv_at hl 0 rfl) ?_
                                                                                      refine lv_iconst (v := (4 : Int32)) hx hb dL_letters_457 (by decide) ?_
                                                                                      obtain ⟨k202, q203, h204, hF⟩ := bd2_at hF
                                                                                      obtain ⟨g205, hF⟩ := gd_at hF
                                                                                      rw [g205] at h204
                                                                                      refine rcall (va_runV (As := [.int (4 : Int32)]) (rest := []) S (NS_bestWeight l D cI cZ cS cJ a u138 (4 : Int32) q203 h204) (cwV 1 hts (gd_V wd_651 wd_652 wd_653 wd_22 wd_654) rfl rfl rfl hd5_bestWeight ⟨Nat.le_of_ble_eq_true rfl, Nat.le_of_ble_eq_true rfl⟩) (rPreV hK hP (ci := 5) (q := (RX5, TX5, 3)) (WS_0 cI cZ cS a u138) rfl) rfl rfl hl.1 rfl (lv_room (Nat.le_of_ble_eq_true rfl)) dL_letters_458 ⟨(by show cl + 690 ≤ 769; omega), (by show sl + 4140 ≤ 8791; omega)⟩) ?_
                                                                                      refine lv_iconst (v := (3 : Int32)) hx hb dL_letters_461 (by decide) ?_
                                                                                      refine lv_icmp_ne (tgt := 550) hx hb dL_letters_462 (by decide) (fun c206 => ?_) (fun c206 => ?_)
                                                                                      · have hF := ite_f c206 hF
                                                                                        refine lv_iconst (v := (0 : Int32)) hx hb dL_letters_550 (by decide) ?_
                                                                                        cases hF
                                                                                        exact nretz (by omega) (by omega) (by decide) hx hb hr hlocks hS dL_letters_551
                                                                                      · have hF := ite_t c206 hF
                                                                                        refine lv_aload_n hx hb dL_letters_465 rfl (lv_at hl 0 rfl) ?_
                                                                                        refine lv_iconst (v := (4 : Int32)) hx hb dL_letters_466 (by decide) ?_
                                                                                        refine lv_iconst (v := (4 : Int32)) hx hb dL_letters_467 (by decide) ?_
                                                                                        obtain ⟨k207, q208, u209, h210, hF⟩ := bd3_at hF
                                                                                        obtain ⟨g211, hF⟩ := gd_at hF
                                                                                        rw [g211] at h210
                                                                                        refine scalli (X' := WS cI cZ cS a u209) (va_runV (As := [.int (4 : Int32), .int (4 : Int32)]) (rest := []) S (NS_weight l D cI cZ cS cJ a u138 (4 : Int32) (4 : Int32) q208 u209 h210) (cwV 2 hts (gd_V wd_454 wd_455 wd_456 wd_22 wd_457) rfl rfl rfl hd5_weight ⟨Nat.le_of_ble_eq_true rfl, Nat.le_of_ble_eq_true rfl⟩) (uPreV hK hP hD (ci := 5) (q := (RX5, TX5, 3)) (WS_0 cI cZ cS a u138) rfl) rfl rfl hl.1 rfl (lv_room (Nat.le_of_ble_eq_true rfl)) dL_letters_468 ⟨(by show cl + 690 ≤ 769; omega), (by show sl + 4140 ≤ 8791; omega)⟩) hS hD (fun H locs hP hS => ?_)
                                                                                        have hD : va_D A0 (WS cI cZ cS a u209) := WS_D u209 hD
                                                                                        have hP : va_P D vwCl (WS cI cZ cS a u209) H := hP
                                                                                        refine lv_iconst (v := (5 : Int32)) hx hb dL_letters_471 (by decide) ?_
                                                                                        refine lv_icmp_ne (tgt := 550) hx hb dL_letters_472 (by decide) (fun c212 => ?_) (fun c212 => ?_)
                                                                                        · have hF := ite_f c212 hF
                                                                                          refine lv_iconst (v := (0 : Int32)) hx hb dL_letters_550 (by decide) ?_
                                                                                          cases hF
                                                                                          exact nretz (by omega) (by omega) (by decide) hx hb hr hlocks hS dL_letters_551
                                                                                        · have hF := ite_t c212 hF
                                                                                          refine lv_aload_n hx hb dL_letters_475 rfl (lv_at hl 0 rfl) ?_
                                                                                          refine lv_iconst (v := (3 : Int32)) hx hb dL_letters_476 (by decide) ?_
                                                                                          refine lv_iconst (v := (1 : Int32)) hx hb dL_letters_477 (by decide) ?_
                                                                                          refine lv_iconst (v := (0 : Int32)) hx hb dL_letters_478 (by decide) ?_
                                                                                          obtain ⟨k213, q214, h215, hF⟩ := bd2_at hF
                                                                                          obtain ⟨g216, hF⟩ := gd_at hF
                                                                                          rw [g216] at h215
                                                                                          refine rcall (va_runV (As := [.int (3 : Int32), .int (1 : Int32), .int (0 : Int32)]) (rest := []) S (NS_weak l D cI cZ cS cJ a u209 (3 : Int32) (1 : Int32) (0 : Int32) q214 h215) (cwV 3 hts (gd_V wd_634 wd_635 wd_636 wd_22 wd_637) rfl rfl rfl hd5_weak ⟨Nat.le_of_ble_eq_true rfl, Nat.le_of_ble_eq_true rfl⟩) (rPreV hK hP (ci := 5) (q := (RX5, TX5, 3)) (WS_0 cI cZ cS a u209) rfl) rfl rfl hl.1 rfl (lv_room (Nat.le_of_ble_eq_true rfl)) dL_letters_479 ⟨(by show cl + 690 ≤ 769; omega), (by show sl + 4140 ≤ 8791; omega)⟩) ?_
                                                                                          refine lv_bipush (v := (45 : Int32)) hx hb dL_letters_482 (by decide) ?_
                                                                                          refine lv_icmp_ne (tgt := 550) hx hb dL_letters_484 (by decide) (fun c217 => ?_) (fun c217 => ?_)
                                                                                          · have hF := ite_f c217 hF
                                                                                            refine lv_iconst (v := (0 : Int32)) hx hb dL_letters_550 (by decide) ?_
                                                                                            cases hF
                                                                                            exact nretz (by omega) (by omega) (by decide) hx hb hr hlocks hS dL_letters_551
                                                                                          · have hF := ite_t c217 hF
                                                                                            refine lv_aload_n hx hb dL_letters_487 rfl (lv_at hl 0 rfl) ?_
                                                                                            refine lv_iconst (v := (3 : Int32)) hx hb dL_letters_488 (by decide) ?_
                                                                                            refine lv_iconst (v := (1 : Int32)) hx hb dL_letters_489 (by decide) ?_
                                                                                            refine lv_iconst (v := (1 : Int32)) hx hb dL_letters_490 (by decide) ?_
                                                                                            obtain ⟨k218, q219, h220, hF⟩ := bd2_at hF
                                                                                            obtain ⟨g221, hF⟩ := gd_at hF
                                                                                            rw [g221] at h220
                                                                                            refine rcall (va_runV (As := [.int (3 : Int32), .int (1 : Int32), .int (1 : Int32)]) (rest := []) S (NS_weak l D cI cZ cS cJ a u209 (3 : Int32) (1 : Int32) (1 : Int32) q219 h220) (cwV 3 hts (gd_V wd_634 wd_635 wd_636 wd_22 wd_637) rfl rfl rfl hd5_weak ⟨Nat.le_of_ble_eq_true rfl, Nat.le_of_ble_eq_true rfl⟩) (rPreV hK hP (ci := 5) (q := (RX5, TX5, 3)) (WS_0 cI cZ cS a u209) rfl) rfl rfl hl.1 rfl (lv_room (Nat.le_of_ble_eq_true rfl)) dL_letters_491 ⟨(by show cl + 690 ≤ 769; omega), (by show sl + 4140 ≤ 8791; omega)⟩) ?_
                                                                                            refine lv_bipush (v := (45 : Int32)) hx hb dL_letters_494 (by decide) ?_
                                                                                            refine lv_icmp_ne (tgt := 550) hx hb dL_letters_496 (by decide) (fun c222 => ?_) (fun c222 => ?_)
                                                                                            · have hF := ite_f c222 hF
                                                                                              refine lv_iconst (v := (0 : Int32)) hx hb dL_letters_550 (by decide) ?_
                                                                                              cases hF
                                                                                              exact nretz (by omega) (by omega) (by decide) hx hb hr hlocks hS dL_letters_551
                                                                                            · have hF := ite_t c222 hF
                                                                                              refine lv_aload_n hx hb dL_letters_499 rfl (lv_at hl 0 rfl) ?_
                                                                                              refine lv_iconst (v := (4 : Int32)) hx hb dL_letters_500 (by decide) ?_
                                                                                              refine lv_iconst (v := (1 : Int32)) hx hb dL_letters_501 (by decide) ?_
                                                                                              refine lv_iconst (v := (0 : Int32)) hx hb dL_letters_502 (by decide) ?_
                                                                                              obtain ⟨k223, q224, h225, hF⟩ := bd2_at hF
                                                                                              obtain ⟨g226, hF⟩ := gd_at hF
                                                                                              rw [g226] at h225
                                                                                              refine rcall (va_runV (As := [.int (4 : Int32), .int (1 : Int32), .int (0 : Int32)]) (rest := []) S (NS_weak l D cI cZ cS cJ a u209 (4 : Int32) (1 : Int32) (0 : Int32) q224 h225) (cwV 3 hts (gd_V wd_634 wd_635 wd_636 wd_22 wd_637) rfl rfl rfl hd5_weak ⟨Nat.le_of_ble_eq_true rfl, Nat.le_of_ble_eq_true rfl⟩) (rPreV hK hP (ci := 5) (q := (RX5, TX5, 3)) (WS_0 cI cZ cS a u209) rfl) rfl rfl hl.1 rfl (lv_room (Nat.le_of_ble_eq_true rfl)) dL_letters_503 ⟨(by show cl + 690 ≤ 769; omega), (by show sl + 4140 ≤ 8791; omega)⟩) ?_
                                                                                              refine lv_iconst (v := (5 : Int32)) hx hb dL_letters_506 (by decide) ?_
                                                                                              refine lv_icmp_ne (tgt := 550) hx hb dL_letters_507 (by decide) (fun c227 => ?_) (fun c227 => ?_)
                                                                                              · have hF := ite_f c227 hF
                                                                                                refine lv_iconst (v := (0 : Int32)) hx hb dL_letters_550 (by decide) ?_
                                                                                                cases hF
                                                                                                exact nretz (by omega) (by omega) (by decide) hx hb hr hlocks hS dL_letters_551
                                                                                              · have hF := ite_t c227 hF
                                                                                                refine lv_aload_n hx hb dL_letters_510 rfl (lv_at hl 0 rfl) ?_
                                                                                                refine lv_iconst (v := (1 : Int32)) hx hb dL_letters_511 (by decide) ?_
                                                                                                obtain ⟨k228, q229, h230, hF⟩ := bd2_at hF
                                                                                                obtain ⟨g231, hF⟩ := gd_at hF
                                                                                                rw [g231] at h230
                                                                                                refine rcall (va_runV (As := [.int (1 : Int32)]) (rest := []) S (NS_finds l D cI cZ cS cJ a u209 (1 : Int32) q229 h230) (cwV 1 hts (gd_V wd_688 wd_689 wd_690 wd_22 wd_691) rfl rfl rfl hd5_finds ⟨Nat.le_of_ble_eq_true rfl, Nat.le_of_ble_eq_true rfl⟩) (rPreV hK hP (ci := 5) (q := (RX5, TX5, 3)) (WS_0 cI cZ cS a u209) rfl) rfl rfl hl.1 rfl (lv_room (Nat.le_of_ble_eq_true rfl)) dL_letters_512 ⟨(by show cl + 690 ≤ 769; omega), (by show sl + 4140 ≤ 8791; omega)⟩) ?_
                                                                                                refine lv_if_ne (tgt := 550) hx hb dL_letters_515 (by decide) (fun c232 => ?_) (fun c232 => ?_)
                                                                                                · have hF := ite_f c232 hF
                                                                                                  refine lv_iconst (v := (0 : Int32)) hx hb dL_letters_550 (by decide) ?_
                                                                                                  cases hF
                                                                                                  exact nretz (by omega) (by omega) (by decide) hx hb hr hlocks hS dL_letters_551
                                                                                                · have hF := ite_t c232 hF
                                                                                                  refine lv_aload_n hx hb dL_letters_518 rfl (lv_at hl 0 rfl) ?_
                                                                                                  refine lv_bipush (v := (123 : Int32)) hx hb dL_letters_519 (by decide) ?_
                                                                                                  refine lv_iconst (v := (1 : Int32)) hx hb dL_letters_521 (by decide) ?_
                                                                                                  obtain ⟨k233, q234, h235, hF⟩ := bd2_at hF
                                                                                                  obtain ⟨g236, hF⟩ := gd_at hF
                                                                                                  rw [g236] at h235
                                                                                                  refine rcall (va_runV (As := [.int (123 : Int32), .int (1 : Int32)]) (rest := []) S (NS_missed l D cI cZ cS cJ a u209 (123 : Int32) (1 : Int32) q234 h235) (cwV 2 hts (gd_V wd_607 wd_608 wd_609 wd_22 wd_610) rfl rfl rfl hd5_missed ⟨Nat.le_of_ble_eq_true rfl, Nat.le_of_ble_eq_true rfl⟩) (rPreV hK hP (ci := 5) (q := (RX5, TX5, 3)) (WS_0 cI cZ cS a u209) rfl) rfl rfl hl.1 rfl (lv_room (Nat.le_of_ble_eq_true rfl)) dL_letters_522 ⟨(by show cl + 690 ≤ 769; omega), (by show sl + 4140 ≤ 8791; omega)⟩) ?_
                                                                                                  refine lv_iconst (v := (1 : Int32)) hx hb dL_letters_525 (by decide) ?_
                                                                                                  refine lv_icmp_ne (tgt := 550) hx hb dL_letters_526 (by decide) (fun c237 => ?_) (fun c237 => ?_)
                                                                                                  · have hF := ite_f c237 hF
                                                                                                    refine lv_iconst (v := (0 : Int32)) hx hb dL_letters_550 (by decide) ?_
                                                                                                    cases hF
                                                                                                    exact nretz (by omega) (by omega) (by decide) hx hb hr hlocks hS dL_letters_551
                                                                                                  · have hF := ite_t c237 hF
                                                                                                    refine lv_aload_n hx hb dL_letters_529 rfl (lv_at hl 0 rfl) ?_
                                                                                                    refine lv_ldc hx hb hown (hts _ wd_724) dL_letters_530 ?_
                                                                                                    refine lv_iconst (v := (1 : Int32)) hx hb dL_letters_532 (by decide) ?_
                                                                                                    obtain ⟨k238, q239, h240, hF⟩ := bd2_at hF
                                                                                                    obtain ⟨g241, hF⟩ := gd_at hF
                                                                                                    rw [g241] at h240
                                                                                                    refine rcall (va_runV (As := [.int (111111 : Int32), .int (1 : Int32)]) (rest := []) S (NS_missed l D cI cZ cS cJ a u209 (111111 : Int32) (1 : Int32) q239 h240) (cwV 2 hts (gd_V wd_607 wd_608 wd_609 wd_22 wd_610) rfl rfl rfl hd5_missed ⟨Nat.le_of_ble_eq_true rfl, Nat.le_of_ble_eq_true rfl⟩) (rPreV hK hP (ci := 5) (q := (RX5, TX5, 3)) (WS_0 cI cZ cS a u209) rfl) rfl rfl hl.1 rfl (lv_room (Nat.le_of_ble_eq_true rfl)) dL_letters_533 ⟨(by show cl + 690 ≤ 769; omega), (by show sl + 4140 ≤ 8791; omega)⟩) ?_
                                                                                                    refine lv_if_ne (tgt := 550) hx hb dL_letters_536 (by decide) (fun c242 => ?_) (fun c242 => ?_)
                                                                                                    · have hF := ite_f c242 hF
                                                                                                      refine lv_iconst (v := (0 : Int32)) hx hb dL_letters_550 (by decide) ?_
                                                                                                      cases hF
                                                                                                      exact nretz (by omega) (by omega) (by decide) hx hb hr hlocks hS dL_letters_551
                                                                                                    · have hF := ite_t c242 hF
                                                                                                      refine lv_aload_n hx hb dL_letters_539 rfl (lv_at hl 0 rfl) ?_
                                                                                                      refine lv_bipush (v := (16 : Int32)) hx hb dL_letters_540 (by decide) ?_
                                                                                                      refine lv_iconst (v := (1 : Int32)) hx hb dL_letters_542 (by decide) ?_
                                                                                                      obtain ⟨k243, q244, h245, hF⟩ := bd2_at hF
                                                                                                      obtain ⟨g246, hF⟩ := gd_at hF
                                                                                                      rw [g246] at h245
                                                                                                      refine rcall (va_runV (As := [.int (16 : Int32), .int (1 : Int32)]) (rest := []) S (NS_missed l D cI cZ cS cJ a u209 (16 : Int32) (1 : Int32) q244 h245) (cwV 2 hts (gd_V wd_607 wd_608 wd_609 wd_22 wd_610) rfl rfl rfl hd5_missed ⟨Nat.le_of_ble_eq_true rfl, Nat.le_of_ble_eq_true rfl⟩) (rPreV hK hP (ci := 5) (q := (RX5, TX5, 3)) (WS_0 cI cZ cS a u209) rfl) rfl rfl hl.1 rfl (lv_room (Nat.le_of_ble_eq_true rfl)) dL_letters_543 ⟨(by show cl + 690 ≤ 769; omega), (by show sl + 4140 ≤ 8791; omega)⟩) ?_
                                                                                                      refine lv_iconst (v := (2 : Int32)) hx hb dL_letters_546 (by decide) ?_
                                                                                                      refine lv_icmp_eq (tgt := 552) hx hb dL_letters_547 (by decide) (fun c247 => ?_) (fun c247 => ?_)
                                                                                                      · have hF := ite_t c247 hF
                                                                                                        refine lv_aload_n hx hb dL_letters_552 rfl (lv_at hl 0 rfl) ?_
                                                                                                        obtain ⟨k248, q249, u250, h251, hF⟩ := bd3_at hF
                                                                                                        obtain ⟨g252, hF⟩ := gd_at hF
                                                                                                        rw [g252] at h251
                                                                                                        refine scalli (X' := WS cI cZ cS a u250) (va_runV (As := []) (rest := []) S (NS_undo l D cI cZ cS cJ a u209 q249 u250 h251) (cwV 0 hts (gd_V wd_375 wd_376 wd_377 wd_22 wd_378) rfl rfl rfl hd5_undo ⟨Nat.le_of_ble_eq_true rfl, Nat.le_of_ble_eq_true rfl⟩) (uPreV hK hP hD (ci := 5) (q := (RX5, TX5, 3)) (WS_0 cI cZ cS a u209) rfl) rfl rfl hl.1 rfl (lv_room (Nat.le_of_ble_eq_true rfl)) dL_letters_553 ⟨(by show cl + 690 ≤ 769; omega), (by show sl + 4140 ≤ 8791; omega)⟩) hS hD (fun H locs hP hS => ?_)
                                                                                                        have hD : va_D A0 (WS cI cZ cS a u250) := WS_D u250 hD
                                                                                                        have hP : va_P D vwCl (WS cI cZ cS a u250) H := hP
                                                                                                        refine lv_iconst (v := (1 : Int32)) hx hb dL_letters_556 (by decide) ?_
                                                                                                        refine lv_icmp_ne (tgt := 592) hx hb dL_letters_557 (by decide) (fun c253 => ?_) (fun c253 => ?_)
                                                                                                        · have hF := ite_f c253 hF
                                                                                                          refine lv_iconst (v := (0 : Int32)) hx hb dL_letters_592 (by decide) ?_
                                                                                                          cases hF
                                                                                                          exact nretz (by omega) (by omega) (by decide) hx hb hr hlocks hS dL_letters_593
                                                                                                        · have hF := ite_t c253 hF
                                                                                                          refine lv_aload_n hx hb dL_letters_560 rfl (lv_at hl 0 rfl) ?_
                                                                                                          refine lv_bipush (v := (16 : Int32)) hx hb dL_letters_561 (by decide) ?_
                                                                                                          obtain ⟨k254, q255, h256, hF⟩ := bd2_at hF
                                                                                                          obtain ⟨g257, hF⟩ := gd_at hF
                                                                                                          rw [g257] at h256
                                                                                                          refine rcall (va_runV (As := [.int (16 : Int32)]) (rest := []) S (NS_count l D cI cZ cS cJ a u250 (16 : Int32) q255 h256) (cwV 1 hts (gd_V wd_413 wd_414 wd_415 wd_22 wd_416) rfl rfl rfl hd5_count ⟨Nat.le_of_ble_eq_true rfl, Nat.le_of_ble_eq_true rfl⟩) (rPreV hK hP (ci := 5) (q := (RX5, TX5, 3)) (WS_0 cI cZ cS a u250) rfl) rfl rfl hl.1 rfl (lv_room (Nat.le_of_ble_eq_true rfl)) dL_letters_563 ⟨(by show cl + 690 ≤ 769; omega), (by show sl + 4140 ≤ 8791; omega)⟩) ?_
                                                                                                          refine lv_iconst (v := (5 : Int32)) hx hb dL_letters_566 (by decide) ?_
                                                                                                          refine lv_icmp_ne (tgt := 592) hx hb dL_letters_567 (by decide) (fun c258 => ?_) (fun c258 => ?_)
                                                                                                          · have hF := ite_f c258 hF
                                                                                                            refine lv_iconst (v := (0 : Int32)) hx hb dL_letters_592 (by decide) ?_
                                                                                                            cases hF
                                                                                                            exact nretz (by omega) (by omega) (by decide) hx hb hr hlocks hS dL_letters_593
                                                                                                          · have hF := ite_t c258 hF
                                                                                                            refine lv_aload_n hx hb dL_letters_570 rfl (lv_at hl 0 rfl) ?_
                                                                                                            obtain ⟨k259, q260, u261, h262, hF⟩ := bd3_at hF
                                                                                                            obtain ⟨g263, hF⟩ := gd_at hF
                                                                                                            rw [g263] at h262
                                                                                                            refine scalli (X' := WS cI cZ cS a u261) (va_runV (As := []) (rest := []) S (NS_undo l D cI cZ cS cJ a u250 q260 u261 h262) (cwV 0 hts (gd_V wd_375 wd_376 wd_377 wd_22 wd_378) rfl rfl rfl hd5_undo ⟨Nat.le_of_ble_eq_true rfl, Nat.le_of_ble_eq_true rfl⟩) (uPreV hK hP hD (ci := 5) (q := (RX5, TX5, 3)) (WS_0 cI cZ cS a u250) rfl) rfl rfl hl.1 rfl (lv_room (Nat.le_of_ble_eq_true rfl)) dL_letters_571 ⟨(by show cl + 690 ≤ 769; omega), (by show sl + 4140 ≤ 8791; omega)⟩) hS hD (fun H locs hP hS => ?_)
                                                                                                            have hD : va_D A0 (WS cI cZ cS a u261) := WS_D u261 hD
                                                                                                            have hP : va_P D vwCl (WS cI cZ cS a u261) H := hP
                                                                                                            refine lv_if_ne (tgt := 592) hx hb dL_letters_574 (by decide) (fun c264 => ?_) (fun c264 => ?_)
                                                                                                            · have hF := ite_f c264 hF
                                                                                                              refine lv_iconst (v := (0 : Int32)) hx hb dL_letters_592 (by decide) ?_
                                                                                                              cases hF
                                                                                                              exact nretz (by omega) (by omega) (by decide) hx hb hr hlocks hS dL_letters_593
                                                                                                            · have hF := ite_t c264 hF
                                                                                                              refine lv_aload_n hx hb dL_letters_577 rfl (lv_at hl 0 rfl) ?_
                                                                                                              refine lv_bipush (v := (9 : Int32)) hx hb dL_letters_578 (by decide) ?_
                                                                                                              obtain ⟨k265, q266, h267, hF⟩ := bd2_at hF
                                                                                                              obtain ⟨g268, hF⟩ := gd_at hF
                                                                                                              rw [g268] at h267
                                                                                                              refine rcall (va_runV (As := [.int (9 : Int32)]) (rest := []) S (NS_count l D cI cZ cS cJ a u261 (9 : Int32) q266 h267) (cwV 1 hts (gd_V wd_413 wd_414 wd_415 wd_22 wd_416) rfl rfl rfl hd5_count ⟨Nat.le_of_ble_eq_true rfl, Nat.le_of_ble_eq_true rfl⟩) (rPreV hK hP (ci := 5) (q := (RX5, TX5, 3)) (WS_0 cI cZ cS a u261) rfl) rfl rfl hl.1 rfl (lv_room (Nat.le_of_ble_eq_true rfl)) dL_letters_580 ⟨(by show cl + 690 ≤ 769; omega), (by show sl + 4140 ≤ 8791; omega)⟩) ?_
                                                                                                              refine lv_bipush (v := (11 : Int32)) hx hb dL_letters_583 (by decide) ?_
                                                                                                              refine lv_icmp_ne (tgt := 592) hx hb dL_letters_585 (by decide) (fun c269 => ?_) (fun c269 => ?_)
                                                                                                              · have hF := ite_f c269 hF
                                                                                                                refine lv_iconst (v := (0 : Int32)) hx hb dL_letters_592 (by decide) ?_
                                                                                                                cases hF
                                                                                                                exact nretz (by omega) (by omega) (by decide) hx hb hr hlocks hS dL_letters_593
                                                                                                              · have hF := ite_t c269 hF
                                                                                                                refine lv_iconst (v := (1 : Int32)) hx hb dL_letters_588 (by decide) ?_
                                                                                                                refine lv_goto (tgt := 593) hx hb dL_letters_589 (by decide) ?_
                                                                                                                cases hF
                                                                                                                exact nretz (by omega) (by omega) (by decide) hx hb hr hlocks hS dL_letters_593
                                                                                                      · have hF := ite_f c247 hF
                                                                                                        refine lv_iconst (v := (0 : Int32)) hx hb dL_letters_550 (by decide) ?_
                                                                                                        cases hF
                                                                                                        exact nretz (by omega) (by omega) (by decide) hx hb hr hlocks hS dL_letters_551
                                                          · have hF := ite_f c135 hF
                                                            refine lv_iconst (v := (0 : Int32)) hx hb dL_letters_318 (by decide) ?_
                                                            cases hF
                                                            exact nretz (by omega) (by omega) (by decide) hx hb hr hlocks hS dL_letters_319
                                      · have hF := ite_t c85 hF
                                        refine lv_iconst (v := (0 : Int32)) hx hb dL_letters_183 (by decide) ?_
                                        cases hF
                                        exact nretz (by omega) (by omega) (by decide) hx hb hr hlocks hS dL_letters_184
  have hP : va_P D vwCl [] s.heap := fun k q h => by simp at h
  have hD : va_D A0 [] := ⟨fun i j p q h => by simp at h, fun k q h => by simp at h⟩
  have hl := lv_entry ([] : List Value) (n := 1) ((Nat.le_of_ble_eq_true rfl))
  refine W.eq (g2 := F0 m 0 ((lg_sl ([] : List Value) ++ List.replicate (1 - (lg_sl ([] : List Value)).length) Slot.unset).toArray) []) (by rw [ha]; exact lg_entry_eq _ _ _) ?_
  generalize (lg_sl ([] : List Value) ++ List.replicate (1 - (lg_sl ([] : List Value)).length) Slot.unset).toArray = ls at hl ⊢
  have hl : lv_has ls 1 [] := hl
  refine va_new (D := D) (ci := 5) (fs := [.null, .null, .null]) (C := RX5) (T := TX5) (N := 3) hx hb hts i_X5 tyX5 tyX5_ok hown (hts _ wd_35) (hts _ wd_36) (hts _ wd_22) hK.1 hP hD hS hA rfl (fun j hj => by rcases (show j = 0 ∨ j = 1 ∨ j = 2 by omega) with rfl | rfl | rfl <;> rfl) ((Nat.le_of_ble_eq_true rfl)) ((Nat.le_of_ble_eq_true rfl)) dL_letters_0 (fun q1 H hP hD hS => ?_)
  have hP : va_P D vwCl ([] ++ [(q1, .inr (5, [.null, .null, .null]))]) H := hP
  have hD : va_D A0 ([] ++ [(q1, .inr (5, [.null, .null, .null]))]) := hD
  refine lv_dup hx hb dL_letters_3 rfl ?_
  have hFc := c_free hD hS hA
  refine va_callv (va_runI (As := []) (rest := [.ref q1]) S (K5_init l D cI cZ cS cJ q1 H.size) (cwI 0 hts (gd_all wd_39) rfl rfl rfl (hts _ wd_22) (hts _ wd_37) (hts _ wd_38) rfl (by decide +kernel) ⟨(Nat.le_of_ble_eq_true rfl), (Nat.le_of_ble_eq_true rfl)⟩) (cPreS hK hM (wP_r hP) (wD_r hD)) rfl rfl hl.1 rfl (lv_room ((Nat.le_of_ble_eq_true rfl))) dL_letters_4 ⟨(Nat.le_of_ble_eq_true rfl), (Nat.le_of_ble_eq_true rfl)⟩) hS (fun q _ h => hFc q h) hFc (fun u t H1 locs ht hvm hw hB hz1 hk1 hS => ?_)
  obtain ⟨hP1, hD1⟩ := hB
  rw [ht] at hP1
  have hP1 : va_P D vwCl (WS cI cZ cS (q1, u) st0) H1 := hP1
  have hD1 : va_D (va_A [(q1, .inr (5, [.null, .null, .null]))] H.size) (WS cI cZ cS (q1, u) st0) := hD1
  have hD2 := hD1.weaken (B := A0) (fun k q _ h => hFc q.1 h)
  refine lv_astore_n (lv' := [(0, .ref q1)]) hx hb dL_letters_7 rfl hl (by decide) rfl (fun ls hl => ?_)
  exact key (q1, u) H1 locs _ _ ((Nat.le_of_ble_eq_true rfl)) ((Nat.le_of_ble_eq_true rfl)) hP1 hD2 hS ls hl
abbrev rmL_cheques : Room := { frames := 11, cells := 1471, slots := 13003, locals := 235 }
theorem hdnL_cheques : yL_cheques.cls ≠ "java/lang/invoke/MethodHandle" ∧ yL_cheques.cls ≠ "java/lang/invoke/VarHandle" ∧ (parseMethodDescriptor yL_cheques.desc).map (fun d => d.parameters.length) = some 0 := by decide +kernel
set_option maxHeartbeats 8000000 in
set_option maxRecDepth 100000 in
theorem KL_cheques (l : Launch) (hfl : l.stackTraces = false) (D : va_G) (cI cZ cS cJ : ClassId) (sz : Nat) (r : Int32) (hF : fL_chequesB st0 = some r) : Met l yL_cheques wsL_cheques rmL_cheques (nP D (gT cI cZ cS cJ) sz) (nQ (.int r) (fun q => sz ≤ q)) 1471 13003 (fun q => sz ≤ q) := by
  refine Met.ofW (cc := cL_cheques) (maxL := 1) (ret := (some .boolean)) (by decide) rfl ?_
  intro p e s m args below meth c s₁ B hml hv
  obtain ⟨ha, hsz, hK, hM, hX, hZ, hY⟩ := hv
  subst hsz
  have hx := B.exec
  have hb := B.bytes
  have hr := B.returns
  have hlocks := B.notSynchronized
  have hts : ∀ w ∈ lw_all, w.before args s = true := fun w h => atoms_spec (ws := wsL_cheques) B.pre w (List.mem_cons_of_mem _ h)
  have hown : s.vm.findClass RL = some m.cls := findClass_of_methodNamed B.named
  have S : CallFix p m c cL_cheques 1 s args lw_all RL := ⟨hx, hb, hml, hown, hts⟩
  have hA : ∀ q : Nat, s.heap.size ≤ q → (fun q => s.heap.size ≤ q) q := fun q h => h
  generalize (fun q => s.heap.size ≤ q) = A0 at hZ hA ⊢
  have hS : va_S A0 s.heap s.heap [] := va_S.rf
  have key : ∀ (a : AD) (H : Heap) (locs : List Loc) (cl sl : Nat), cl + 1392 ≤ 1471 → sl + 8352 ≤ 13003 → va_P D vwCl (WS cI cZ cS a st0) H → va_D A0 (WS cI cZ cS a st0) → va_S A0 s.heap H locs → ∀ ls : Array Slot, lv_has ls 1 [(0, .ref a.1)] → W p l e (headSpec wsL_cheques rmL_cheques).room s m args below meth c H locs cl sl (MQ below (nQ (.int r) A0) args s 1471 13003 A0) (F0 m 8 ls []) := by
    intro a
    intro H locs cl sl hc1 hc2 hP hD hS ls hl
    rw [fL_chequesB] at hF
    refine lv_aload_n hx hb dL_cheques_8 rfl (lv_at hl 0 rfl) ?_
    refine lv_bipush (v := (100 : Int32)) hx hb dL_cheques_9 (by decide) ?_
    refine lv_iconst (v := (5 : Int32)) hx hb dL_cheques_11 (by decide) ?_
    obtain ⟨k1, q2, u3, h4, hF⟩ := bd3_at hF
    obtain ⟨g5, hF⟩ := gd_at hF
    rw [g5] at h4
    refine scalli (X' := WS cI cZ cS a u3) (va_runV (As := [.int (100 : Int32), .int (5 : Int32)]) (rest := []) S (NS_book l D cI cZ cS cJ a st0 (100 : Int32) (5 : Int32) q2 u3 h4) (cwV 2 hts (gd_V wd_149 wd_150 wd_151 wd_22 wd_152) rfl rfl rfl hd5_book ⟨Nat.le_of_ble_eq_true rfl, Nat.le_of_ble_eq_true rfl⟩) (uPreV hK hP hD (ci := 5) (q := (RX5, TX5, 3)) (WS_0 cI cZ cS a st0) rfl) rfl rfl hl.1 rfl (lv_room (Nat.le_of_ble_eq_true rfl)) dL_cheques_12 ⟨(by show cl + 0 ≤ 1471; omega), (by show sl + 0 ≤ 13003; omega)⟩) hS hD (fun H locs hP hS => ?_)
    have hD : va_D A0 (WS cI cZ cS a u3) := WS_D u3 hD
    have hP : va_P D vwCl (WS cI cZ cS a u3) H := hP
    refine lv_if_ne (tgt := 189) hx hb dL_cheques_15 (by decide) (fun c6 => ?_) (fun c6 => ?_)
    · have hF := ite_f c6 hF
      refine lv_iconst (v := (0 : Int32)) hx hb dL_cheques_189 (by decide) ?_
      cases hF
      exact nretz (by omega) (by omega) (by decide) hx hb hr hlocks hS dL_cheques_190
    · have hF := ite_t c6 hF
      refine lv_aload_n hx hb dL_cheques_18 rfl (lv_at hl 0 rfl) ?_
      refine lv_bipush (v := (90 : Int32)) hx hb dL_cheques_19 (by decide) ?_
      refine lv_bipush (v := (10 : Int32)) hx hb dL_cheques_21 (by decide) ?_
      obtain ⟨k7, q8, u9, h10, hF⟩ := bd3_at hF
      obtain ⟨g11, hF⟩ := gd_at hF
      rw [g11] at h10
      refine scalli (X' := WS cI cZ cS a u9) (va_runV (As := [.int (90 : Int32), .int (10 : Int32)]) (rest := []) S (NS_book l D cI cZ cS cJ a u3 (90 : Int32) (10 : Int32) q8 u9 h10) (cwV 2 hts (gd_V wd_149 wd_150 wd_151 wd_22 wd_152) rfl rfl rfl hd5_book ⟨Nat.le_of_ble_eq_true rfl, Nat.le_of_ble_eq_true rfl⟩) (uPreV hK hP hD (ci := 5) (q := (RX5, TX5, 3)) (WS_0 cI cZ cS a u3) rfl) rfl rfl hl.1 rfl (lv_room (Nat.le_of_ble_eq_true rfl)) dL_cheques_23 ⟨(by show cl + 0 ≤ 1471; omega), (by show sl + 0 ≤ 13003; omega)⟩) hS hD (fun H locs hP hS => ?_)
      have hD : va_D A0 (WS cI cZ cS a u9) := WS_D u9 hD
      have hP : va_P D vwCl (WS cI cZ cS a u9) H := hP
      refine lv_iconst (v := (1 : Int32)) hx hb dL_cheques_26 (by decide) ?_
      refine lv_icmp_ne (tgt := 189) hx hb dL_cheques_27 (by decide) (fun c12 => ?_) (fun c12 => ?_)
      · have hF := ite_f c12 hF
        refine lv_iconst (v := (0 : Int32)) hx hb dL_cheques_189 (by decide) ?_
        cases hF
        exact nretz (by omega) (by omega) (by decide) hx hb hr hlocks hS dL_cheques_190
      · have hF := ite_t c12 hF
        refine lv_aload_n hx hb dL_cheques_30 rfl (lv_at hl 0 rfl) ?_
        refine lv_iconst (v := (2 : Int32)) hx hb dL_cheques_31 (by decide) ?_
        refine lv_bipush (v := (95 : Int32)) hx hb dL_cheques_32 (by decide) ?_
        refine lv_iconst (v := (2 : Int32)) hx hb dL_cheques_34 (by decide) ?_
        refine lv_iconst (v := (0 : Int32)) hx hb dL_cheques_35 (by decide) ?_
        obtain ⟨q13, u14, h15, hF⟩ := bd2_at hF
        refine scalli (X' := WS cI cZ cS a u14) (vx_runSW (As := [.ref a.1, .int (2 : Int32), .int (95 : Int32), .int (2 : Int32), .int (0 : Int32)]) (rest := []) S (KT_book l hfl D cI cZ cS cJ a u9 (95 : Int32) (2 : Int32) (0 : Int32) q13 u14 h15) (vx_cwSW 5 hts (gd_SW wd_448 wd_449 wd_21 cwL_call) rfl rfl rfl hdL_call ⟨Nat.le_of_ble_eq_true rfl, Nat.le_of_ble_eq_true rfl⟩) (wPreS hK hX hZ hY hS hP hD) rfl rfl hl.1 rfl (lv_room (Nat.le_of_ble_eq_true rfl)) dL_cheques_36 ⟨(by show cl + 3 ≤ 1471; omega), (by show sl + 18 ≤ 13003; omega)⟩) hS hD (fun H locs hP hS => ?_)
        have hD : va_D A0 (WS cI cZ cS a u14) := WS_D u14 hD
        have hP : va_P D vwCl (WS cI cZ cS a u14) H := hP
        refine lv_bipush (v := (-13 : Int32)) hx hb dL_cheques_39 (by decide) ?_
        refine lv_icmp_ne (tgt := 189) hx hb dL_cheques_41 (by decide) (fun c16 => ?_) (fun c16 => ?_)
        · have hF := ite_f c16 hF
          refine lv_iconst (v := (0 : Int32)) hx hb dL_cheques_189 (by decide) ?_
          cases hF
          exact nretz (by omega) (by omega) (by decide) hx hb hr hlocks hS dL_cheques_190
        · have hF := ite_t c16 hF
          refine lv_aload_n hx hb dL_cheques_44 rfl (lv_at hl 0 rfl) ?_
          refine lv_iconst (v := (2 : Int32)) hx hb dL_cheques_45 (by decide) ?_
          refine lv_bipush (v := (104 : Int32)) hx hb dL_cheques_46 (by decide) ?_
          refine lv_iconst (v := (1 : Int32)) hx hb dL_cheques_48 (by decide) ?_
          refine lv_iconst (v := (0 : Int32)) hx hb dL_cheques_49 (by decide) ?_
          obtain ⟨q17, u18, h19, hF⟩ := bd2_at hF
          refine scalli (X' := WS cI cZ cS a u18) (vx_runSW (As := [.ref a.1, .int (2 : Int32), .int (104 : Int32), .int (1 : Int32), .int (0 : Int32)]) (rest := []) S (KT_book l hfl D cI cZ cS cJ a u14 (104 : Int32) (1 : Int32) (0 : Int32) q17 u18 h19) (vx_cwSW 5 hts (gd_SW wd_448 wd_449 wd_21 cwL_call) rfl rfl rfl hdL_call ⟨Nat.le_of_ble_eq_true rfl, Nat.le_of_ble_eq_true rfl⟩) (wPreS hK hX hZ hY hS hP hD) rfl rfl hl.1 rfl (lv_room (Nat.le_of_ble_eq_true rfl)) dL_cheques_50 ⟨(by show cl + 6 ≤ 1471; omega), (by show sl + 36 ≤ 13003; omega)⟩) hS hD (fun H locs hP hS => ?_)
          have hD : va_D A0 (WS cI cZ cS a u18) := WS_D u18 hD
          have hP : va_P D vwCl (WS cI cZ cS a u18) H := hP
          refine lv_bipush (v := (-13 : Int32)) hx hb dL_cheques_53 (by decide) ?_
          refine lv_icmp_ne (tgt := 189) hx hb dL_cheques_55 (by decide) (fun c20 => ?_) (fun c20 => ?_)
          · have hF := ite_f c20 hF
            refine lv_iconst (v := (0 : Int32)) hx hb dL_cheques_189 (by decide) ?_
            cases hF
            exact nretz (by omega) (by omega) (by decide) hx hb hr hlocks hS dL_cheques_190
          · have hF := ite_t c20 hF
            refine lv_aload_n hx hb dL_cheques_58 rfl (lv_at hl 0 rfl) ?_
            refine lv_iconst (v := (2 : Int32)) hx hb dL_cheques_59 (by decide) ?_
            refine lv_bipush (v := (80 : Int32)) hx hb dL_cheques_60 (by decide) ?_
            refine lv_bipush (v := (11 : Int32)) hx hb dL_cheques_62 (by decide) ?_
            refine lv_iconst (v := (0 : Int32)) hx hb dL_cheques_64 (by decide) ?_
            obtain ⟨q21, u22, h23, hF⟩ := bd2_at hF
            refine scalli (X' := WS cI cZ cS a u22) (vx_runSW (As := [.ref a.1, .int (2 : Int32), .int (80 : Int32), .int (11 : Int32), .int (0 : Int32)]) (rest := []) S (KT_book l hfl D cI cZ cS cJ a u18 (80 : Int32) (11 : Int32) (0 : Int32) q21 u22 h23) (vx_cwSW 5 hts (gd_SW wd_448 wd_449 wd_21 cwL_call) rfl rfl rfl hdL_call ⟨Nat.le_of_ble_eq_true rfl, Nat.le_of_ble_eq_true rfl⟩) (wPreS hK hX hZ hY hS hP hD) rfl rfl hl.1 rfl (lv_room (Nat.le_of_ble_eq_true rfl)) dL_cheques_65 ⟨(by show cl + 9 ≤ 1471; omega), (by show sl + 54 ≤ 13003; omega)⟩) hS hD (fun H locs hP hS => ?_)
            have hD : va_D A0 (WS cI cZ cS a u22) := WS_D u22 hD
            have hP : va_P D vwCl (WS cI cZ cS a u22) H := hP
            refine lv_bipush (v := (-13 : Int32)) hx hb dL_cheques_68 (by decide) ?_
            refine lv_icmp_ne (tgt := 189) hx hb dL_cheques_70 (by decide) (fun c24 => ?_) (fun c24 => ?_)
            · have hF := ite_f c24 hF
              refine lv_iconst (v := (0 : Int32)) hx hb dL_cheques_189 (by decide) ?_
              cases hF
              exact nretz (by omega) (by omega) (by decide) hx hb hr hlocks hS dL_cheques_190
            · have hF := ite_t c24 hF
              refine lv_aload_n hx hb dL_cheques_73 rfl (lv_at hl 0 rfl) ?_
              refine lv_bipush (v := (105 : Int32)) hx hb dL_cheques_74 (by decide) ?_
              refine lv_iconst (v := (1 : Int32)) hx hb dL_cheques_76 (by decide) ?_
              obtain ⟨k25, q26, u27, h28, hF⟩ := bd3_at hF
              obtain ⟨g29, hF⟩ := gd_at hF
              rw [g29] at h28
              refine scalli (X' := WS cI cZ cS a u27) (va_runV (As := [.int (105 : Int32), .int (1 : Int32)]) (rest := []) S (NS_book l D cI cZ cS cJ a u22 (105 : Int32) (1 : Int32) q26 u27 h28) (cwV 2 hts (gd_V wd_149 wd_150 wd_151 wd_22 wd_152) rfl rfl rfl hd5_book ⟨Nat.le_of_ble_eq_true rfl, Nat.le_of_ble_eq_true rfl⟩) (uPreV hK hP hD (ci := 5) (q := (RX5, TX5, 3)) (WS_0 cI cZ cS a u22) rfl) rfl rfl hl.1 rfl (lv_room (Nat.le_of_ble_eq_true rfl)) dL_cheques_77 ⟨(by show cl + 9 ≤ 1471; omega), (by show sl + 54 ≤ 13003; omega)⟩) hS hD (fun H locs hP hS => ?_)
              have hD : va_D A0 (WS cI cZ cS a u27) := WS_D u27 hD
              have hP : va_P D vwCl (WS cI cZ cS a u27) H := hP
              refine lv_iconst (v := (2 : Int32)) hx hb dL_cheques_80 (by decide) ?_
              refine lv_icmp_ne (tgt := 189) hx hb dL_cheques_81 (by decide) (fun c30 => ?_) (fun c30 => ?_)
              · have hF := ite_f c30 hF
                refine lv_iconst (v := (0 : Int32)) hx hb dL_cheques_189 (by decide) ?_
                cases hF
                exact nretz (by omega) (by omega) (by decide) hx hb hr hlocks hS dL_cheques_190
              · have hF := ite_t c30 hF
                refine lv_aload_n hx hb dL_cheques_84 rfl (lv_at hl 0 rfl) ?_
                refine lv_ldc hx hb hown (hts _ wd_710) dL_cheques_85 ?_
                refine lv_iconst (v := (1 : Int32)) hx hb dL_cheques_87 (by decide) ?_
                obtain ⟨k31, q32, u33, h34, hF⟩ := bd3_at hF
                obtain ⟨g35, hF⟩ := gd_at hF
                rw [g35] at h34
                refine scalli (X' := WS cI cZ cS a u33) (va_runV (As := [.int (999999 : Int32), .int (1 : Int32)]) (rest := []) S (NS_book l D cI cZ cS cJ a u27 (999999 : Int32) (1 : Int32) q32 u33 h34) (cwV 2 hts (gd_V wd_149 wd_150 wd_151 wd_22 wd_152) rfl rfl rfl hd5_book ⟨Nat.le_of_ble_eq_true rfl, Nat.le_of_ble_eq_true rfl⟩) (uPreV hK hP hD (ci := 5) (q := (RX5, TX5, 3)) (WS_0 cI cZ cS a u27) rfl) rfl rfl hl.1 rfl (lv_room (Nat.le_of_ble_eq_true rfl)) dL_cheques_88 ⟨(by show cl + 9 ≤ 1471; omega), (by show sl + 54 ≤ 13003; omega)⟩) hS hD (fun H locs hP hS => ?_)
                have hD : va_D A0 (WS cI cZ cS a u33) := WS_D u33 hD
                have hP : va_P D vwCl (WS cI cZ cS a u33) H := hP
                refine lv_iconst (v := (3 : Int32)) hx hb dL_cheques_91 (by decide) ?_
                refine lv_icmp_ne (tgt := 189) hx hb dL_cheques_92 (by decide) (fun c36 => ?_) (fun c36 => ?_)
                · have hF := ite_f c36 hF
                  refine lv_iconst (v := (0 : Int32)) hx hb dL_cheques_189 (by decide) ?_
                  cases hF
                  exact nretz (by omega) (by omega) (by decide) hx hb hr hlocks hS dL_cheques_190
                · have hF := ite_t c36 hF
                  refine lv_aload_n hx hb dL_cheques_95 rfl (lv_at hl 0 rfl) ?_
                  refine lv_iconst (v := (2 : Int32)) hx hb dL_cheques_96 (by decide) ?_
                  refine lv_ldc hx hb hown (hts _ wd_715) dL_cheques_97 ?_
                  refine lv_iconst (v := (2 : Int32)) hx hb dL_cheques_99 (by decide) ?_
                  refine lv_iconst (v := (0 : Int32)) hx hb dL_cheques_100 (by decide) ?_
                  obtain ⟨q37, u38, h39, hF⟩ := bd2_at hF
                  refine scalli (X' := WS cI cZ cS a u38) (vx_runSW (As := [.ref a.1, .int (2 : Int32), .int (999998 : Int32), .int (2 : Int32), .int (0 : Int32)]) (rest := []) S (KT_book l hfl D cI cZ cS cJ a u33 (999998 : Int32) (2 : Int32) (0 : Int32) q37 u38 h39) (vx_cwSW 5 hts (gd_SW wd_448 wd_449 wd_21 cwL_call) rfl rfl rfl hdL_call ⟨Nat.le_of_ble_eq_true rfl, Nat.le_of_ble_eq_true rfl⟩) (wPreS hK hX hZ hY hS hP hD) rfl rfl hl.1 rfl (lv_room (Nat.le_of_ble_eq_true rfl)) dL_cheques_101 ⟨(by show cl + 12 ≤ 1471; omega), (by show sl + 72 ≤ 13003; omega)⟩) hS hD (fun H locs hP hS => ?_)
                  have hD : va_D A0 (WS cI cZ cS a u38) := WS_D u38 hD
                  have hP : va_P D vwCl (WS cI cZ cS a u38) H := hP
                  refine lv_bipush (v := (-13 : Int32)) hx hb dL_cheques_104 (by decide) ?_
                  refine lv_icmp_ne (tgt := 189) hx hb dL_cheques_106 (by decide) (fun c40 => ?_) (fun c40 => ?_)
                  · have hF := ite_f c40 hF
                    refine lv_iconst (v := (0 : Int32)) hx hb dL_cheques_189 (by decide) ?_
                    cases hF
                    exact nretz (by omega) (by omega) (by decide) hx hb hr hlocks hS dL_cheques_190
                  · have hF := ite_t c40 hF
                    refine lv_aload_n hx hb dL_cheques_109 rfl (lv_at hl 0 rfl) ?_
                    refine lv_iconst (v := (0 : Int32)) hx hb dL_cheques_110 (by decide) ?_
                    obtain ⟨k41, q42, h43, hF⟩ := bd2_at hF
                    obtain ⟨g44, hF⟩ := gd_at hF
                    rw [g44] at h43
                    refine rcall (va_runV (As := [.int (0 : Int32)]) (rest := []) S (NS_ranked l D cI cZ cS cJ a u38 (0 : Int32) q42 h43) (cwV 1 hts (gd_V wd_590 wd_591 wd_592 wd_22 wd_593) rfl rfl rfl hd5_ranked ⟨Nat.le_of_ble_eq_true rfl, Nat.le_of_ble_eq_true rfl⟩) (rPreV hK hP (ci := 5) (q := (RX5, TX5, 3)) (WS_0 cI cZ cS a u38) rfl) rfl rfl hl.1 rfl (lv_room (Nat.le_of_ble_eq_true rfl)) dL_cheques_111 ⟨(by show cl + 12 ≤ 1471; omega), (by show sl + 72 ≤ 13003; omega)⟩) ?_
                    refine lv_bipush (v := (90 : Int32)) hx hb dL_cheques_114 (by decide) ?_
                    refine lv_icmp_ne (tgt := 189) hx hb dL_cheques_116 (by decide) (fun c45 => ?_) (fun c45 => ?_)
                    · have hF := ite_f c45 hF
                      refine lv_iconst (v := (0 : Int32)) hx hb dL_cheques_189 (by decide) ?_
                      cases hF
                      exact nretz (by omega) (by omega) (by decide) hx hb hr hlocks hS dL_cheques_190
                    · have hF := ite_t c45 hF
                      refine lv_aload_n hx hb dL_cheques_119 rfl (lv_at hl 0 rfl) ?_
                      refine lv_bipush (v := (10 : Int32)) hx hb dL_cheques_120 (by decide) ?_
                      obtain ⟨k46, q47, h48, hF⟩ := bd2_at hF
                      obtain ⟨g49, hF⟩ := gd_at hF
                      rw [g49] at h48
                      refine rcall (va_runV (As := [.int (10 : Int32)]) (rest := []) S (NS_ranked l D cI cZ cS cJ a u38 (10 : Int32) q47 h48) (cwV 1 hts (gd_V wd_590 wd_591 wd_592 wd_22 wd_593) rfl rfl rfl hd5_ranked ⟨Nat.le_of_ble_eq_true rfl, Nat.le_of_ble_eq_true rfl⟩) (rPreV hK hP (ci := 5) (q := (RX5, TX5, 3)) (WS_0 cI cZ cS a u38) rfl) rfl rfl hl.1 rfl (lv_room (Nat.le_of_ble_eq_true rfl)) dL_cheques_122 ⟨(by show cl + 12 ≤ 1471; omega), (by show sl + 72 ≤ 13003; omega)⟩) ?_
                      refine lv_bipush (v := (100 : Int32)) hx hb dL_cheques_125 (by decide) ?_
                      refine lv_icmp_ne (tgt := 189) hx hb dL_cheques_127 (by decide) (fun c50 => ?_) (fun c50 => ?_)
                      · have hF := ite_f c50 hF
                        refine lv_iconst (v := (0 : Int32)) hx hb dL_cheques_189 (by decide) ?_
                        cases hF
                        exact nretz (by omega) (by omega) (by decide) hx hb hr hlocks hS dL_cheques_190
                      · have hF := ite_t c50 hF
                        refine lv_aload_n hx hb dL_cheques_130 rfl (lv_at hl 0 rfl) ?_
                        refine lv_bipush (v := (15 : Int32)) hx hb dL_cheques_131 (by decide) ?_
                        obtain ⟨k51, q52, h53, hF⟩ := bd2_at hF
                        obtain ⟨g54, hF⟩ := gd_at hF
                        rw [g54] at h53
                        refine rcall (va_runV (As := [.int (15 : Int32)]) (rest := []) S (NS_ranked l D cI cZ cS cJ a u38 (15 : Int32) q52 h53) (cwV 1 hts (gd_V wd_590 wd_591 wd_592 wd_22 wd_593) rfl rfl rfl hd5_ranked ⟨Nat.le_of_ble_eq_true rfl, Nat.le_of_ble_eq_true rfl⟩) (rPreV hK hP (ci := 5) (q := (RX5, TX5, 3)) (WS_0 cI cZ cS a u38) rfl) rfl rfl hl.1 rfl (lv_room (Nat.le_of_ble_eq_true rfl)) dL_cheques_133 ⟨(by show cl + 12 ≤ 1471; omega), (by show sl + 72 ≤ 13003; omega)⟩) ?_
                        refine lv_bipush (v := (105 : Int32)) hx hb dL_cheques_136 (by decide) ?_
                        refine lv_icmp_ne (tgt := 189) hx hb dL_cheques_138 (by decide) (fun c55 => ?_) (fun c55 => ?_)
                        · have hF := ite_f c55 hF
                          refine lv_iconst (v := (0 : Int32)) hx hb dL_cheques_189 (by decide) ?_
                          cases hF
                          exact nretz (by omega) (by omega) (by decide) hx hb hr hlocks hS dL_cheques_190
                        · have hF := ite_t c55 hF
                          refine lv_aload_n hx hb dL_cheques_141 rfl (lv_at hl 0 rfl) ?_
                          refine lv_bipush (v := (16 : Int32)) hx hb dL_cheques_142 (by decide) ?_
                          obtain ⟨k56, q57, h58, hF⟩ := bd2_at hF
                          obtain ⟨g59, hF⟩ := gd_at hF
                          rw [g59] at h58
                          refine rcall (va_runV (As := [.int (16 : Int32)]) (rest := []) S (NS_ranked l D cI cZ cS cJ a u38 (16 : Int32) q57 h58) (cwV 1 hts (gd_V wd_590 wd_591 wd_592 wd_22 wd_593) rfl rfl rfl hd5_ranked ⟨Nat.le_of_ble_eq_true rfl, Nat.le_of_ble_eq_true rfl⟩) (rPreV hK hP (ci := 5) (q := (RX5, TX5, 3)) (WS_0 cI cZ cS a u38) rfl) rfl rfl hl.1 rfl (lv_room (Nat.le_of_ble_eq_true rfl)) dL_cheques_144 ⟨(by show cl + 12 ≤ 1471; omega), (by show sl + 72 ≤ 13003; omega)⟩) ?_
                          refine lv_ldc hx hb hown (hts _ wd_710) dL_cheques_147 ?_
                          refine lv_icmp_ne (tgt := 189) hx hb dL_cheques_149 (by decide) (fun c60 => ?_) (fun c60 => ?_)
                          · have hF := ite_f c60 hF
                            refine lv_iconst (v := (0 : Int32)) hx hb dL_cheques_189 (by decide) ?_
                            cases hF
                            exact nretz (by omega) (by omega) (by decide) hx hb hr hlocks hS dL_cheques_190
                          · have hF := ite_t c60 hF
                            refine lv_aload_n hx hb dL_cheques_152 rfl (lv_at hl 0 rfl) ?_
                            refine lv_bipush (v := (17 : Int32)) hx hb dL_cheques_153 (by decide) ?_
                            obtain ⟨k61, q62, h63, hF⟩ := bd2_at hF
                            obtain ⟨g64, hF⟩ := gd_at hF
                            rw [g64] at h63
                            refine rcall (va_runV (As := [.int (17 : Int32)]) (rest := []) S (NS_ranked l D cI cZ cS cJ a u38 (17 : Int32) q62 h63) (cwV 1 hts (gd_V wd_590 wd_591 wd_592 wd_22 wd_593) rfl rfl rfl hd5_ranked ⟨Nat.le_of_ble_eq_true rfl, Nat.le_of_ble_eq_true rfl⟩) (rPreV hK hP (ci := 5) (q := (RX5, TX5, 3)) (WS_0 cI cZ cS a u38) rfl) rfl rfl hl.1 rfl (lv_room (Nat.le_of_ble_eq_true rfl)) dL_cheques_155 ⟨(by show cl + 12 ≤ 1471; omega), (by show sl + 72 ≤ 13003; omega)⟩) ?_
                            refine lv_iconst (v := (-1 : Int32)) hx hb dL_cheques_158 (by decide) ?_
                            refine lv_icmp_ne (tgt := 189) hx hb dL_cheques_159 (by decide) (fun c65 => ?_) (fun c65 => ?_)
                            · have hF := ite_f c65 hF
                              refine lv_iconst (v := (0 : Int32)) hx hb dL_cheques_189 (by decide) ?_
                              cases hF
                              exact nretz (by omega) (by omega) (by decide) hx hb hr hlocks hS dL_cheques_190
                            · have hF := ite_t c65 hF
                              refine lv_aload_n hx hb dL_cheques_162 rfl (lv_at hl 0 rfl) ?_
                              refine lv_ldc hx hb hown (hts _ wd_443) dL_cheques_163 ?_
                              obtain ⟨k66, q67, h68, hF⟩ := bd2_at hF
                              obtain ⟨g69, hF⟩ := gd_at hF
                              rw [g69] at h68
                              refine rcall (va_runV (As := [.int (2147483647 : Int32)]) (rest := []) S (NS_ranked l D cI cZ cS cJ a u38 (2147483647 : Int32) q67 h68) (cwV 1 hts (gd_V wd_590 wd_591 wd_592 wd_22 wd_593) rfl rfl rfl hd5_ranked ⟨Nat.le_of_ble_eq_true rfl, Nat.le_of_ble_eq_true rfl⟩) (rPreV hK hP (ci := 5) (q := (RX5, TX5, 3)) (WS_0 cI cZ cS a u38) rfl) rfl rfl hl.1 rfl (lv_room (Nat.le_of_ble_eq_true rfl)) dL_cheques_165 ⟨(by show cl + 12 ≤ 1471; omega), (by show sl + 72 ≤ 13003; omega)⟩) ?_
                              refine lv_iconst (v := (-1 : Int32)) hx hb dL_cheques_168 (by decide) ?_
                              refine lv_icmp_ne (tgt := 189) hx hb dL_cheques_169 (by decide) (fun c70 => ?_) (fun c70 => ?_)
                              · have hF := ite_f c70 hF
                                refine lv_iconst (v := (0 : Int32)) hx hb dL_cheques_189 (by decide) ?_
                                cases hF
                                exact nretz (by omega) (by omega) (by decide) hx hb hr hlocks hS dL_cheques_190
                              · have hF := ite_t c70 hF
                                refine lv_aload_n hx hb dL_cheques_172 rfl (lv_at hl 0 rfl) ?_
                                refine lv_iconst (v := (1 : Int32)) hx hb dL_cheques_173 (by decide) ?_
                                obtain ⟨k71, q72, h73, hF⟩ := bd2_at hF
                                obtain ⟨g74, hF⟩ := gd_at hF
                                rw [g74] at h73
                                refine rcall (va_runV (As := [.int (1 : Int32)]) (rest := []) S (NS_count l D cI cZ cS cJ a u38 (1 : Int32) q72 h73) (cwV 1 hts (gd_V wd_413 wd_414 wd_415 wd_22 wd_416) rfl rfl rfl hd5_count ⟨Nat.le_of_ble_eq_true rfl, Nat.le_of_ble_eq_true rfl⟩) (rPreV hK hP (ci := 5) (q := (RX5, TX5, 3)) (WS_0 cI cZ cS a u38) rfl) rfl rfl hl.1 rfl (lv_room (Nat.le_of_ble_eq_true rfl)) dL_cheques_174 ⟨(by show cl + 12 ≤ 1471; omega), (by show sl + 72 ≤ 13003; omega)⟩) ?_
                                refine lv_bipush (v := (17 : Int32)) hx hb dL_cheques_177 (by decide) ?_
                                refine lv_icmp_ne (tgt := 189) hx hb dL_cheques_179 (by decide) (fun c75 => ?_) (fun c75 => ?_)
                                · have hF := ite_f c75 hF
                                  refine lv_iconst (v := (0 : Int32)) hx hb dL_cheques_189 (by decide) ?_
                                  cases hF
                                  exact nretz (by omega) (by omega) (by decide) hx hb hr hlocks hS dL_cheques_190
                                · have hF := ite_t c75 hF
                                  refine lv_aload_n hx hb dL_cheques_182 rfl (lv_at hl 0 rfl) ?_
                                  obtain ⟨q76, u78, h77, hF⟩ := bd2_at hF
                                  refine scalli (X' := WS cI cZ cS a u78) (va_runS (As := [.ref a.1]) (rest := []) S (KL_refused l hfl D cI cZ cS cJ a u38 q76 u78 h77) (va_cwS 1 hts (gd_S wd_704 wd_705 wd_21 wd_706) rfl rfl rfl hdnL_refused ⟨Nat.le_of_ble_eq_true rfl, Nat.le_of_ble_eq_true rfl⟩) (wPreS hK hX hZ hY hS hP hD) rfl rfl hl.1 rfl (lv_room (Nat.le_of_ble_eq_true rfl)) dL_cheques_183 ⟨(by show cl + 696 ≤ 1471; omega), (by show sl + 4176 ≤ 13003; omega)⟩) hS hD (fun H locs hP hS => ?_)
                                  have hD : va_D A0 (WS cI cZ cS a u78) := WS_D u78 hD
                                  have hP : va_P D vwCl (WS cI cZ cS a u78) H := hP
                                  refine lv_if_ne (tgt := 191) hx hb dL_cheques_186 (by decide) (fun c79 => ?_) (fun c79 => ?_)
                                  · have hF := ite_f c79 hF
                                    refine lv_aload_n hx hb dL_cheques_191 rfl (lv_at hl 0 rfl) ?_
                                    refine lv_bipush (v := (100 : Int32)) hx hb dL_cheques_192 (by decide) ?_
                                    refine lv_sipush (v := (250 : Int32)) hx hb dL_cheques_194 (by decide) ?_
                                    obtain ⟨k80, q81, u82, h83, hF⟩ := bd3_at hF
                                    obtain ⟨g84, hF⟩ := gd_at hF
                                    rw [g84] at h83
                                    refine scalli (X' := WS cI cZ cS a u82) (va_runV (As := [.int (100 : Int32), .int (250 : Int32)]) (rest := []) S (NS_write l D cI cZ cS cJ a u78 (100 : Int32) (250 : Int32) q81 u82 h83) (cwV 2 hts (gd_V wd_311 wd_312 wd_313 wd_22 wd_314) rfl rfl rfl hd5_write ⟨Nat.le_of_ble_eq_true rfl, Nat.le_of_ble_eq_true rfl⟩) (uPreV hK hP hD (ci := 5) (q := (RX5, TX5, 3)) (WS_0 cI cZ cS a u78) rfl) rfl rfl hl.1 rfl (lv_room (Nat.le_of_ble_eq_true rfl)) dL_cheques_197 ⟨(by show cl + 696 ≤ 1471; omega), (by show sl + 4176 ≤ 13003; omega)⟩) hS hD (fun H locs hP hS => ?_)
                                    have hD : va_D A0 (WS cI cZ cS a u82) := WS_D u82 hD
                                    have hP : va_P D vwCl (WS cI cZ cS a u82) H := hP
                                    refine lv_iconst (v := (4 : Int32)) hx hb dL_cheques_200 (by decide) ?_
                                    refine lv_icmp_ne (tgt := 459) hx hb dL_cheques_201 (by decide) (fun c85 => ?_) (fun c85 => ?_)
                                    · have hF := ite_f c85 hF
                                      refine lv_iconst (v := (0 : Int32)) hx hb dL_cheques_459 (by decide) ?_
                                      cases hF
                                      exact nretz (by omega) (by omega) (by decide) hx hb hr hlocks hS dL_cheques_460
                                    · have hF := ite_t c85 hF
                                      refine lv_aload_n hx hb dL_cheques_204 rfl (lv_at hl 0 rfl) ?_
                                      refine lv_iconst (v := (3 : Int32)) hx hb dL_cheques_205 (by decide) ?_
                                      refine lv_bipush (v := (100 : Int32)) hx hb dL_cheques_206 (by decide) ?_
                                      refine lv_iconst (v := (1 : Int32)) hx hb dL_cheques_208 (by decide) ?_
                                      refine lv_iconst (v := (0 : Int32)) hx hb dL_cheques_209 (by decide) ?_
                                      obtain ⟨q86, u87, h88, hF⟩ := bd2_at hF
                                      refine scalli (X' := WS cI cZ cS a u87) (vx_runSW (As := [.ref a.1, .int (3 : Int32), .int (100 : Int32), .int (1 : Int32), .int (0 : Int32)]) (rest := []) S (KT_write l hfl D cI cZ cS cJ a u82 (100 : Int32) (1 : Int32) (0 : Int32) q86 u87 h88) (vx_cwSW 5 hts (gd_SW wd_448 wd_449 wd_21 cwL_call) rfl rfl rfl hdL_call ⟨Nat.le_of_ble_eq_true rfl, Nat.le_of_ble_eq_true rfl⟩) (wPreS hK hX hZ hY hS hP hD) rfl rfl hl.1 rfl (lv_room (Nat.le_of_ble_eq_true rfl)) dL_cheques_210 ⟨(by show cl + 699 ≤ 1471; omega), (by show sl + 4194 ≤ 13003; omega)⟩) hS hD (fun H locs hP hS => ?_)
                                      have hD : va_D A0 (WS cI cZ cS a u87) := WS_D u87 hD
                                      have hP : va_P D vwCl (WS cI cZ cS a u87) H := hP
                                      refine lv_bipush (v := (-13 : Int32)) hx hb dL_cheques_213 (by decide) ?_
                                      refine lv_icmp_ne (tgt := 459) hx hb dL_cheques_215 (by decide) (fun c89 => ?_) (fun c89 => ?_)
                                      · have hF := ite_f c89 hF
                                        refine lv_iconst (v := (0 : Int32)) hx hb dL_cheques_459 (by decide) ?_
                                        cases hF
                                        exact nretz (by omega) (by omega) (by decide) hx hb hr hlocks hS dL_cheques_460
                                      · have hF := ite_t c89 hF
                                        refine lv_aload_n hx hb dL_cheques_218 rfl (lv_at hl 0 rfl) ?_
                                        refine lv_iconst (v := (3 : Int32)) hx hb dL_cheques_219 (by decide) ?_
                                        refine lv_bipush (v := (89 : Int32)) hx hb dL_cheques_220 (by decide) ?_
                                        refine lv_iconst (v := (5 : Int32)) hx hb dL_cheques_222 (by decide) ?_
                                        refine lv_iconst (v := (0 : Int32)) hx hb dL_cheques_223 (by decide) ?_
                                        obtain ⟨q90, u91, h92, hF⟩ := bd2_at hF
                                        refine scalli (X' := WS cI cZ cS a u91) (vx_runSW (As := [.ref a.1, .int (3 : Int32), .int (89 : Int32), .int (5 : Int32), .int (0 : Int32)]) (rest := []) S (KT_write l hfl D cI cZ cS cJ a u87 (89 : Int32) (5 : Int32) (0 : Int32) q90 u91 h92) (vx_cwSW 5 hts (gd_SW wd_448 wd_449 wd_21 cwL_call) rfl rfl rfl hdL_call ⟨Nat.le_of_ble_eq_true rfl, Nat.le_of_ble_eq_true rfl⟩) (wPreS hK hX hZ hY hS hP hD) rfl rfl hl.1 rfl (lv_room (Nat.le_of_ble_eq_true rfl)) dL_cheques_224 ⟨(by show cl + 702 ≤ 1471; omega), (by show sl + 4212 ≤ 13003; omega)⟩) hS hD (fun H locs hP hS => ?_)
                                        have hD : va_D A0 (WS cI cZ cS a u91) := WS_D u91 hD
                                        have hP : va_P D vwCl (WS cI cZ cS a u91) H := hP
                                        refine lv_bipush (v := (-11 : Int32)) hx hb dL_cheques_227 (by decide) ?_
                                        refine lv_icmp_ne (tgt := 459) hx hb dL_cheques_229 (by decide) (fun c93 => ?_) (fun c93 => ?_)
                                        · have hF := ite_f c93 hF
                                          refine lv_iconst (v := (0 : Int32)) hx hb dL_cheques_459 (by decide) ?_
                                          cases hF
                                          exact nretz (by omega) (by omega) (by decide) hx hb hr hlocks hS dL_cheques_460
                                        · have hF := ite_t c93 hF
                                          refine lv_aload_n hx hb dL_cheques_232 rfl (lv_at hl 0 rfl) ?_
                                          refine lv_bipush (v := (6 : Int32)) hx hb dL_cheques_233 (by decide) ?_
                                          obtain ⟨k94, q95, h96, hF⟩ := bd2_at hF
                                          obtain ⟨g97, hF⟩ := gd_at hF
                                          rw [g97] at h96
                                          refine rcall (va_runV (As := [.int (6 : Int32)]) (rest := []) S (NS_count l D cI cZ cS cJ a u91 (6 : Int32) q95 h96) (cwV 1 hts (gd_V wd_413 wd_414 wd_415 wd_22 wd_416) rfl rfl rfl hd5_count ⟨Nat.le_of_ble_eq_true rfl, Nat.le_of_ble_eq_true rfl⟩) (rPreV hK hP (ci := 5) (q := (RX5, TX5, 3)) (WS_0 cI cZ cS a u91) rfl) rfl rfl hl.1 rfl (lv_room (Nat.le_of_ble_eq_true rfl)) dL_cheques_235 ⟨(by show cl + 702 ≤ 1471; omega), (by show sl + 4212 ≤ 13003; omega)⟩) ?_
                                          refine lv_sipush (v := (250 : Int32)) hx hb dL_cheques_238 (by decide) ?_
                                          refine lv_icmp_ne (tgt := 459) hx hb dL_cheques_241 (by decide) (fun c98 => ?_) (fun c98 => ?_)
                                          · have hF := ite_f c98 hF
                                            refine lv_iconst (v := (0 : Int32)) hx hb dL_cheques_459 (by decide) ?_
                                            cases hF
                                            exact nretz (by omega) (by omega) (by decide) hx hb hr hlocks hS dL_cheques_460
                                          · have hF := ite_t c98 hF
                                            refine lv_aload_n hx hb dL_cheques_244 rfl (lv_at hl 0 rfl) ?_
                                            refine lv_iconst (v := (0 : Int32)) hx hb dL_cheques_245 (by decide) ?_
                                            obtain ⟨k99, q100, u101, h102, hF⟩ := bd3_at hF
                                            obtain ⟨g103, hF⟩ := gd_at hF
                                            rw [g103] at h102
                                            refine scalli (X' := WS cI cZ cS a u101) (va_runV (As := [.int (0 : Int32)]) (rest := []) S (NS_keep l D cI cZ cS cJ a u91 (0 : Int32) q100 u101 h102) (cwV 1 hts (gd_V wd_384 wd_385 wd_386 wd_22 wd_387) rfl rfl rfl hd5_keep ⟨Nat.le_of_ble_eq_true rfl, Nat.le_of_ble_eq_true rfl⟩) (uPreV hK hP hD (ci := 5) (q := (RX5, TX5, 3)) (WS_0 cI cZ cS a u91) rfl) rfl rfl hl.1 rfl (lv_room (Nat.le_of_ble_eq_true rfl)) dL_cheques_246 ⟨(by show cl + 702 ≤ 1471; omega), (by show sl + 4212 ≤ 13003; omega)⟩) hS hD (fun H locs hP hS => ?_)
                                            have hD : va_D A0 (WS cI cZ cS a u101) := WS_D u101 hD
                                            have hP : va_P D vwCl (WS cI cZ cS a u101) H := hP
                                            refine lv_iconst (v := (4 : Int32)) hx hb dL_cheques_249 (by decide) ?_
                                            refine lv_icmp_ne (tgt := 459) hx hb dL_cheques_250 (by decide) (fun c104 => ?_) (fun c104 => ?_)
                                            · have hF := ite_f c104 hF
                                              refine lv_iconst (v := (0 : Int32)) hx hb dL_cheques_459 (by decide) ?_
                                              cases hF
                                              exact nretz (by omega) (by omega) (by decide) hx hb hr hlocks hS dL_cheques_460
                                            · have hF := ite_t c104 hF
                                              refine lv_aload_n hx hb dL_cheques_253 rfl (lv_at hl 0 rfl) ?_
                                              refine lv_bipush (v := (100 : Int32)) hx hb dL_cheques_254 (by decide) ?_
                                              refine lv_iconst (v := (5 : Int32)) hx hb dL_cheques_256 (by decide) ?_
                                              obtain ⟨k105, q106, u107, h108, hF⟩ := bd3_at hF
                                              obtain ⟨g109, hF⟩ := gd_at hF
                                              rw [g109] at h108
                                              refine scalli (X' := WS cI cZ cS a u107) (va_runV (As := [.int (100 : Int32), .int (5 : Int32)]) (rest := []) S (NS_cash l D cI cZ cS cJ a u101 (100 : Int32) (5 : Int32) q106 u107 h108) (cwV 2 hts (gd_V wd_343 wd_344 wd_345 wd_22 wd_346) rfl rfl rfl hd5_cash ⟨Nat.le_of_ble_eq_true rfl, Nat.le_of_ble_eq_true rfl⟩) (uPreV hK hP hD (ci := 5) (q := (RX5, TX5, 3)) (WS_0 cI cZ cS a u101) rfl) rfl rfl hl.1 rfl (lv_room (Nat.le_of_ble_eq_true rfl)) dL_cheques_257 ⟨(by show cl + 702 ≤ 1471; omega), (by show sl + 4212 ≤ 13003; omega)⟩) hS hD (fun H locs hP hS => ?_)
                                              have hD : va_D A0 (WS cI cZ cS a u107) := WS_D u107 hD
                                              have hP : va_P D vwCl (WS cI cZ cS a u107) H := hP
                                              refine lv_iconst (v := (-1 : Int32)) hx hb dL_cheques_260 (by decide) ?_
                                              refine lv_icmp_ne (tgt := 459) hx hb dL_cheques_261 (by decide) (fun c110 => ?_) (fun c110 => ?_)
                                              · have hF := ite_f c110 hF
                                                refine lv_iconst (v := (0 : Int32)) hx hb dL_cheques_459 (by decide) ?_
                                                cases hF
                                                exact nretz (by omega) (by omega) (by decide) hx hb hr hlocks hS dL_cheques_460
                                              · have hF := ite_t c110 hF
                                                refine lv_aload_n hx hb dL_cheques_264 rfl (lv_at hl 0 rfl) ?_
                                                refine lv_bipush (v := (89 : Int32)) hx hb dL_cheques_265 (by decide) ?_
                                                refine lv_bipush (v := (6 : Int32)) hx hb dL_cheques_267 (by decide) ?_
                                                obtain ⟨k111, q112, u113, h114, hF⟩ := bd3_at hF
                                                obtain ⟨g115, hF⟩ := gd_at hF
                                                rw [g115] at h114
                                                refine scalli (X' := WS cI cZ cS a u113) (va_runV (As := [.int (89 : Int32), .int (6 : Int32)]) (rest := []) S (NS_cash l D cI cZ cS cJ a u107 (89 : Int32) (6 : Int32) q112 u113 h114) (cwV 2 hts (gd_V wd_343 wd_344 wd_345 wd_22 wd_346) rfl rfl rfl hd5_cash ⟨Nat.le_of_ble_eq_true rfl, Nat.le_of_ble_eq_true rfl⟩) (uPreV hK hP hD (ci := 5) (q := (RX5, TX5, 3)) (WS_0 cI cZ cS a u107) rfl) rfl rfl hl.1 rfl (lv_room (Nat.le_of_ble_eq_true rfl)) dL_cheques_269 ⟨(by show cl + 702 ≤ 1471; omega), (by show sl + 4212 ≤ 13003; omega)⟩) hS hD (fun H locs hP hS => ?_)
                                                have hD : va_D A0 (WS cI cZ cS a u113) := WS_D u113 hD
                                                have hP : va_P D vwCl (WS cI cZ cS a u113) H := hP
                                                refine lv_bipush (v := (-2 : Int32)) hx hb dL_cheques_272 (by decide) ?_
                                                refine lv_icmp_ne (tgt := 459) hx hb dL_cheques_274 (by decide) (fun c116 => ?_) (fun c116 => ?_)
                                                · have hF := ite_f c116 hF
                                                  refine lv_iconst (v := (0 : Int32)) hx hb dL_cheques_459 (by decide) ?_
                                                  cases hF
                                                  exact nretz (by omega) (by omega) (by decide) hx hb hr hlocks hS dL_cheques_460
                                                · have hF := ite_t c116 hF
                                                  refine lv_aload_n hx hb dL_cheques_277 rfl (lv_at hl 0 rfl) ?_
                                                  refine lv_bipush (v := (101 : Int32)) hx hb dL_cheques_278 (by decide) ?_
                                                  refine lv_bipush (v := (10 : Int32)) hx hb dL_cheques_280 (by decide) ?_
                                                  obtain ⟨k117, q118, u119, h120, hF⟩ := bd3_at hF
                                                  obtain ⟨g121, hF⟩ := gd_at hF
                                                  rw [g121] at h120
                                                  refine scalli (X' := WS cI cZ cS a u119) (va_runV (As := [.int (101 : Int32), .int (10 : Int32)]) (rest := []) S (NS_cash l D cI cZ cS cJ a u113 (101 : Int32) (10 : Int32) q118 u119 h120) (cwV 2 hts (gd_V wd_343 wd_344 wd_345 wd_22 wd_346) rfl rfl rfl hd5_cash ⟨Nat.le_of_ble_eq_true rfl, Nat.le_of_ble_eq_true rfl⟩) (uPreV hK hP hD (ci := 5) (q := (RX5, TX5, 3)) (WS_0 cI cZ cS a u113) rfl) rfl rfl hl.1 rfl (lv_room (Nat.le_of_ble_eq_true rfl)) dL_cheques_282 ⟨(by show cl + 702 ≤ 1471; omega), (by show sl + 4212 ≤ 13003; omega)⟩) hS hD (fun H locs hP hS => ?_)
                                                  have hD : va_D A0 (WS cI cZ cS a u119) := WS_D u119 hD
                                                  have hP : va_P D vwCl (WS cI cZ cS a u119) H := hP
                                                  refine lv_bipush (v := (-3 : Int32)) hx hb dL_cheques_285 (by decide) ?_
                                                  refine lv_icmp_ne (tgt := 459) hx hb dL_cheques_287 (by decide) (fun c122 => ?_) (fun c122 => ?_)
                                                  · have hF := ite_f c122 hF
                                                    refine lv_iconst (v := (0 : Int32)) hx hb dL_cheques_459 (by decide) ?_
                                                    cases hF
                                                    exact nretz (by omega) (by omega) (by decide) hx hb hr hlocks hS dL_cheques_460
                                                  · have hF := ite_t c122 hF
                                                    refine lv_aload_n hx hb dL_cheques_290 rfl (lv_at hl 0 rfl) ?_
                                                    refine lv_bipush (v := (100 : Int32)) hx hb dL_cheques_291 (by decide) ?_
                                                    refine lv_iconst (v := (4 : Int32)) hx hb dL_cheques_293 (by decide) ?_
                                                    obtain ⟨k123, q124, u125, h126, hF⟩ := bd3_at hF
                                                    obtain ⟨g127, hF⟩ := gd_at hF
                                                    rw [g127] at h126
                                                    refine scalli (X' := WS cI cZ cS a u125) (va_runV (As := [.int (100 : Int32), .int (4 : Int32)]) (rest := []) S (NS_cash l D cI cZ cS cJ a u119 (100 : Int32) (4 : Int32) q124 u125 h126) (cwV 2 hts (gd_V wd_343 wd_344 wd_345 wd_22 wd_346) rfl rfl rfl hd5_cash ⟨Nat.le_of_ble_eq_true rfl, Nat.le_of_ble_eq_true rfl⟩) (uPreV hK hP hD (ci := 5) (q := (RX5, TX5, 3)) (WS_0 cI cZ cS a u119) rfl) rfl rfl hl.1 rfl (lv_room (Nat.le_of_ble_eq_true rfl)) dL_cheques_294 ⟨(by show cl + 702 ≤ 1471; omega), (by show sl + 4212 ≤ 13003; omega)⟩) hS hD (fun H locs hP hS => ?_)
                                                    have hD : va_D A0 (WS cI cZ cS a u125) := WS_D u125 hD
                                                    have hP : va_P D vwCl (WS cI cZ cS a u125) H := hP
                                                    refine lv_sipush (v := (250 : Int32)) hx hb dL_cheques_297 (by decide) ?_
                                                    refine lv_icmp_ne (tgt := 459) hx hb dL_cheques_300 (by decide) (fun c128 => ?_) (fun c128 => ?_)
                                                    · have hF := ite_f c128 hF
                                                      refine lv_iconst (v := (0 : Int32)) hx hb dL_cheques_459 (by decide) ?_
                                                      cases hF
                                                      exact nretz (by omega) (by omega) (by decide) hx hb hr hlocks hS dL_cheques_460
                                                    · have hF := ite_t c128 hF
                                                      refine lv_aload_n hx hb dL_cheques_303 rfl (lv_at hl 0 rfl) ?_
                                                      refine lv_bipush (v := (100 : Int32)) hx hb dL_cheques_304 (by decide) ?_
                                                      refine lv_iconst (v := (4 : Int32)) hx hb dL_cheques_306 (by decide) ?_
                                                      obtain ⟨k129, q130, u131, h132, hF⟩ := bd3_at hF
                                                      obtain ⟨g133, hF⟩ := gd_at hF
                                                      rw [g133] at h132
                                                      refine scalli (X' := WS cI cZ cS a u131) (va_runV (As := [.int (100 : Int32), .int (4 : Int32)]) (rest := []) S (NS_cash l D cI cZ cS cJ a u125 (100 : Int32) (4 : Int32) q130 u131 h132) (cwV 2 hts (gd_V wd_343 wd_344 wd_345 wd_22 wd_346) rfl rfl rfl hd5_cash ⟨Nat.le_of_ble_eq_true rfl, Nat.le_of_ble_eq_true rfl⟩) (uPreV hK hP hD (ci := 5) (q := (RX5, TX5, 3)) (WS_0 cI cZ cS a u125) rfl) rfl rfl hl.1 rfl (lv_room (Nat.le_of_ble_eq_true rfl)) dL_cheques_307 ⟨(by show cl + 702 ≤ 1471; omega), (by show sl + 4212 ≤ 13003; omega)⟩) hS hD (fun H locs hP hS => ?_)
                                                      have hD : va_D A0 (WS cI cZ cS a u131) := WS_D u131 hD
                                                      have hP : va_P D vwCl (WS cI cZ cS a u131) H := hP
                                                      refine lv_bipush (v := (-3 : Int32)) hx hb dL_cheques_310 (by decide) ?_
                                                      refine lv_icmp_ne (tgt := 459) hx hb dL_cheques_312 (by decide) (fun c134 => ?_) (fun c134 => ?_)
                                                      · have hF := ite_f c134 hF
                                                        refine lv_iconst (v := (0 : Int32)) hx hb dL_cheques_459 (by decide) ?_
                                                        cases hF
                                                        exact nretz (by omega) (by omega) (by decide) hx hb hr hlocks hS dL_cheques_460
                                                      · have hF := ite_t c134 hF
                                                        refine lv_aload_n hx hb dL_cheques_315 rfl (lv_at hl 0 rfl) ?_
                                                        refine lv_bipush (v := (8 : Int32)) hx hb dL_cheques_316 (by decide) ?_
                                                        obtain ⟨k135, q136, h137, hF⟩ := bd2_at hF
                                                        obtain ⟨g138, hF⟩ := gd_at hF
                                                        rw [g138] at h137
                                                        refine rcall (va_runV (As := [.int (8 : Int32)]) (rest := []) S (NS_count l D cI cZ cS cJ a u131 (8 : Int32) q136 h137) (cwV 1 hts (gd_V wd_413 wd_414 wd_415 wd_22 wd_416) rfl rfl rfl hd5_count ⟨Nat.le_of_ble_eq_true rfl, Nat.le_of_ble_eq_true rfl⟩) (rPreV hK hP (ci := 5) (q := (RX5, TX5, 3)) (WS_0 cI cZ cS a u131) rfl) rfl rfl hl.1 rfl (lv_room (Nat.le_of_ble_eq_true rfl)) dL_cheques_318 ⟨(by show cl + 702 ≤ 1471; omega), (by show sl + 4212 ≤ 13003; omega)⟩) ?_
                                                        refine lv_iconst (v := (4 : Int32)) hx hb dL_cheques_321 (by decide) ?_
                                                        refine lv_icmp_ne (tgt := 459) hx hb dL_cheques_322 (by decide) (fun c139 => ?_) (fun c139 => ?_)
                                                        · have hF := ite_f c139 hF
                                                          refine lv_iconst (v := (0 : Int32)) hx hb dL_cheques_459 (by decide) ?_
                                                          cases hF
                                                          exact nretz (by omega) (by omega) (by decide) hx hb hr hlocks hS dL_cheques_460
                                                        · have hF := ite_t c139 hF
                                                          refine lv_aload_n hx hb dL_cheques_325 rfl (lv_at hl 0 rfl) ?_
                                                          refine lv_bipush (v := (7 : Int32)) hx hb dL_cheques_326 (by decide) ?_
                                                          obtain ⟨k140, q141, h142, hF⟩ := bd2_at hF
                                                          obtain ⟨g143, hF⟩ := gd_at hF
                                                          rw [g143] at h142
                                                          refine rcall (va_runV (As := [.int (7 : Int32)]) (rest := []) S (NS_count l D cI cZ cS cJ a u131 (7 : Int32) q141 h142) (cwV 1 hts (gd_V wd_413 wd_414 wd_415 wd_22 wd_416) rfl rfl rfl hd5_count ⟨Nat.le_of_ble_eq_true rfl, Nat.le_of_ble_eq_true rfl⟩) (rPreV hK hP (ci := 5) (q := (RX5, TX5, 3)) (WS_0 cI cZ cS a u131) rfl) rfl rfl hl.1 rfl (lv_room (Nat.le_of_ble_eq_true rfl)) dL_cheques_328 ⟨(by show cl + 702 ≤ 1471; omega), (by show sl + 4212 ≤ 13003; omega)⟩) ?_
                                                          refine lv_sipush (v := (250 : Int32)) hx hb dL_cheques_331 (by decide) ?_
                                                          refine lv_icmp_ne (tgt := 459) hx hb dL_cheques_334 (by decide) (fun c144 => ?_) (fun c144 => ?_)
                                                          · have hF := ite_f c144 hF
                                                            refine lv_iconst (v := (0 : Int32)) hx hb dL_cheques_459 (by decide) ?_
                                                            cases hF
                                                            exact nretz (by omega) (by omega) (by decide) hx hb hr hlocks hS dL_cheques_460
                                                          · have hF := ite_t c144 hF
                                                            refine lv_aload_n hx hb dL_cheques_337 rfl (lv_at hl 0 rfl) ?_
                                                            refine lv_bipush (v := (6 : Int32)) hx hb dL_cheques_338 (by decide) ?_
                                                            obtain ⟨k145, q146, h147, hF⟩ := bd2_at hF
                                                            obtain ⟨g148, hF⟩ := gd_at hF
                                                            rw [g148] at h147
                                                            refine rcall (va_runV (As := [.int (6 : Int32)]) (rest := []) S (NS_count l D cI cZ cS cJ a u131 (6 : Int32) q146 h147) (cwV 1 hts (gd_V wd_413 wd_414 wd_415 wd_22 wd_416) rfl rfl rfl hd5_count ⟨Nat.le_of_ble_eq_true rfl, Nat.le_of_ble_eq_true rfl⟩) (rPreV hK hP (ci := 5) (q := (RX5, TX5, 3)) (WS_0 cI cZ cS a u131) rfl) rfl rfl hl.1 rfl (lv_room (Nat.le_of_ble_eq_true rfl)) dL_cheques_340 ⟨(by show cl + 702 ≤ 1471; omega), (by show sl + 4212 ≤ 13003; omega)⟩) ?_
                                                            refine lv_if_ne (tgt := 459) hx hb dL_cheques_343 (by decide) (fun c149 => ?_) (fun c149 => ?_)
                                                            · have hF := ite_f c149 hF
                                                              refine lv_iconst (v := (0 : Int32)) hx hb dL_cheques_459 (by decide) ?_
                                                              cases hF
                                                              exact nretz (by omega) (by omega) (by decide) hx hb hr hlocks hS dL_cheques_460
                                                            · have hF := ite_t c149 hF
                                                              refine lv_aload_n hx hb dL_cheques_346 rfl (lv_at hl 0 rfl) ?_
                                                              refine lv_iconst (v := (4 : Int32)) hx hb dL_cheques_347 (by decide) ?_
                                                              obtain ⟨k150, q151, h152, hF⟩ := bd2_at hF
                                                              obtain ⟨g153, hF⟩ := gd_at hF
                                                              rw [g153] at h152
                                                              refine rcall (va_runV (As := [.int (4 : Int32)]) (rest := []) S (NS_count l D cI cZ cS cJ a u131 (4 : Int32) q151 h152) (cwV 1 hts (gd_V wd_413 wd_414 wd_415 wd_22 wd_416) rfl rfl rfl hd5_count ⟨Nat.le_of_ble_eq_true rfl, Nat.le_of_ble_eq_true rfl⟩) (rPreV hK hP (ci := 5) (q := (RX5, TX5, 3)) (WS_0 cI cZ cS a u131) rfl) rfl rfl hl.1 rfl (lv_room (Nat.le_of_ble_eq_true rfl)) dL_cheques_348 ⟨(by show cl + 702 ≤ 1471; omega), (by show sl + 4212 ≤ 13003; omega)⟩) ?_
                                                              refine lv_iconst (v := (1 : Int32)) hx hb dL_cheques_351 (by decide) ?_
                                                              refine lv_icmp_ne (tgt := 459) hx hb dL_cheques_352 (by decide) (fun c154 => ?_) (fun c154 => ?_)
                                                              · have hF := ite_f c154 hF
                                                                refine lv_iconst (v := (0 : Int32)) hx hb dL_cheques_459 (by decide) ?_
                                                                cases hF
                                                                exact nretz (by omega) (by omega) (by decide) hx hb hr hlocks hS dL_cheques_460
                                                              · have hF := ite_t c154 hF
                                                                refine lv_aload_n hx hb dL_cheques_355 rfl (lv_at hl 0 rfl) ?_
                                                                refine lv_bipush (v := (100 : Int32)) hx hb dL_cheques_356 (by decide) ?_
                                                                refine lv_iconst (v := (0 : Int32)) hx hb dL_cheques_358 (by decide) ?_
                                                                obtain ⟨k155, q156, h157, hF⟩ := bd2_at hF
                                                                obtain ⟨g158, hF⟩ := gd_at hF
                                                                rw [g158] at h157
                                                                refine rcall (va_runV (As := [.int (100 : Int32), .int (0 : Int32)]) (rest := []) S (NS_cheque l D cI cZ cS cJ a u131 (100 : Int32) (0 : Int32) q156 h157) (cwV 2 hts (gd_V wd_572 wd_573 wd_574 wd_22 wd_575) rfl rfl rfl hd5_cheque ⟨Nat.le_of_ble_eq_true rfl, Nat.le_of_ble_eq_true rfl⟩) (rPreV hK hP (ci := 5) (q := (RX5, TX5, 3)) (WS_0 cI cZ cS a u131) rfl) rfl rfl hl.1 rfl (lv_room (Nat.le_of_ble_eq_true rfl)) dL_cheques_359 ⟨(by show cl + 702 ≤ 1471; omega), (by show sl + 4212 ≤ 13003; omega)⟩) ?_
                                                                refine lv_iconst (v := (2 : Int32)) hx hb dL_cheques_362 (by decide) ?_
                                                                refine lv_icmp_ne (tgt := 459) hx hb dL_cheques_363 (by decide) (fun c159 => ?_) (fun c159 => ?_)
                                                                · have hF := ite_f c159 hF
                                                                  refine lv_iconst (v := (0 : Int32)) hx hb dL_cheques_459 (by decide) ?_
                                                                  cases hF
                                                                  exact nretz (by omega) (by omega) (by decide) hx hb hr hlocks hS dL_cheques_460
                                                                · have hF := ite_t c159 hF
                                                                  refine lv_aload_n hx hb dL_cheques_366 rfl (lv_at hl 0 rfl) ?_
                                                                  refine lv_bipush (v := (100 : Int32)) hx hb dL_cheques_367 (by decide) ?_
                                                                  refine lv_iconst (v := (1 : Int32)) hx hb dL_cheques_369 (by decide) ?_
                                                                  obtain ⟨k160, q161, h162, hF⟩ := bd2_at hF
                                                                  obtain ⟨g163, hF⟩ := gd_at hF
                                                                  rw [g163] at h162
                                                                  refine rcall (va_runV (As := [.int (100 : Int32), .int (1 : Int32)]) (rest := []) S (NS_cheque l D cI cZ cS cJ a u131 (100 : Int32) (1 : Int32) q161 h162) (cwV 2 hts (gd_V wd_572 wd_573 wd_574 wd_22 wd_575) rfl rfl rfl hd5_cheque ⟨Nat.le_of_ble_eq_true rfl, Nat.le_of_ble_eq_true rfl⟩) (rPreV hK hP (ci := 5) (q := (RX5, TX5, 3)) (WS_0 cI cZ cS a u131) rfl) rfl rfl hl.1 rfl (lv_room (Nat.le_of_ble_eq_true rfl)) dL_cheques_370 ⟨(by show cl + 702 ≤ 1471; omega), (by show sl + 4212 ≤ 13003; omega)⟩) ?_
                                                                  refine lv_sipush (v := (250 : Int32)) hx hb dL_cheques_373 (by decide) ?_
                                                                  refine lv_icmp_ne (tgt := 459) hx hb dL_cheques_376 (by decide) (fun c164 => ?_) (fun c164 => ?_)
                                                                  · have hF := ite_f c164 hF
                                                                    refine lv_iconst (v := (0 : Int32)) hx hb dL_cheques_459 (by decide) ?_
                                                                    cases hF
                                                                    exact nretz (by omega) (by omega) (by decide) hx hb hr hlocks hS dL_cheques_460
                                                                  · have hF := ite_t c164 hF
                                                                    refine lv_aload_n hx hb dL_cheques_379 rfl (lv_at hl 0 rfl) ?_
                                                                    refine lv_bipush (v := (101 : Int32)) hx hb dL_cheques_380 (by decide) ?_
                                                                    refine lv_iconst (v := (4 : Int32)) hx hb dL_cheques_382 (by decide) ?_
                                                                    obtain ⟨k165, q166, h167, hF⟩ := bd2_at hF
                                                                    obtain ⟨g168, hF⟩ := gd_at hF
                                                                    rw [g168] at h167
                                                                    refine rcall (va_runV (As := [.int (101 : Int32), .int (4 : Int32)]) (rest := []) S (NS_cheque l D cI cZ cS cJ a u131 (101 : Int32) (4 : Int32) q166 h167) (cwV 2 hts (gd_V wd_572 wd_573 wd_574 wd_22 wd_575) rfl rfl rfl hd5_cheque ⟨Nat.le_of_ble_eq_true rfl, Nat.le_of_ble_eq_true rfl⟩) (rPreV hK hP (ci := 5) (q := (RX5, TX5, 3)) (WS_0 cI cZ cS a u131) rfl) rfl rfl hl.1 rfl (lv_room (Nat.le_of_ble_eq_true rfl)) dL_cheques_383 ⟨(by show cl + 702 ≤ 1471; omega), (by show sl + 4212 ≤ 13003; omega)⟩) ?_
                                                                    refine lv_iconst (v := (4 : Int32)) hx hb dL_cheques_386 (by decide) ?_
                                                                    refine lv_icmp_ne (tgt := 459) hx hb dL_cheques_387 (by decide) (fun c169 => ?_) (fun c169 => ?_)
                                                                    · have hF := ite_f c169 hF
                                                                      refine lv_iconst (v := (0 : Int32)) hx hb dL_cheques_459 (by decide) ?_
                                                                      cases hF
                                                                      exact nretz (by omega) (by omega) (by decide) hx hb hr hlocks hS dL_cheques_460
                                                                    · have hF := ite_t c169 hF
                                                                      refine lv_aload_n hx hb dL_cheques_390 rfl (lv_at hl 0 rfl) ?_
                                                                      refine lv_bipush (v := (100 : Int32)) hx hb dL_cheques_391 (by decide) ?_
                                                                      refine lv_iconst (v := (4 : Int32)) hx hb dL_cheques_393 (by decide) ?_
                                                                      obtain ⟨k170, q171, h172, hF⟩ := bd2_at hF
                                                                      obtain ⟨g173, hF⟩ := gd_at hF
                                                                      rw [g173] at h172
                                                                      refine rcall (va_runV (As := [.int (100 : Int32), .int (4 : Int32)]) (rest := []) S (NS_cheque l D cI cZ cS cJ a u131 (100 : Int32) (4 : Int32) q171 h172) (cwV 2 hts (gd_V wd_572 wd_573 wd_574 wd_22 wd_575) rfl rfl rfl hd5_cheque ⟨Nat.le_of_ble_eq_true rfl, Nat.le_of_ble_eq_true rfl⟩) (rPreV hK hP (ci := 5) (q := (RX5, TX5, 3)) (WS_0 cI cZ cS a u131) rfl) rfl rfl hl.1 rfl (lv_room (Nat.le_of_ble_eq_true rfl)) dL_cheques_394 ⟨(by show cl + 702 ≤ 1471; omega), (by show sl + 4212 ≤ 13003; omega)⟩) ?_
                                                                      refine lv_iconst (v := (1 : Int32)) hx hb dL_cheques_397 (by decide) ?_
                                                                      refine lv_icmp_ne (tgt := 459) hx hb dL_cheques_398 (by decide) (fun c174 => ?_) (fun c174 => ?_)
                                                                      · have hF := ite_f c174 hF
                                                                        refine lv_iconst (v := (0 : Int32)) hx hb dL_cheques_459 (by decide) ?_
                                                                        cases hF
                                                                        exact nretz (by omega) (by omega) (by decide) hx hb hr hlocks hS dL_cheques_460
                                                                      · have hF := ite_t c174 hF
                                                                        refine lv_aload_n hx hb dL_cheques_401 rfl (lv_at hl 0 rfl) ?_
                                                                        refine lv_bipush (v := (99 : Int32)) hx hb dL_cheques_402 (by decide) ?_
                                                                        refine lv_iconst (v := (3 : Int32)) hx hb dL_cheques_404 (by decide) ?_
                                                                        obtain ⟨k175, q176, h177, hF⟩ := bd2_at hF
                                                                        obtain ⟨g178, hF⟩ := gd_at hF
                                                                        rw [g178] at h177
                                                                        refine rcall (va_runV (As := [.int (99 : Int32), .int (3 : Int32)]) (rest := []) S (NS_cheque l D cI cZ cS cJ a u131 (99 : Int32) (3 : Int32) q176 h177) (cwV 2 hts (gd_V wd_572 wd_573 wd_574 wd_22 wd_575) rfl rfl rfl hd5_cheque ⟨Nat.le_of_ble_eq_true rfl, Nat.le_of_ble_eq_true rfl⟩) (rPreV hK hP (ci := 5) (q := (RX5, TX5, 3)) (WS_0 cI cZ cS a u131) rfl) rfl rfl hl.1 rfl (lv_room (Nat.le_of_ble_eq_true rfl)) dL_cheques_405 ⟨(by show cl + 702 ≤ 1471; omega), (by show sl + 4212 ≤ 13003; omega)⟩) ?_
                                                                        refine lv_bipush (v := (9 : Int32)) hx hb dL_cheques_408 (by decide) ?_
                                                                        refine lv_icmp_ne (tgt := 459) hx hb dL_cheques_410 (by decide) (fun c179 => ?_) (fun c179 => ?_)
                                                                        · have hF := ite_f c179 hF
                                                                          refine lv_iconst (v := (0 : Int32)) hx hb dL_cheques_459 (by decide) ?_
                                                                          cases hF
                                                                          exact nretz (by omega) (by omega) (by decide) hx hb hr hlocks hS dL_cheques_460
                                                                        · have hF := ite_t c179 hF
                                                                          refine lv_aload_n hx hb dL_cheques_413 rfl (lv_at hl 0 rfl) ?_
                                                                          refine lv_bipush (v := (99 : Int32)) hx hb dL_cheques_414 (by decide) ?_
                                                                          refine lv_iconst (v := (4 : Int32)) hx hb dL_cheques_416 (by decide) ?_
                                                                          obtain ⟨k180, q181, h182, hF⟩ := bd2_at hF
                                                                          obtain ⟨g183, hF⟩ := gd_at hF
                                                                          rw [g183] at h182
                                                                          refine rcall (va_runV (As := [.int (99 : Int32), .int (4 : Int32)]) (rest := []) S (NS_cheque l D cI cZ cS cJ a u131 (99 : Int32) (4 : Int32) q181 h182) (cwV 2 hts (gd_V wd_572 wd_573 wd_574 wd_22 wd_575) rfl rfl rfl hd5_cheque ⟨Nat.le_of_ble_eq_true rfl, Nat.le_of_ble_eq_true rfl⟩) (rPreV hK hP (ci := 5) (q := (RX5, TX5, 3)) (WS_0 cI cZ cS a u131) rfl) rfl rfl hl.1 rfl (lv_room (Nat.le_of_ble_eq_true rfl)) dL_cheques_417 ⟨(by show cl + 702 ≤ 1471; omega), (by show sl + 4212 ≤ 13003; omega)⟩) ?_
                                                                          refine lv_iconst (v := (1 : Int32)) hx hb dL_cheques_420 (by decide) ?_
                                                                          refine lv_icmp_ne (tgt := 459) hx hb dL_cheques_421 (by decide) (fun c184 => ?_) (fun c184 => ?_)
                                                                          · have hF := ite_f c184 hF
                                                                            refine lv_iconst (v := (0 : Int32)) hx hb dL_cheques_459 (by decide) ?_
                                                                            cases hF
                                                                            exact nretz (by omega) (by omega) (by decide) hx hb hr hlocks hS dL_cheques_460
                                                                          · have hF := ite_t c184 hF
                                                                            refine lv_aload_n hx hb dL_cheques_424 rfl (lv_at hl 0 rfl) ?_
                                                                            refine lv_iconst (v := (0 : Int32)) hx hb dL_cheques_425 (by decide) ?_
                                                                            refine lv_bipush (v := (8 : Int32)) hx hb dL_cheques_426 (by decide) ?_
                                                                            obtain ⟨k185, q186, h187, hF⟩ := bd2_at hF
                                                                            obtain ⟨g188, hF⟩ := gd_at hF
                                                                            rw [g188] at h187
                                                                            refine rcall (va_runV (As := [.int (0 : Int32), .int (8 : Int32)]) (rest := []) S (NS_bookOf l D cI cZ cS cJ a u131 (0 : Int32) (8 : Int32) q186 h187) (cwV 2 hts (gd_V wd_583 wd_584 wd_585 wd_22 wd_586) rfl rfl rfl hd5_bookOf ⟨Nat.le_of_ble_eq_true rfl, Nat.le_of_ble_eq_true rfl⟩) (rPreV hK hP (ci := 5) (q := (RX5, TX5, 3)) (WS_0 cI cZ cS a u131) rfl) rfl rfl hl.1 rfl (lv_room (Nat.le_of_ble_eq_true rfl)) dL_cheques_428 ⟨(by show cl + 702 ≤ 1471; omega), (by show sl + 4212 ≤ 13003; omega)⟩) ?_
                                                                            refine lv_bipush (v := (101 : Int32)) hx hb dL_cheques_431 (by decide) ?_
                                                                            refine lv_icmp_ne (tgt := 459) hx hb dL_cheques_433 (by decide) (fun c189 => ?_) (fun c189 => ?_)
                                                                            · have hF := ite_f c189 hF
                                                                              refine lv_iconst (v := (0 : Int32)) hx hb dL_cheques_459 (by decide) ?_
                                                                              cases hF
                                                                              exact nretz (by omega) (by omega) (by decide) hx hb hr hlocks hS dL_cheques_460
                                                                            · have hF := ite_t c189 hF
                                                                              refine lv_aload_n hx hb dL_cheques_436 rfl (lv_at hl 0 rfl) ?_
                                                                              refine lv_iconst (v := (0 : Int32)) hx hb dL_cheques_437 (by decide) ?_
                                                                              refine lv_iconst (v := (4 : Int32)) hx hb dL_cheques_438 (by decide) ?_
                                                                              obtain ⟨k190, q191, h192, hF⟩ := bd2_at hF
                                                                              obtain ⟨g193, hF⟩ := gd_at hF
                                                                              rw [g193] at h192
                                                                              refine rcall (va_runV (As := [.int (0 : Int32), .int (4 : Int32)]) (rest := []) S (NS_bookOf l D cI cZ cS cJ a u131 (0 : Int32) (4 : Int32) q191 h192) (cwV 2 hts (gd_V wd_583 wd_584 wd_585 wd_22 wd_586) rfl rfl rfl hd5_bookOf ⟨Nat.le_of_ble_eq_true rfl, Nat.le_of_ble_eq_true rfl⟩) (rPreV hK hP (ci := 5) (q := (RX5, TX5, 3)) (WS_0 cI cZ cS a u131) rfl) rfl rfl hl.1 rfl (lv_room (Nat.le_of_ble_eq_true rfl)) dL_cheques_439 ⟨(by show cl + 702 ≤ 1471; omega), (by show sl + 4212 ≤ 13003; omega)⟩) ?_
                                                                              refine lv_iconst (v := (1 : Int32)) hx hb dL_cheques_442 (by decide) ?_
                                                                              refine lv_icmp_ne (tgt := 459) hx hb dL_cheques_443 (by decide) (fun c194 => ?_) (fun c194 => ?_)
                                                                              · have hF := ite_f c194 hF
                                                                                refine lv_iconst (v := (0 : Int32)) hx hb dL_cheques_459 (by decide) ?_
                                                                                cases hF
                                                                                exact nretz (by omega) (by omega) (by decide) hx hb hr hlocks hS dL_cheques_460
                                                                              · have hF := ite_t c194 hF
                                                                                refine lv_aload_n hx hb dL_cheques_446 rfl (lv_at hl 0 rfl) ?_
                                                                                refine lv_iconst (v := (0 : Int32)) hx hb dL_cheques_447 (by decide) ?_
                                                                                refine lv_bipush (v := (7 : Int32)) hx hb dL_cheques_448 (by decide) ?_
                                                                                obtain ⟨k195, q196, h197, hF⟩ := bd2_at hF
                                                                                obtain ⟨g198, hF⟩ := gd_at hF
                                                                                rw [g198] at h197
                                                                                refine rcall (va_runV (As := [.int (0 : Int32), .int (7 : Int32)]) (rest := []) S (NS_bookOf l D cI cZ cS cJ a u131 (0 : Int32) (7 : Int32) q196 h197) (cwV 2 hts (gd_V wd_583 wd_584 wd_585 wd_22 wd_586) rfl rfl rfl hd5_bookOf ⟨Nat.le_of_ble_eq_true rfl, Nat.le_of_ble_eq_true rfl⟩) (rPreV hK hP (ci := 5) (q := (RX5, TX5, 3)) (WS_0 cI cZ cS a u131) rfl) rfl rfl hl.1 rfl (lv_room (Nat.le_of_ble_eq_true rfl)) dL_cheques_450 ⟨(by show cl + 702 ≤ 1471; omega), (by show sl + 4212 ≤ 13003; omega)⟩) ?_
                                                                                refine lv_sipush (v := (250 : Int32)) hx hb dL_cheques_453 (by decide) ?_
                                                                                refine lv_icmp_eq (tgt := 461) hx hb dL_cheques_456 (by decide) (fun c199 => ?_) (fun c199 => ?_)
                                                                                · have hF := ite_t c199 hF
                                                                                  refine lv_aload_n hx hb dL_cheques_461 rfl (lv_at hl 0 rfl) ?_
                                                                                  refine lv_bipush (v := (100 : Int32)) hx hb dL_cheques_462 (by decide) ?_
                                                                                  refine lv_iconst (v := (4 : Int32)) hx hb dL_cheques_464 (by decide) ?_
                                                                                  refine lv_iconst (v := (-1 : Int32)) hx hb dL_cheques_465 (by decide) ?_
                                                                                  obtain ⟨k200, q201, h202, hF⟩ := bd2_at hF
                                                                                  obtain ⟨g203, hF⟩ := gd_at hF
                                                                                  rw [g203] at h202
                                                                                  refine rcall (va_runV (As := [.int (100 : Int32), .int (4 : Int32), .int (-1 : Int32)]) (rest := []) S (NS_meant l D cI cZ cS cJ a u131 (100 : Int32) (4 : Int32) (-1 : Int32) q201 h202) (cwV 3 hts (gd_V wd_660 wd_661 wd_662 wd_22 wd_663) rfl rfl rfl hd5_meant ⟨Nat.le_of_ble_eq_true rfl, Nat.le_of_ble_eq_true rfl⟩) (rPreV hK hP (ci := 5) (q := (RX5, TX5, 3)) (WS_0 cI cZ cS a u131) rfl) rfl rfl hl.1 rfl (lv_room (Nat.le_of_ble_eq_true rfl)) dL_cheques_466 ⟨(by show cl + 702 ≤ 1471; omega), (by show sl + 4212 ≤ 13003; omega)⟩) ?_
                                                                                  refine lv_iconst (v := (1 : Int32)) hx hb dL_cheques_469 (by decide) ?_
                                                                                  refine lv_icmp_ne (tgt := 586) hx hb dL_cheques_470 (by decide) (fun c204 => ?_) (fun c204 => ?_)
                                                                                  · have hF := ite_f c204 hF
                                                                                    refine lv_iconst (v := (0 : Int32)) hx hb dL_cheques_586 (by decide) ?_
                                                                                    cases hF
                                                                                    exact nretz (by omega) (by omega) (by decide) hx hb hr hlocks hS dL_cheques_587
                                                                                  · have hF := ite_t c204 hF
                                                                                    refine lv_aload_n hx hb dL_cheques_473 rfl (lv_at hl 0 rfl) ?_
                                                                                    refine lv_bipush (v := (100 : Int32)) hx hb dL_cheques_474 (by decide) ?_
                                                                                    refine lv_iconst (v := (4 : Int32)) hx hb dL_cheques_476 (by decide) ?_
                                                                                    refine lv_iconst (v := (0 : Int32)) hx hb dL_cheques_477 (by decide) ?_
                                                                                    obtain ⟨k205, q206, h207, hF⟩ := bd2_at hF
                                                                                    obtain ⟨g208, hF⟩ := gd_at hF
                                                                                    rw [g208] at h207
                                                                                    refine rcall (va_runV (As := [.int (100 : Int32), .int (4 : Int32), .int (0 : Int32)]) (rest := []) S (NS_meant l D cI cZ cS cJ a u131 (100 : Int32) (4 : Int32) (0 : Int32) q206 h207) (cwV 3 hts (gd_V wd_660 wd_661 wd_662 wd_22 wd_663) rfl rfl rfl hd5_meant ⟨Nat.le_of_ble_eq_true rfl, Nat.le_of_ble_eq_true rfl⟩) (rPreV hK hP (ci := 5) (q := (RX5, TX5, 3)) (WS_0 cI cZ cS a u131) rfl) rfl rfl hl.1 rfl (lv_room (Nat.le_of_ble_eq_true rfl)) dL_cheques_478 ⟨(by show cl + 702 ≤ 1471; omega), (by show sl + 4212 ≤ 13003; omega)⟩) ?_
                                                                                    refine lv_bipush (v := (100 : Int32)) hx hb dL_cheques_481 (by decide) ?_
                                                                                    refine lv_icmp_ne (tgt := 586) hx hb dL_cheques_483 (by decide) (fun c209 => ?_) (fun c209 => ?_)
                                                                                    · have hF := ite_f c209 hF
                                                                                      refine lv_iconst (v := (0 : Int32)) hx hb dL_cheques_586 (by decide) ?_
                                                                                      cases hF
                                                                                      exact nretz (by omega) (by omega) (by decide) hx hb hr hlocks hS dL_cheques_587
                                                                                    · have hF := ite_t c209 hF
                                                                                      refine lv_aload_n hx hb dL_cheques_486 rfl (lv_at hl 0 rfl) ?_
                                                                                      refine lv_bipush (v := (100 : Int32)) hx hb dL_cheques_487 (by decide) ?_
                                                                                      refine lv_iconst (v := (5 : Int32)) hx hb dL_cheques_489 (by decide) ?_
                                                                                      refine lv_iconst (v := (-1 : Int32)) hx hb dL_cheques_490 (by decide) ?_
                                                                                      obtain ⟨k210, q211, h212, hF⟩ := bd2_at hF
                                                                                      obtain ⟨g213, hF⟩ := gd_at hF
                                                                                      rw [g213] at h212
                                                                                      refine rcall (va_runV (As := [.int (100 : Int32), .int (5 : Int32), .int (-1 : Int32)]) (rest := []) S (NS_meant l D cI cZ cS cJ a u131 (100 : Int32) (5 : Int32) (-1 : Int32) q211 h212) (cwV 3 hts (gd_V wd_660 wd_661 wd_662 wd_22 wd_663) rfl rfl rfl hd5_meant ⟨Nat.le_of_ble_eq_true rfl, Nat.le_of_ble_eq_true rfl⟩) (rPreV hK hP (ci := 5) (q := (RX5, TX5, 3)) (WS_0 cI cZ cS a u131) rfl) rfl rfl hl.1 rfl (lv_room (Nat.le_of_ble_eq_true rfl)) dL_cheques_491 ⟨(by show cl + 702 ≤ 1471; omega), (by show sl + 4212 ≤ 13003; omega)⟩) ?_
                                                                                      refine lv_iconst (v := (2 : Int32)) hx hb dL_cheques_494 (by decide) ?_
                                                                                      refine lv_icmp_ne (tgt := 586) hx hb dL_cheques_495 (by decide) (fun c214 => ?_) (fun c214 => ?_)
                                                                                      · have hF := ite_f c214 hF
                                                                                        refine lv_iconst (v := (0 : Int32)) hx hb dL_cheques_586 (by decide) ?_
                                                                                        cases hF
                                                                                        exact nretz (by omega) (by omega) (by decide) hx hb hr hlocks hS dL_cheques_587
                                                                                      · have hF := ite_t c214 hF
                                                                                        refine lv_aload_n hx hb dL_cheques_498 rfl (lv_at hl 0 rfl) ?_
                                                                                        refine lv_bipush (v := (100 : Int32)) hx hb dL_cheques_499 (by decide) ?_
                                                                                        refine lv_iconst (v := (5 : Int32)) hx hb dL_cheques_501 (by decide) ?_
                                                                                        refine lv_iconst (v := (0 : Int32)) hx hb dL_cheques_502 (by decide) ?_
                                                                                        obtain ⟨k215, q216, h217, hF⟩ := bd2_at hF
                                                                                        obtain ⟨g218, hF⟩ := gd_at hF
                                                                                        rw [g218] at h217
                                                                                        refine rcall (va_runV (As := [.int (100 : Int32), .int (5 : Int32), .int (0 : Int32)]) (rest := []) S (NS_meant l D cI cZ cS cJ a u131 (100 : Int32) (5 : Int32) (0 : Int32) q216 h217) (cwV 3 hts (gd_V wd_660 wd_661 wd_662 wd_22 wd_663) rfl rfl rfl hd5_meant ⟨Nat.le_of_ble_eq_true rfl, Nat.le_of_ble_eq_true rfl⟩) (rPreV hK hP (ci := 5) (q := (RX5, TX5, 3)) (WS_0 cI cZ cS a u131) rfl) rfl rfl hl.1 rfl (lv_room (Nat.le_of_ble_eq_true rfl)) dL_cheques_503 ⟨(by show cl + 702 ≤ 1471; omega), (by show sl + 4212 ≤ 13003; omega)⟩) ?_
                                                                                        refine lv_bipush (v := (100 : Int32)) hx hb dL_cheques_506 (by decide) ?_
                                                                                        refine lv_icmp_ne (tgt := 586) hx hb dL_cheques_508 (by decide) (fun c219 => ?_) (fun c219 => ?_)
                                                                                        · have hF := ite_f c219 hF
                                                                                          refine lv_iconst (v := (0 : Int32)) hx hb dL_cheques_586 (by decide) ?_
                                                                                          cases hF
                                                                                          exact nretz (by omega) (by omega) (by decide) hx hb hr hlocks hS dL_cheques_587
                                                                                        · have hF := ite_t c219 hF
                                                                                          refine lv_aload_n hx hb dL_cheques_511 rfl (lv_at hl 0 rfl) ?_
                                                                                          refine lv_bipush (v := (100 : Int32)) hx hb dL_cheques_512 (by decide) ?_
                                                                                          refine lv_iconst (v := (5 : Int32)) hx hb dL_cheques_514 (by decide) ?_
                                                                                          refine lv_iconst (v := (1 : Int32)) hx hb dL_cheques_515 (by decide) ?_
                                                                                          obtain ⟨k220, q221, h222, hF⟩ := bd2_at hF
                                                                                          obtain ⟨g223, hF⟩ := gd_at hF
                                                                                          rw [g223] at h222
                                                                                          refine rcall (va_runV (As := [.int (100 : Int32), .int (5 : Int32), .int (1 : Int32)]) (rest := []) S (NS_meant l D cI cZ cS cJ a u131 (100 : Int32) (5 : Int32) (1 : Int32) q221 h222) (cwV 3 hts (gd_V wd_660 wd_661 wd_662 wd_22 wd_663) rfl rfl rfl hd5_meant ⟨Nat.le_of_ble_eq_true rfl, Nat.le_of_ble_eq_true rfl⟩) (rPreV hK hP (ci := 5) (q := (RX5, TX5, 3)) (WS_0 cI cZ cS a u131) rfl) rfl rfl hl.1 rfl (lv_room (Nat.le_of_ble_eq_true rfl)) dL_cheques_516 ⟨(by show cl + 702 ≤ 1471; omega), (by show sl + 4212 ≤ 13003; omega)⟩) ?_
                                                                                          refine lv_bipush (v := (102 : Int32)) hx hb dL_cheques_519 (by decide) ?_
                                                                                          refine lv_icmp_ne (tgt := 586) hx hb dL_cheques_521 (by decide) (fun c224 => ?_) (fun c224 => ?_)
                                                                                          · have hF := ite_f c224 hF
                                                                                            refine lv_iconst (v := (0 : Int32)) hx hb dL_cheques_586 (by decide) ?_
                                                                                            cases hF
                                                                                            exact nretz (by omega) (by omega) (by decide) hx hb hr hlocks hS dL_cheques_587
                                                                                          · have hF := ite_t c224 hF
                                                                                            refine lv_aload_n hx hb dL_cheques_524 rfl (lv_at hl 0 rfl) ?_
                                                                                            refine lv_bipush (v := (100 : Int32)) hx hb dL_cheques_525 (by decide) ?_
                                                                                            refine lv_iconst (v := (5 : Int32)) hx hb dL_cheques_527 (by decide) ?_
                                                                                            refine lv_iconst (v := (2 : Int32)) hx hb dL_cheques_528 (by decide) ?_
                                                                                            obtain ⟨k225, q226, h227, hF⟩ := bd2_at hF
                                                                                            obtain ⟨g228, hF⟩ := gd_at hF
                                                                                            rw [g228] at h227
                                                                                            refine rcall (va_runV (As := [.int (100 : Int32), .int (5 : Int32), .int (2 : Int32)]) (rest := []) S (NS_meant l D cI cZ cS cJ a u131 (100 : Int32) (5 : Int32) (2 : Int32) q226 h227) (cwV 3 hts (gd_V wd_660 wd_661 wd_662 wd_22 wd_663) rfl rfl rfl hd5_meant ⟨Nat.le_of_ble_eq_true rfl, Nat.le_of_ble_eq_true rfl⟩) (rPreV hK hP (ci := 5) (q := (RX5, TX5, 3)) (WS_0 cI cZ cS a u131) rfl) rfl rfl hl.1 rfl (lv_room (Nat.le_of_ble_eq_true rfl)) dL_cheques_529 ⟨(by show cl + 702 ≤ 1471; omega), (by show sl + 4212 ≤ 13003; omega)⟩) ?_
                                                                                            refine lv_iconst (v := (-1 : Int32)) hx hb dL_cheques_532 (by decide) ?_
                                                                                            refine lv_icmp_ne (tgt := 586) hx hb dL_cheques_533 (by decide) (fun c229 => ?_) (fun c229 => ?_)
                                                                                            · have hF := ite_f c229 hF
                                                                                              refine lv_iconst (v := (0 : Int32)) hx hb dL_cheques_586 (by decide) ?_
                                                                                              cases hF
                                                                                              exact nretz (by omega) (by omega) (by decide) hx hb hr hlocks hS dL_cheques_587
                                                                                            · have hF := ite_t c229 hF
                                                                                              refine lv_aload_n hx hb dL_cheques_536 rfl (lv_at hl 0 rfl) ?_
                                                                                              refine lv_bipush (v := (9 : Int32)) hx hb dL_cheques_537 (by decide) ?_
                                                                                              refine lv_iconst (v := (1 : Int32)) hx hb dL_cheques_539 (by decide) ?_
                                                                                              refine lv_iconst (v := (-1 : Int32)) hx hb dL_cheques_540 (by decide) ?_
                                                                                              obtain ⟨k230, q231, h232, hF⟩ := bd2_at hF
                                                                                              obtain ⟨g233, hF⟩ := gd_at hF
                                                                                              rw [g233] at h232
                                                                                              refine rcall (va_runV (As := [.int (9 : Int32), .int (1 : Int32), .int (-1 : Int32)]) (rest := []) S (NS_meant l D cI cZ cS cJ a u131 (9 : Int32) (1 : Int32) (-1 : Int32) q231 h232) (cwV 3 hts (gd_V wd_660 wd_661 wd_662 wd_22 wd_663) rfl rfl rfl hd5_meant ⟨Nat.le_of_ble_eq_true rfl, Nat.le_of_ble_eq_true rfl⟩) (rPreV hK hP (ci := 5) (q := (RX5, TX5, 3)) (WS_0 cI cZ cS a u131) rfl) rfl rfl hl.1 rfl (lv_room (Nat.le_of_ble_eq_true rfl)) dL_cheques_541 ⟨(by show cl + 702 ≤ 1471; omega), (by show sl + 4212 ≤ 13003; omega)⟩) ?_
                                                                                              refine lv_iconst (v := (1 : Int32)) hx hb dL_cheques_544 (by decide) ?_
                                                                                              refine lv_icmp_ne (tgt := 586) hx hb dL_cheques_545 (by decide) (fun c234 => ?_) (fun c234 => ?_)
                                                                                              · have hF := ite_f c234 hF
                                                                                                refine lv_iconst (v := (0 : Int32)) hx hb dL_cheques_586 (by decide) ?_
                                                                                                cases hF
                                                                                                exact nretz (by omega) (by omega) (by decide) hx hb hr hlocks hS dL_cheques_587
                                                                                              · have hF := ite_t c234 hF
                                                                                                refine lv_aload_n hx hb dL_cheques_548 rfl (lv_at hl 0 rfl) ?_
                                                                                                refine lv_bipush (v := (9 : Int32)) hx hb dL_cheques_549 (by decide) ?_
                                                                                                refine lv_iconst (v := (1 : Int32)) hx hb dL_cheques_551 (by decide) ?_
                                                                                                refine lv_iconst (v := (0 : Int32)) hx hb dL_cheques_552 (by decide) ?_
                                                                                                obtain ⟨k235, q236, h237, hF⟩ := bd2_at hF
                                                                                                obtain ⟨g238, hF⟩ := gd_at hF
                                                                                                rw [g238] at h237
                                                                                                refine rcall (va_runV (As := [.int (9 : Int32), .int (1 : Int32), .int (0 : Int32)]) (rest := []) S (NS_meant l D cI cZ cS cJ a u131 (9 : Int32) (1 : Int32) (0 : Int32) q236 h237) (cwV 3 hts (gd_V wd_660 wd_661 wd_662 wd_22 wd_663) rfl rfl rfl hd5_meant ⟨Nat.le_of_ble_eq_true rfl, Nat.le_of_ble_eq_true rfl⟩) (rPreV hK hP (ci := 5) (q := (RX5, TX5, 3)) (WS_0 cI cZ cS a u131) rfl) rfl rfl hl.1 rfl (lv_room (Nat.le_of_ble_eq_true rfl)) dL_cheques_553 ⟨(by show cl + 702 ≤ 1471; omega), (by show sl + 4212 ≤ 13003; omega)⟩) ?_
                                                                                                refine lv_bipush (v := (90 : Int32)) hx hb dL_cheques_556 (by decide) ?_
                                                                                                refine lv_icmp_ne (tgt := 586) hx hb dL_cheques_558 (by decide) (fun c239 => ?_) (fun c239 => ?_)
                                                                                                · have hF := ite_f c239 hF
                                                                                                  refine lv_iconst (v := (0 : Int32)) hx hb dL_cheques_586 (by decide) ?_
                                                                                                  cases hF
                                                                                                  exact nretz (by omega) (by omega) (by decide) hx hb hr hlocks hS dL_cheques_587
                                                                                                · have hF := ite_t c239 hF
                                                                                                  refine lv_aload_n hx hb dL_cheques_561 rfl (lv_at hl 0 rfl) ?_
                                                                                                  refine lv_bipush (v := (100 : Int32)) hx hb dL_cheques_562 (by decide) ?_
                                                                                                  refine lv_bipush (v := (11 : Int32)) hx hb dL_cheques_564 (by decide) ?_
                                                                                                  refine lv_iconst (v := (-1 : Int32)) hx hb dL_cheques_566 (by decide) ?_
                                                                                                  obtain ⟨k240, q241, h242, hF⟩ := bd2_at hF
                                                                                                  obtain ⟨g243, hF⟩ := gd_at hF
                                                                                                  rw [g243] at h242
                                                                                                  refine rcall (va_runV (As := [.int (100 : Int32), .int (11 : Int32), .int (-1 : Int32)]) (rest := []) S (NS_meant l D cI cZ cS cJ a u131 (100 : Int32) (11 : Int32) (-1 : Int32) q241 h242) (cwV 3 hts (gd_V wd_660 wd_661 wd_662 wd_22 wd_663) rfl rfl rfl hd5_meant ⟨Nat.le_of_ble_eq_true rfl, Nat.le_of_ble_eq_true rfl⟩) (rPreV hK hP (ci := 5) (q := (RX5, TX5, 3)) (WS_0 cI cZ cS a u131) rfl) rfl rfl hl.1 rfl (lv_room (Nat.le_of_ble_eq_true rfl)) dL_cheques_567 ⟨(by show cl + 702 ≤ 1471; omega), (by show sl + 4212 ≤ 13003; omega)⟩) ?_
                                                                                                  refine lv_if_ne (tgt := 586) hx hb dL_cheques_570 (by decide) (fun c244 => ?_) (fun c244 => ?_)
                                                                                                  · have hF := ite_f c244 hF
                                                                                                    refine lv_iconst (v := (0 : Int32)) hx hb dL_cheques_586 (by decide) ?_
                                                                                                    cases hF
                                                                                                    exact nretz (by omega) (by omega) (by decide) hx hb hr hlocks hS dL_cheques_587
                                                                                                  · have hF := ite_t c244 hF
                                                                                                    refine lv_aload_n hx hb dL_cheques_573 rfl (lv_at hl 0 rfl) ?_
                                                                                                    refine lv_bipush (v := (100 : Int32)) hx hb dL_cheques_574 (by decide) ?_
                                                                                                    refine lv_bipush (v := (25 : Int32)) hx hb dL_cheques_576 (by decide) ?_
                                                                                                    refine lv_iconst (v := (0 : Int32)) hx hb dL_cheques_578 (by decide) ?_
                                                                                                    obtain ⟨k245, q246, h247, hF⟩ := bd2_at hF
                                                                                                    obtain ⟨g248, hF⟩ := gd_at hF
                                                                                                    rw [g248] at h247
                                                                                                    refine rcall (va_runV (As := [.int (100 : Int32), .int (25 : Int32), .int (0 : Int32)]) (rest := []) S (NS_meant l D cI cZ cS cJ a u131 (100 : Int32) (25 : Int32) (0 : Int32) q246 h247) (cwV 3 hts (gd_V wd_660 wd_661 wd_662 wd_22 wd_663) rfl rfl rfl hd5_meant ⟨Nat.le_of_ble_eq_true rfl, Nat.le_of_ble_eq_true rfl⟩) (rPreV hK hP (ci := 5) (q := (RX5, TX5, 3)) (WS_0 cI cZ cS a u131) rfl) rfl rfl hl.1 rfl (lv_room (Nat.le_of_ble_eq_true rfl)) dL_cheques_579 ⟨(by show cl + 702 ≤ 1471; omega), (by show sl + 4212 ≤ 13003; omega)⟩) ?_
                                                                                                    refine lv_iconst (v := (-1 : Int32)) hx hb dL_cheques_582 (by decide) ?_
                                                                                                    refine lv_icmp_eq (tgt := 588) hx hb dL_cheques_583 (by decide) (fun c249 => ?_) (fun c249 => ?_)
                                                                                                    · have hF := ite_t c249 hF
                                                                                                      refine lv_aload_n hx hb dL_cheques_588 rfl (lv_at hl 0 rfl) ?_
                                                                                                      refine lv_bipush (v := (98 : Int32)) hx hb dL_cheques_589 (by decide) ?_
                                                                                                      refine lv_bipush (v := (102 : Int32)) hx hb dL_cheques_591 (by decide) ?_
                                                                                                      obtain ⟨k250, q251, u252, h253, hF⟩ := bd3_at hF
                                                                                                      obtain ⟨g254, hF⟩ := gd_at hF
                                                                                                      rw [g254] at h253
                                                                                                      refine scalli (X' := WS cI cZ cS a u252) (va_runV (As := [.int (98 : Int32), .int (102 : Int32)]) (rest := []) S (NS_voidRun l D cI cZ cS cJ a u131 (98 : Int32) (102 : Int32) q251 u252 h253) (cwV 2 hts (gd_V wd_472 wd_473 wd_474 wd_22 wd_475) rfl rfl rfl hd5_voidRun ⟨Nat.le_of_ble_eq_true rfl, Nat.le_of_ble_eq_true rfl⟩) (uPreV hK hP hD (ci := 5) (q := (RX5, TX5, 3)) (WS_0 cI cZ cS a u131) rfl) rfl rfl hl.1 rfl (lv_room (Nat.le_of_ble_eq_true rfl)) dL_cheques_593 ⟨(by show cl + 702 ≤ 1471; omega), (by show sl + 4212 ≤ 13003; omega)⟩) hS hD (fun H locs hP hS => ?_)
                                                                                                      have hD : va_D A0 (WS cI cZ cS a u252) := WS_D u252 hD
                                                                                                      have hP : va_P D vwCl (WS cI cZ cS a u252) H := hP
                                                                                                      refine lv_iconst (v := (4 : Int32)) hx hb dL_cheques_596 (by decide) ?_
                                                                                                      refine lv_icmp_ne (tgt := 764) hx hb dL_cheques_597 (by decide) (fun c255 => ?_) (fun c255 => ?_)
                                                                                                      · have hF := ite_f c255 hF
                                                                                                        refine lv_iconst (v := (0 : Int32)) hx hb dL_cheques_764 (by decide) ?_
                                                                                                        cases hF
                                                                                                        exact nretz (by omega) (by omega) (by decide) hx hb hr hlocks hS dL_cheques_765
                                                                                                      · have hF := ite_t c255 hF
                                                                                                        refine lv_aload_n hx hb dL_cheques_600 rfl (lv_at hl 0 rfl) ?_
                                                                                                        refine lv_bipush (v := (101 : Int32)) hx hb dL_cheques_601 (by decide) ?_
                                                                                                        refine lv_iconst (v := (4 : Int32)) hx hb dL_cheques_603 (by decide) ?_
                                                                                                        obtain ⟨k256, q257, h258, hF⟩ := bd2_at hF
                                                                                                        obtain ⟨g259, hF⟩ := gd_at hF
                                                                                                        rw [g259] at h258
                                                                                                        refine rcall (va_runV (As := [.int (101 : Int32), .int (4 : Int32)]) (rest := []) S (NS_cheque l D cI cZ cS cJ a u252 (101 : Int32) (4 : Int32) q257 h258) (cwV 2 hts (gd_V wd_572 wd_573 wd_574 wd_22 wd_575) rfl rfl rfl hd5_cheque ⟨Nat.le_of_ble_eq_true rfl, Nat.le_of_ble_eq_true rfl⟩) (rPreV hK hP (ci := 5) (q := (RX5, TX5, 3)) (WS_0 cI cZ cS a u252) rfl) rfl rfl hl.1 rfl (lv_room (Nat.le_of_ble_eq_true rfl)) dL_cheques_604 ⟨(by show cl + 702 ≤ 1471; omega), (by show sl + 4212 ≤ 13003; omega)⟩) ?_
                                                                                                        refine lv_iconst (v := (2 : Int32)) hx hb dL_cheques_607 (by decide) ?_
                                                                                                        refine lv_icmp_ne (tgt := 764) hx hb dL_cheques_608 (by decide) (fun c260 => ?_) (fun c260 => ?_)
                                                                                                        · have hF := ite_f c260 hF
                                                                                                          refine lv_iconst (v := (0 : Int32)) hx hb dL_cheques_764 (by decide) ?_
                                                                                                          cases hF
                                                                                                          exact nretz (by omega) (by omega) (by decide) hx hb hr hlocks hS dL_cheques_765
                                                                                                        · have hF := ite_t c260 hF
                                                                                                          refine lv_aload_n hx hb dL_cheques_611 rfl (lv_at hl 0 rfl) ?_
                                                                                                          refine lv_bipush (v := (98 : Int32)) hx hb dL_cheques_612 (by decide) ?_
                                                                                                          refine lv_iconst (v := (0 : Int32)) hx hb dL_cheques_614 (by decide) ?_
                                                                                                          obtain ⟨k261, q262, h263, hF⟩ := bd2_at hF
                                                                                                          obtain ⟨g264, hF⟩ := gd_at hF
                                                                                                          rw [g264] at h263
                                                                                                          refine rcall (va_runV (As := [.int (98 : Int32), .int (0 : Int32)]) (rest := []) S (NS_cheque l D cI cZ cS cJ a u252 (98 : Int32) (0 : Int32) q262 h263) (cwV 2 hts (gd_V wd_572 wd_573 wd_574 wd_22 wd_575) rfl rfl rfl hd5_cheque ⟨Nat.le_of_ble_eq_true rfl, Nat.le_of_ble_eq_true rfl⟩) (rPreV hK hP (ci := 5) (q := (RX5, TX5, 3)) (WS_0 cI cZ cS a u252) rfl) rfl rfl hl.1 rfl (lv_room (Nat.le_of_ble_eq_true rfl)) dL_cheques_615 ⟨(by show cl + 702 ≤ 1471; omega), (by show sl + 4212 ≤ 13003; omega)⟩) ?_
                                                                                                          refine lv_iconst (v := (3 : Int32)) hx hb dL_cheques_618 (by decide) ?_
                                                                                                          refine lv_icmp_ne (tgt := 764) hx hb dL_cheques_619 (by decide) (fun c265 => ?_) (fun c265 => ?_)
                                                                                                          · have hF := ite_f c265 hF
                                                                                                            refine lv_iconst (v := (0 : Int32)) hx hb dL_cheques_764 (by decide) ?_
                                                                                                            cases hF
                                                                                                            exact nretz (by omega) (by omega) (by decide) hx hb hr hlocks hS dL_cheques_765
                                                                                                          · have hF := ite_t c265 hF
                                                                                                            refine lv_aload_n hx hb dL_cheques_622 rfl (lv_at hl 0 rfl) ?_
                                                                                                            refine lv_iconst (v := (5 : Int32)) hx hb dL_cheques_623 (by decide) ?_
                                                                                                            obtain ⟨k266, q267, h268, hF⟩ := bd2_at hF
                                                                                                            obtain ⟨g269, hF⟩ := gd_at hF
                                                                                                            rw [g269] at h268
                                                                                                            refine rcall (va_runV (As := [.int (5 : Int32)]) (rest := []) S (NS_count l D cI cZ cS cJ a u252 (5 : Int32) q267 h268) (cwV 1 hts (gd_V wd_413 wd_414 wd_415 wd_22 wd_416) rfl rfl rfl hd5_count ⟨Nat.le_of_ble_eq_true rfl, Nat.le_of_ble_eq_true rfl⟩) (rPreV hK hP (ci := 5) (q := (RX5, TX5, 3)) (WS_0 cI cZ cS a u252) rfl) rfl rfl hl.1 rfl (lv_room (Nat.le_of_ble_eq_true rfl)) dL_cheques_624 ⟨(by show cl + 702 ≤ 1471; omega), (by show sl + 4212 ≤ 13003; omega)⟩) ?_
                                                                                                            refine lv_iconst (v := (4 : Int32)) hx hb dL_cheques_627 (by decide) ?_
                                                                                                            refine lv_icmp_ne (tgt := 764) hx hb dL_cheques_628 (by decide) (fun c270 => ?_) (fun c270 => ?_)
                                                                                                            · have hF := ite_f c270 hF
                                                                                                              refine lv_iconst (v := (0 : Int32)) hx hb dL_cheques_764 (by decide) ?_
                                                                                                              cases hF
                                                                                                              exact nretz (by omega) (by omega) (by decide) hx hb hr hlocks hS dL_cheques_765
                                                                                                            · have hF := ite_t c270 hF
                                                                                                              refine lv_aload_n hx hb dL_cheques_631 rfl (lv_at hl 0 rfl) ?_
                                                                                                              refine lv_bipush (v := (98 : Int32)) hx hb dL_cheques_632 (by decide) ?_
                                                                                                              refine lv_bipush (v := (102 : Int32)) hx hb dL_cheques_634 (by decide) ?_
                                                                                                              obtain ⟨k271, q272, u273, h274, hF⟩ := bd3_at hF
                                                                                                              obtain ⟨g275, hF⟩ := gd_at hF
                                                                                                              rw [g275] at h274
                                                                                                              refine scalli (X' := WS cI cZ cS a u273) (va_runV (As := [.int (98 : Int32), .int (102 : Int32)]) (rest := []) S (NS_voidRun l D cI cZ cS cJ a u252 (98 : Int32) (102 : Int32) q272 u273 h274) (cwV 2 hts (gd_V wd_472 wd_473 wd_474 wd_22 wd_475) rfl rfl rfl hd5_voidRun ⟨Nat.le_of_ble_eq_true rfl, Nat.le_of_ble_eq_true rfl⟩) (uPreV hK hP hD (ci := 5) (q := (RX5, TX5, 3)) (WS_0 cI cZ cS a u252) rfl) rfl rfl hl.1 rfl (lv_room (Nat.le_of_ble_eq_true rfl)) dL_cheques_636 ⟨(by show cl + 702 ≤ 1471; omega), (by show sl + 4212 ≤ 13003; omega)⟩) hS hD (fun H locs hP hS => ?_)
                                                                                                              have hD : va_D A0 (WS cI cZ cS a u273) := WS_D u273 hD
                                                                                                              have hP : va_P D vwCl (WS cI cZ cS a u273) H := hP
                                                                                                              refine lv_if_ne (tgt := 764) hx hb dL_cheques_639 (by decide) (fun c276 => ?_) (fun c276 => ?_)
                                                                                                              · have hF := ite_f c276 hF
                                                                                                                refine lv_iconst (v := (0 : Int32)) hx hb dL_cheques_764 (by decide) ?_
                                                                                                                cases hF
                                                                                                                exact nretz (by omega) (by omega) (by decide) hx hb hr hlocks hS dL_cheques_765
                                                                                                              · have hF := ite_t c276 hF
                                                                                                                refine lv_aload_n hx hb dL_cheques_642 rfl (lv_at hl 0 rfl) ?_
                                                                                                                obtain ⟨q277, h278, hF⟩ := bd1_at hF
                                                                                                                refine rcall (va_runV (As := []) (rest := []) S (NS_cashed l D cI cZ cS cJ a u273 q277 h278) (cwV 0 hts (gd_V wd_720 wd_721 wd_722 wd_22 wd_723) rfl rfl rfl hd5_cashed ⟨Nat.le_of_ble_eq_true rfl, Nat.le_of_ble_eq_true rfl⟩) (rPreV hK hP (ci := 5) (q := (RX5, TX5, 3)) (WS_0 cI cZ cS a u273) rfl) rfl rfl hl.1 rfl (lv_room (Nat.le_of_ble_eq_true rfl)) dL_cheques_643 ⟨(by show cl + 702 ≤ 1471; omega), (by show sl + 4212 ≤ 13003; omega)⟩) ?_
                                                                                                                refine lv_ldc2d hx hb hown (hts _ wk_127) dL_cheques_646 ?_
                                                                                                                refine lv_dcmp hx hb dL_cheques_649 ?_
                                                                                                                refine lv_if_ne (tgt := 764) hx hb dL_cheques_650 (by decide) (fun c279 => ?_) (fun c279 => ?_)
                                                                                                                · have hF := ite_f c279 hF
                                                                                                                  refine lv_iconst (v := (0 : Int32)) hx hb dL_cheques_764 (by decide) ?_
                                                                                                                  cases hF
                                                                                                                  exact nretz (by omega) (by omega) (by decide) hx hb hr hlocks hS dL_cheques_765
                                                                                                                · have hF := ite_t c279 hF
                                                                                                                  refine lv_aload_n hx hb dL_cheques_653 rfl (lv_at hl 0 rfl) ?_
                                                                                                                  refine lv_iconst (v := (3 : Int32)) hx hb dL_cheques_654 (by decide) ?_
                                                                                                                  refine lv_bipush (v := (101 : Int32)) hx hb dL_cheques_655 (by decide) ?_
                                                                                                                  refine lv_iconst (v := (5 : Int32)) hx hb dL_cheques_657 (by decide) ?_
                                                                                                                  refine lv_iconst (v := (0 : Int32)) hx hb dL_cheques_658 (by decide) ?_
                                                                                                                  obtain ⟨q280, u281, h282, hF⟩ := bd2_at hF
                                                                                                                  refine scalli (X' := WS cI cZ cS a u281) (vx_runSW (As := [.ref a.1, .int (3 : Int32), .int (101 : Int32), .int (5 : Int32), .int (0 : Int32)]) (rest := []) S (KT_write l hfl D cI cZ cS cJ a u273 (101 : Int32) (5 : Int32) (0 : Int32) q280 u281 h282) (vx_cwSW 5 hts (gd_SW wd_448 wd_449 wd_21 cwL_call) rfl rfl rfl hdL_call ⟨Nat.le_of_ble_eq_true rfl, Nat.le_of_ble_eq_true rfl⟩) (wPreS hK hX hZ hY hS hP hD) rfl rfl hl.1 rfl (lv_room (Nat.le_of_ble_eq_true rfl)) dL_cheques_659 ⟨(by show cl + 705 ≤ 1471; omega), (by show sl + 4230 ≤ 13003; omega)⟩) hS hD (fun H locs hP hS => ?_)
                                                                                                                  have hD : va_D A0 (WS cI cZ cS a u281) := WS_D u281 hD
                                                                                                                  have hP : va_P D vwCl (WS cI cZ cS a u281) H := hP
                                                                                                                  refine lv_bipush (v := (-13 : Int32)) hx hb dL_cheques_662 (by decide) ?_
                                                                                                                  refine lv_icmp_ne (tgt := 764) hx hb dL_cheques_664 (by decide) (fun c283 => ?_) (fun c283 => ?_)
                                                                                                                  · have hF := ite_f c283 hF
                                                                                                                    refine lv_iconst (v := (0 : Int32)) hx hb dL_cheques_764 (by decide) ?_
                                                                                                                    cases hF
                                                                                                                    exact nretz (by omega) (by omega) (by decide) hx hb hr hlocks hS dL_cheques_765
                                                                                                                  · have hF := ite_t c283 hF
                                                                                                                    refine lv_aload_n hx hb dL_cheques_667 rfl (lv_at hl 0 rfl) ?_
                                                                                                                    refine lv_bipush (v := (103 : Int32)) hx hb dL_cheques_668 (by decide) ?_
                                                                                                                    refine lv_bipush (v := (9 : Int32)) hx hb dL_cheques_670 (by decide) ?_
                                                                                                                    obtain ⟨k284, q285, u286, h287, hF⟩ := bd3_at hF
                                                                                                                    obtain ⟨g288, hF⟩ := gd_at hF
                                                                                                                    rw [g288] at h287
                                                                                                                    refine scalli (X' := WS cI cZ cS a u286) (va_runV (As := [.int (103 : Int32), .int (9 : Int32)]) (rest := []) S (NS_write l D cI cZ cS cJ a u281 (103 : Int32) (9 : Int32) q285 u286 h287) (cwV 2 hts (gd_V wd_311 wd_312 wd_313 wd_22 wd_314) rfl rfl rfl hd5_write ⟨Nat.le_of_ble_eq_true rfl, Nat.le_of_ble_eq_true rfl⟩) (uPreV hK hP hD (ci := 5) (q := (RX5, TX5, 3)) (WS_0 cI cZ cS a u281) rfl) rfl rfl hl.1 rfl (lv_room (Nat.le_of_ble_eq_true rfl)) dL_cheques_672 ⟨(by show cl + 705 ≤ 1471; omega), (by show sl + 4230 ≤ 13003; omega)⟩) hS hD (fun H locs hP hS => ?_)
                                                                                                                    have hD : va_D A0 (WS cI cZ cS a u286) := WS_D u286 hD
                                                                                                                    have hP : va_P D vwCl (WS cI cZ cS a u286) H := hP
                                                                                                                    refine lv_if_ne (tgt := 764) hx hb dL_cheques_675 (by decide) (fun c289 => ?_) (fun c289 => ?_)
                                                                                                                    · have hF := ite_f c289 hF
                                                                                                                      refine lv_iconst (v := (0 : Int32)) hx hb dL_cheques_764 (by decide) ?_
                                                                                                                      cases hF
                                                                                                                      exact nretz (by omega) (by omega) (by decide) hx hb hr hlocks hS dL_cheques_765
                                                                                                                    · have hF := ite_t c289 hF
                                                                                                                      refine lv_aload_n hx hb dL_cheques_678 rfl (lv_at hl 0 rfl) ?_
                                                                                                                      refine lv_bipush (v := (103 : Int32)) hx hb dL_cheques_679 (by decide) ?_
                                                                                                                      refine lv_bipush (v := (103 : Int32)) hx hb dL_cheques_681 (by decide) ?_
                                                                                                                      obtain ⟨k290, q291, u292, h293, hF⟩ := bd3_at hF
                                                                                                                      obtain ⟨g294, hF⟩ := gd_at hF
                                                                                                                      rw [g294] at h293
                                                                                                                      refine scalli (X' := WS cI cZ cS a u292) (va_runV (As := [.int (103 : Int32), .int (103 : Int32)]) (rest := []) S (NS_voidRun l D cI cZ cS cJ a u286 (103 : Int32) (103 : Int32) q291 u292 h293) (cwV 2 hts (gd_V wd_472 wd_473 wd_474 wd_22 wd_475) rfl rfl rfl hd5_voidRun ⟨Nat.le_of_ble_eq_true rfl, Nat.le_of_ble_eq_true rfl⟩) (uPreV hK hP hD (ci := 5) (q := (RX5, TX5, 3)) (WS_0 cI cZ cS a u286) rfl) rfl rfl hl.1 rfl (lv_room (Nat.le_of_ble_eq_true rfl)) dL_cheques_683 ⟨(by show cl + 705 ≤ 1471; omega), (by show sl + 4230 ≤ 13003; omega)⟩) hS hD (fun H locs hP hS => ?_)
                                                                                                                      have hD : va_D A0 (WS cI cZ cS a u292) := WS_D u292 hD
                                                                                                                      have hP : va_P D vwCl (WS cI cZ cS a u292) H := hP
                                                                                                                      refine lv_iconst (v := (1 : Int32)) hx hb dL_cheques_686 (by decide) ?_
                                                                                                                      refine lv_icmp_ne (tgt := 764) hx hb dL_cheques_687 (by decide) (fun c295 => ?_) (fun c295 => ?_)
                                                                                                                      · have hF := ite_f c295 hF
                                                                                                                        refine lv_iconst (v := (0 : Int32)) hx hb dL_cheques_764 (by decide) ?_
                                                                                                                        cases hF
                                                                                                                        exact nretz (by omega) (by omega) (by decide) hx hb hr hlocks hS dL_cheques_765
                                                                                                                      · have hF := ite_t c295 hF
                                                                                                                        refine lv_aload_n hx hb dL_cheques_690 rfl (lv_at hl 0 rfl) ?_
                                                                                                                        refine lv_bipush (v := (103 : Int32)) hx hb dL_cheques_691 (by decide) ?_
                                                                                                                        refine lv_iconst (v := (1 : Int32)) hx hb dL_cheques_693 (by decide) ?_
                                                                                                                        obtain ⟨k296, q297, h298, hF⟩ := bd2_at hF
                                                                                                                        obtain ⟨g299, hF⟩ := gd_at hF
                                                                                                                        rw [g299] at h298
                                                                                                                        refine rcall (va_runV (As := [.int (103 : Int32), .int (1 : Int32)]) (rest := []) S (NS_cheque l D cI cZ cS cJ a u292 (103 : Int32) (1 : Int32) q297 h298) (cwV 2 hts (gd_V wd_572 wd_573 wd_574 wd_22 wd_575) rfl rfl rfl hd5_cheque ⟨Nat.le_of_ble_eq_true rfl, Nat.le_of_ble_eq_true rfl⟩) (rPreV hK hP (ci := 5) (q := (RX5, TX5, 3)) (WS_0 cI cZ cS a u292) rfl) rfl rfl hl.1 rfl (lv_room (Nat.le_of_ble_eq_true rfl)) dL_cheques_694 ⟨(by show cl + 705 ≤ 1471; omega), (by show sl + 4230 ≤ 13003; omega)⟩) ?_
                                                                                                                        refine lv_if_ne (tgt := 764) hx hb dL_cheques_697 (by decide) (fun c300 => ?_) (fun c300 => ?_)
                                                                                                                        · have hF := ite_f c300 hF
                                                                                                                          refine lv_iconst (v := (0 : Int32)) hx hb dL_cheques_764 (by decide) ?_
                                                                                                                          cases hF
                                                                                                                          exact nretz (by omega) (by omega) (by decide) hx hb hr hlocks hS dL_cheques_765
                                                                                                                        · have hF := ite_t c300 hF
                                                                                                                          refine lv_aload_n hx hb dL_cheques_700 rfl (lv_at hl 0 rfl) ?_
                                                                                                                          refine lv_bipush (v := (103 : Int32)) hx hb dL_cheques_701 (by decide) ?_
                                                                                                                          refine lv_iconst (v := (0 : Int32)) hx hb dL_cheques_703 (by decide) ?_
                                                                                                                          obtain ⟨k301, q302, u303, h304, hF⟩ := bd3_at hF
                                                                                                                          obtain ⟨g305, hF⟩ := gd_at hF
                                                                                                                          rw [g305] at h304
                                                                                                                          refine scalli (X' := WS cI cZ cS a u303) (va_runV (As := [.int (103 : Int32), .int (0 : Int32)]) (rest := []) S (NS_cash l D cI cZ cS cJ a u292 (103 : Int32) (0 : Int32) q302 u303 h304) (cwV 2 hts (gd_V wd_343 wd_344 wd_345 wd_22 wd_346) rfl rfl rfl hd5_cash ⟨Nat.le_of_ble_eq_true rfl, Nat.le_of_ble_eq_true rfl⟩) (uPreV hK hP hD (ci := 5) (q := (RX5, TX5, 3)) (WS_0 cI cZ cS a u292) rfl) rfl rfl hl.1 rfl (lv_room (Nat.le_of_ble_eq_true rfl)) dL_cheques_704 ⟨(by show cl + 705 ≤ 1471; omega), (by show sl + 4230 ≤ 13003; omega)⟩) hS hD (fun H locs hP hS => ?_)
                                                                                                                          have hD : va_D A0 (WS cI cZ cS a u303) := WS_D u303 hD
                                                                                                                          have hP : va_P D vwCl (WS cI cZ cS a u303) H := hP
                                                                                                                          refine lv_bipush (v := (-3 : Int32)) hx hb dL_cheques_707 (by decide) ?_
                                                                                                                          refine lv_icmp_ne (tgt := 764) hx hb dL_cheques_709 (by decide) (fun c306 => ?_) (fun c306 => ?_)
                                                                                                                          · have hF := ite_f c306 hF
                                                                                                                            refine lv_iconst (v := (0 : Int32)) hx hb dL_cheques_764 (by decide) ?_
                                                                                                                            cases hF
                                                                                                                            exact nretz (by omega) (by omega) (by decide) hx hb hr hlocks hS dL_cheques_765
                                                                                                                          · have hF := ite_t c306 hF
                                                                                                                            refine lv_aload_n hx hb dL_cheques_712 rfl (lv_at hl 0 rfl) ?_
                                                                                                                            refine lv_iconst (v := (0 : Int32)) hx hb dL_cheques_713 (by decide) ?_
                                                                                                                            refine lv_bipush (v := (8 : Int32)) hx hb dL_cheques_714 (by decide) ?_
                                                                                                                            obtain ⟨k307, q308, h309, hF⟩ := bd2_at hF
                                                                                                                            obtain ⟨g310, hF⟩ := gd_at hF
                                                                                                                            rw [g310] at h309
                                                                                                                            refine rcall (va_runV (As := [.int (0 : Int32), .int (8 : Int32)]) (rest := []) S (NS_bookOf l D cI cZ cS cJ a u303 (0 : Int32) (8 : Int32) q308 h309) (cwV 2 hts (gd_V wd_583 wd_584 wd_585 wd_22 wd_586) rfl rfl rfl hd5_bookOf ⟨Nat.le_of_ble_eq_true rfl, Nat.le_of_ble_eq_true rfl⟩) (rPreV hK hP (ci := 5) (q := (RX5, TX5, 3)) (WS_0 cI cZ cS a u303) rfl) rfl rfl hl.1 rfl (lv_room (Nat.le_of_ble_eq_true rfl)) dL_cheques_716 ⟨(by show cl + 705 ≤ 1471; omega), (by show sl + 4230 ≤ 13003; omega)⟩) ?_
                                                                                                                            refine lv_bipush (v := (104 : Int32)) hx hb dL_cheques_719 (by decide) ?_
                                                                                                                            refine lv_icmp_ne (tgt := 764) hx hb dL_cheques_721 (by decide) (fun c311 => ?_) (fun c311 => ?_)
                                                                                                                            · have hF := ite_f c311 hF
                                                                                                                              refine lv_iconst (v := (0 : Int32)) hx hb dL_cheques_764 (by decide) ?_
                                                                                                                              cases hF
                                                                                                                              exact nretz (by omega) (by omega) (by decide) hx hb hr hlocks hS dL_cheques_765
                                                                                                                            · have hF := ite_t c311 hF
                                                                                                                              refine lv_aload_n hx hb dL_cheques_724 rfl (lv_at hl 0 rfl) ?_
                                                                                                                              refine lv_bipush (v := (104 : Int32)) hx hb dL_cheques_725 (by decide) ?_
                                                                                                                              refine lv_bipush (v := (104 : Int32)) hx hb dL_cheques_727 (by decide) ?_
                                                                                                                              obtain ⟨k312, q313, u314, h315, hF⟩ := bd3_at hF
                                                                                                                              obtain ⟨g316, hF⟩ := gd_at hF
                                                                                                                              rw [g316] at h315
                                                                                                                              refine scalli (X' := WS cI cZ cS a u314) (va_runV (As := [.int (104 : Int32), .int (104 : Int32)]) (rest := []) S (NS_voidRun l D cI cZ cS cJ a u303 (104 : Int32) (104 : Int32) q313 u314 h315) (cwV 2 hts (gd_V wd_472 wd_473 wd_474 wd_22 wd_475) rfl rfl rfl hd5_voidRun ⟨Nat.le_of_ble_eq_true rfl, Nat.le_of_ble_eq_true rfl⟩) (uPreV hK hP hD (ci := 5) (q := (RX5, TX5, 3)) (WS_0 cI cZ cS a u303) rfl) rfl rfl hl.1 rfl (lv_room (Nat.le_of_ble_eq_true rfl)) dL_cheques_729 ⟨(by show cl + 705 ≤ 1471; omega), (by show sl + 4230 ≤ 13003; omega)⟩) hS hD (fun H locs hP hS => ?_)
                                                                                                                              have hD : va_D A0 (WS cI cZ cS a u314) := WS_D u314 hD
                                                                                                                              have hP : va_P D vwCl (WS cI cZ cS a u314) H := hP
                                                                                                                              refine lv_iconst (v := (1 : Int32)) hx hb dL_cheques_732 (by decide) ?_
                                                                                                                              refine lv_icmp_ne (tgt := 764) hx hb dL_cheques_733 (by decide) (fun c317 => ?_) (fun c317 => ?_)
                                                                                                                              · have hF := ite_f c317 hF
                                                                                                                                refine lv_iconst (v := (0 : Int32)) hx hb dL_cheques_764 (by decide) ?_
                                                                                                                                cases hF
                                                                                                                                exact nretz (by omega) (by omega) (by decide) hx hb hr hlocks hS dL_cheques_765
                                                                                                                              · have hF := ite_t c317 hF
                                                                                                                                refine lv_aload_n hx hb dL_cheques_736 rfl (lv_at hl 0 rfl) ?_
                                                                                                                                refine lv_iconst (v := (0 : Int32)) hx hb dL_cheques_737 (by decide) ?_
                                                                                                                                refine lv_bipush (v := (8 : Int32)) hx hb dL_cheques_738 (by decide) ?_
                                                                                                                                obtain ⟨k318, q319, h320, hF⟩ := bd2_at hF
                                                                                                                                obtain ⟨g321, hF⟩ := gd_at hF
                                                                                                                                rw [g321] at h320
                                                                                                                                refine rcall (va_runV (As := [.int (0 : Int32), .int (8 : Int32)]) (rest := []) S (NS_bookOf l D cI cZ cS cJ a u314 (0 : Int32) (8 : Int32) q319 h320) (cwV 2 hts (gd_V wd_583 wd_584 wd_585 wd_22 wd_586) rfl rfl rfl hd5_bookOf ⟨Nat.le_of_ble_eq_true rfl, Nat.le_of_ble_eq_true rfl⟩) (rPreV hK hP (ci := 5) (q := (RX5, TX5, 3)) (WS_0 cI cZ cS a u314) rfl) rfl rfl hl.1 rfl (lv_room (Nat.le_of_ble_eq_true rfl)) dL_cheques_740 ⟨(by show cl + 705 ≤ 1471; omega), (by show sl + 4230 ≤ 13003; omega)⟩) ?_
                                                                                                                                refine lv_iconst (v := (-1 : Int32)) hx hb dL_cheques_743 (by decide) ?_
                                                                                                                                refine lv_icmp_ne (tgt := 764) hx hb dL_cheques_744 (by decide) (fun c322 => ?_) (fun c322 => ?_)
                                                                                                                                · have hF := ite_f c322 hF
                                                                                                                                  refine lv_iconst (v := (0 : Int32)) hx hb dL_cheques_764 (by decide) ?_
                                                                                                                                  cases hF
                                                                                                                                  exact nretz (by omega) (by omega) (by decide) hx hb hr hlocks hS dL_cheques_765
                                                                                                                                · have hF := ite_t c322 hF
                                                                                                                                  refine lv_aload_n hx hb dL_cheques_747 rfl (lv_at hl 0 rfl) ?_
                                                                                                                                  refine lv_iconst (v := (0 : Int32)) hx hb dL_cheques_748 (by decide) ?_
                                                                                                                                  refine lv_iconst (v := (5 : Int32)) hx hb dL_cheques_749 (by decide) ?_
                                                                                                                                  obtain ⟨k323, q324, h325, hF⟩ := bd2_at hF
                                                                                                                                  obtain ⟨g326, hF⟩ := gd_at hF
                                                                                                                                  rw [g326] at h325
                                                                                                                                  refine rcall (va_runV (As := [.int (0 : Int32), .int (5 : Int32)]) (rest := []) S (NS_bookOf l D cI cZ cS cJ a u314 (0 : Int32) (5 : Int32) q324 h325) (cwV 2 hts (gd_V wd_583 wd_584 wd_585 wd_22 wd_586) rfl rfl rfl hd5_bookOf ⟨Nat.le_of_ble_eq_true rfl, Nat.le_of_ble_eq_true rfl⟩) (rPreV hK hP (ci := 5) (q := (RX5, TX5, 3)) (WS_0 cI cZ cS a u314) rfl) rfl rfl hl.1 rfl (lv_room (Nat.le_of_ble_eq_true rfl)) dL_cheques_750 ⟨(by show cl + 705 ≤ 1471; omega), (by show sl + 4230 ≤ 13003; omega)⟩) ?_
                                                                                                                                  refine lv_iconst (v := (4 : Int32)) hx hb dL_cheques_753 (by decide) ?_
                                                                                                                                  refine lv_icmp_ne (tgt := 764) hx hb dL_cheques_754 (by decide) (fun c327 => ?_) (fun c327 => ?_)
                                                                                                                                  · have hF := ite_f c327 hF
                                                                                                                                    refine lv_iconst (v := (0 : Int32)) hx hb dL_cheques_764 (by decide) ?_
                                                                                                                                    cases hF
                                                                                                                                    exact nretz (by omega) (by omega) (by decide) hx hb hr hlocks hS dL_cheques_765
                                                                                                                                  · have hF := ite_t c327 hF
                                                                                                                                    refine lv_aload_n hx hb dL_cheques_757 rfl (lv_at hl 0 rfl) ?_
                                                                                                                                    obtain ⟨q328, u330, h329, hF⟩ := bd2_at hF
                                                                                                                                    refine scalli (X' := WS cI cZ cS a u330) (va_runS (As := [.ref a.1]) (rest := []) S (KL_refused l hfl D cI cZ cS cJ a u314 q328 u330 h329) (va_cwS 1 hts (gd_S wd_704 wd_705 wd_21 wd_706) rfl rfl rfl hdnL_refused ⟨Nat.le_of_ble_eq_true rfl, Nat.le_of_ble_eq_true rfl⟩) (wPreS hK hX hZ hY hS hP hD) rfl rfl hl.1 rfl (lv_room (Nat.le_of_ble_eq_true rfl)) dL_cheques_758 ⟨(by show cl + 1389 ≤ 1471; omega), (by show sl + 8334 ≤ 13003; omega)⟩) hS hD (fun H locs hP hS => ?_)
                                                                                                                                    have hD : va_D A0 (WS cI cZ cS a u330) := WS_D u330 hD
                                                                                                                                    have hP : va_P D vwCl (WS cI cZ cS a u330) H := hP
                                                                                                                                    refine lv_if_ne (tgt := 766) hx hb dL_cheques_761 (by decide) (fun c331 => ?_) (fun c331 => ?_)
                                                                                                                                    · have hF := ite_f c331 hF
                                                                                                                                      refine lv_aload_n hx hb dL_cheques_766 rfl (lv_at hl 0 rfl) ?_
                                                                                                                                      refine lv_iconst (v := (0 : Int32)) hx hb dL_cheques_767 (by decide) ?_
                                                                                                                                      refine lv_bipush (v := (40 : Int32)) hx hb dL_cheques_768 (by decide) ?_
                                                                                                                                      obtain ⟨k332, q333, u334, h335, hF⟩ := bd3_at hF
                                                                                                                                      obtain ⟨g336, hF⟩ := gd_at hF
                                                                                                                                      rw [g336] at h335
                                                                                                                                      refine scalli (X' := WS cI cZ cS a u334) (va_runV (As := [.int (0 : Int32), .int (40 : Int32)]) (rest := []) S (NS_book l D cI cZ cS cJ a u330 (0 : Int32) (40 : Int32) q333 u334 h335) (cwV 2 hts (gd_V wd_149 wd_150 wd_151 wd_22 wd_152) rfl rfl rfl hd5_book ⟨Nat.le_of_ble_eq_true rfl, Nat.le_of_ble_eq_true rfl⟩) (uPreV hK hP hD (ci := 5) (q := (RX5, TX5, 3)) (WS_0 cI cZ cS a u330) rfl) rfl rfl hl.1 rfl (lv_room (Nat.le_of_ble_eq_true rfl)) dL_cheques_770 ⟨(by show cl + 1389 ≤ 1471; omega), (by show sl + 8334 ≤ 13003; omega)⟩) hS hD (fun H locs hP hS => ?_)
                                                                                                                                      have hD : va_D A0 (WS cI cZ cS a u334) := WS_D u334 hD
                                                                                                                                      have hP : va_P D vwCl (WS cI cZ cS a u334) H := hP
                                                                                                                                      refine lv_iconst (v := (4 : Int32)) hx hb dL_cheques_773 (by decide) ?_
                                                                                                                                      refine lv_icmp_ne (tgt := 896) hx hb dL_cheques_774 (by decide) (fun c337 => ?_) (fun c337 => ?_)
                                                                                                                                      · have hF := ite_f c337 hF
                                                                                                                                        refine lv_iconst (v := (0 : Int32)) hx hb dL_cheques_896 (by decide) ?_
                                                                                                                                        cases hF
                                                                                                                                        exact nretz (by omega) (by omega) (by decide) hx hb hr hlocks hS dL_cheques_897
                                                                                                                                      · have hF := ite_t c337 hF
                                                                                                                                        refine lv_aload_n hx hb dL_cheques_777 rfl (lv_at hl 0 rfl) ?_
                                                                                                                                        refine lv_bipush (v := (40 : Int32)) hx hb dL_cheques_778 (by decide) ?_
                                                                                                                                        refine lv_bipush (v := (40 : Int32)) hx hb dL_cheques_780 (by decide) ?_
                                                                                                                                        obtain ⟨k338, q339, u340, h341, hF⟩ := bd3_at hF
                                                                                                                                        obtain ⟨g342, hF⟩ := gd_at hF
                                                                                                                                        rw [g342] at h341
                                                                                                                                        refine scalli (X' := WS cI cZ cS a u340) (va_runV (As := [.int (40 : Int32), .int (40 : Int32)]) (rest := []) S (NS_book l D cI cZ cS cJ a u334 (40 : Int32) (40 : Int32) q339 u340 h341) (cwV 2 hts (gd_V wd_149 wd_150 wd_151 wd_22 wd_152) rfl rfl rfl hd5_book ⟨Nat.le_of_ble_eq_true rfl, Nat.le_of_ble_eq_true rfl⟩) (uPreV hK hP hD (ci := 5) (q := (RX5, TX5, 3)) (WS_0 cI cZ cS a u334) rfl) rfl rfl hl.1 rfl (lv_room (Nat.le_of_ble_eq_true rfl)) dL_cheques_782 ⟨(by show cl + 1389 ≤ 1471; omega), (by show sl + 8334 ≤ 13003; omega)⟩) hS hD (fun H locs hP hS => ?_)
                                                                                                                                        have hD : va_D A0 (WS cI cZ cS a u340) := WS_D u340 hD
                                                                                                                                        have hP : va_P D vwCl (WS cI cZ cS a u340) H := hP
                                                                                                                                        refine lv_iconst (v := (5 : Int32)) hx hb dL_cheques_785 (by decide) ?_
                                                                                                                                        refine lv_icmp_ne (tgt := 896) hx hb dL_cheques_786 (by decide) (fun c343 => ?_) (fun c343 => ?_)
                                                                                                                                        · have hF := ite_f c343 hF
                                                                                                                                          refine lv_iconst (v := (0 : Int32)) hx hb dL_cheques_896 (by decide) ?_
                                                                                                                                          cases hF
                                                                                                                                          exact nretz (by omega) (by omega) (by decide) hx hb hr hlocks hS dL_cheques_897
                                                                                                                                        · have hF := ite_t c343 hF
                                                                                                                                          refine lv_aload_n hx hb dL_cheques_789 rfl (lv_at hl 0 rfl) ?_
                                                                                                                                          refine lv_iconst (v := (2 : Int32)) hx hb dL_cheques_790 (by decide) ?_
                                                                                                                                          refine lv_sipush (v := (500 : Int32)) hx hb dL_cheques_791 (by decide) ?_
                                                                                                                                          refine lv_iconst (v := (1 : Int32)) hx hb dL_cheques_794 (by decide) ?_
                                                                                                                                          refine lv_iconst (v := (0 : Int32)) hx hb dL_cheques_795 (by decide) ?_
                                                                                                                                          obtain ⟨q344, u345, h346, hF⟩ := bd2_at hF
                                                                                                                                          refine scalli (X' := WS cI cZ cS a u345) (vx_runSW (As := [.ref a.1, .int (2 : Int32), .int (500 : Int32), .int (1 : Int32), .int (0 : Int32)]) (rest := []) S (KT_book l hfl D cI cZ cS cJ a u340 (500 : Int32) (1 : Int32) (0 : Int32) q344 u345 h346) (vx_cwSW 5 hts (gd_SW wd_448 wd_449 wd_21 cwL_call) rfl rfl rfl hdL_call ⟨Nat.le_of_ble_eq_true rfl, Nat.le_of_ble_eq_true rfl⟩) (wPreS hK hX hZ hY hS hP hD) rfl rfl hl.1 rfl (lv_room (Nat.le_of_ble_eq_true rfl)) dL_cheques_796 ⟨(by show cl + 1392 ≤ 1471; omega), (by show sl + 8352 ≤ 13003; omega)⟩) hS hD (fun H locs hP hS => ?_)
                                                                                                                                          have hD : va_D A0 (WS cI cZ cS a u345) := WS_D u345 hD
                                                                                                                                          have hP : va_P D vwCl (WS cI cZ cS a u345) H := hP
                                                                                                                                          refine lv_bipush (v := (-13 : Int32)) hx hb dL_cheques_799 (by decide) ?_
                                                                                                                                          refine lv_icmp_ne (tgt := 896) hx hb dL_cheques_801 (by decide) (fun c347 => ?_) (fun c347 => ?_)
                                                                                                                                          · have hF := ite_f c347 hF
                                                                                                                                            refine lv_iconst (v := (0 : Int32)) hx hb dL_cheques_896 (by decide) ?_
                                                                                                                                            cases hF
                                                                                                                                            exact nretz (by omega) (by omega) (by decide) hx hb hr hlocks hS dL_cheques_897
                                                                                                                                          · have hF := ite_t c347 hF
                                                                                                                                            refine lv_aload_n hx hb dL_cheques_804 rfl (lv_at hl 0 rfl) ?_
                                                                                                                                            refine lv_bipush (v := (79 : Int32)) hx hb dL_cheques_805 (by decide) ?_
                                                                                                                                            refine lv_iconst (v := (3 : Int32)) hx hb dL_cheques_807 (by decide) ?_
                                                                                                                                            obtain ⟨k348, q349, h350, hF⟩ := bd2_at hF
                                                                                                                                            obtain ⟨g351, hF⟩ := gd_at hF
                                                                                                                                            rw [g351] at h350
                                                                                                                                            refine rcall (va_runV (As := [.int (79 : Int32), .int (3 : Int32)]) (rest := []) S (NS_cheque l D cI cZ cS cJ a u345 (79 : Int32) (3 : Int32) q349 h350) (cwV 2 hts (gd_V wd_572 wd_573 wd_574 wd_22 wd_575) rfl rfl rfl hd5_cheque ⟨Nat.le_of_ble_eq_true rfl, Nat.le_of_ble_eq_true rfl⟩) (rPreV hK hP (ci := 5) (q := (RX5, TX5, 3)) (WS_0 cI cZ cS a u345) rfl) rfl rfl hl.1 rfl (lv_room (Nat.le_of_ble_eq_true rfl)) dL_cheques_808 ⟨(by show cl + 1392 ≤ 1471; omega), (by show sl + 8352 ≤ 13003; omega)⟩) ?_
                                                                                                                                            refine lv_bipush (v := (39 : Int32)) hx hb dL_cheques_811 (by decide) ?_
                                                                                                                                            refine lv_icmp_ne (tgt := 896) hx hb dL_cheques_813 (by decide) (fun c352 => ?_) (fun c352 => ?_)
                                                                                                                                            · have hF := ite_f c352 hF
                                                                                                                                              refine lv_iconst (v := (0 : Int32)) hx hb dL_cheques_896 (by decide) ?_
                                                                                                                                              cases hF
                                                                                                                                              exact nretz (by omega) (by omega) (by decide) hx hb hr hlocks hS dL_cheques_897
                                                                                                                                            · have hF := ite_t c352 hF
                                                                                                                                              refine lv_aload_n hx hb dL_cheques_816 rfl (lv_at hl 0 rfl) ?_
                                                                                                                                              refine lv_bipush (v := (40 : Int32)) hx hb dL_cheques_817 (by decide) ?_
                                                                                                                                              refine lv_iconst (v := (4 : Int32)) hx hb dL_cheques_819 (by decide) ?_
                                                                                                                                              obtain ⟨k353, q354, h355, hF⟩ := bd2_at hF
                                                                                                                                              obtain ⟨g356, hF⟩ := gd_at hF
                                                                                                                                              rw [g356] at h355
                                                                                                                                              refine rcall (va_runV (As := [.int (40 : Int32), .int (4 : Int32)]) (rest := []) S (NS_cheque l D cI cZ cS cJ a u345 (40 : Int32) (4 : Int32) q354 h355) (cwV 2 hts (gd_V wd_572 wd_573 wd_574 wd_22 wd_575) rfl rfl rfl hd5_cheque ⟨Nat.le_of_ble_eq_true rfl, Nat.le_of_ble_eq_true rfl⟩) (rPreV hK hP (ci := 5) (q := (RX5, TX5, 3)) (WS_0 cI cZ cS a u345) rfl) rfl rfl hl.1 rfl (lv_room (Nat.le_of_ble_eq_true rfl)) dL_cheques_820 ⟨(by show cl + 1392 ≤ 1471; omega), (by show sl + 8352 ≤ 13003; omega)⟩) ?_
                                                                                                                                              refine lv_bipush (v := (40 : Int32)) hx hb dL_cheques_823 (by decide) ?_
                                                                                                                                              refine lv_icmp_ne (tgt := 896) hx hb dL_cheques_825 (by decide) (fun c357 => ?_) (fun c357 => ?_)
                                                                                                                                              · have hF := ite_f c357 hF
                                                                                                                                                refine lv_iconst (v := (0 : Int32)) hx hb dL_cheques_896 (by decide) ?_
                                                                                                                                                cases hF
                                                                                                                                                exact nretz (by omega) (by omega) (by decide) hx hb hr hlocks hS dL_cheques_897
                                                                                                                                              · have hF := ite_t c357 hF
                                                                                                                                                refine lv_aload_n hx hb dL_cheques_828 rfl (lv_at hl 0 rfl) ?_
                                                                                                                                                refine lv_bipush (v := (79 : Int32)) hx hb dL_cheques_829 (by decide) ?_
                                                                                                                                                obtain ⟨k358, q359, h360, hF⟩ := bd2_at hF
                                                                                                                                                obtain ⟨g361, hF⟩ := gd_at hF
                                                                                                                                                rw [g361] at h360
                                                                                                                                                refine rcall (va_runV (As := [.int (79 : Int32)]) (rest := []) S (NS_ranked l D cI cZ cS cJ a u345 (79 : Int32) q359 h360) (cwV 1 hts (gd_V wd_590 wd_591 wd_592 wd_22 wd_593) rfl rfl rfl hd5_ranked ⟨Nat.le_of_ble_eq_true rfl, Nat.le_of_ble_eq_true rfl⟩) (rPreV hK hP (ci := 5) (q := (RX5, TX5, 3)) (WS_0 cI cZ cS a u345) rfl) rfl rfl hl.1 rfl (lv_room (Nat.le_of_ble_eq_true rfl)) dL_cheques_831 ⟨(by show cl + 1392 ≤ 1471; omega), (by show sl + 8352 ≤ 13003; omega)⟩) ?_
                                                                                                                                                refine lv_bipush (v := (79 : Int32)) hx hb dL_cheques_834 (by decide) ?_
                                                                                                                                                refine lv_icmp_ne (tgt := 896) hx hb dL_cheques_836 (by decide) (fun c362 => ?_) (fun c362 => ?_)
                                                                                                                                                · have hF := ite_f c362 hF
                                                                                                                                                  refine lv_iconst (v := (0 : Int32)) hx hb dL_cheques_896 (by decide) ?_
                                                                                                                                                  cases hF
                                                                                                                                                  exact nretz (by omega) (by omega) (by decide) hx hb hr hlocks hS dL_cheques_897
                                                                                                                                                · have hF := ite_t c362 hF
                                                                                                                                                  refine lv_aload_n hx hb dL_cheques_839 rfl (lv_at hl 0 rfl) ?_
                                                                                                                                                  refine lv_bipush (v := (80 : Int32)) hx hb dL_cheques_840 (by decide) ?_
                                                                                                                                                  obtain ⟨k363, q364, h365, hF⟩ := bd2_at hF
                                                                                                                                                  obtain ⟨g366, hF⟩ := gd_at hF
                                                                                                                                                  rw [g366] at h365
                                                                                                                                                  refine rcall (va_runV (As := [.int (80 : Int32)]) (rest := []) S (NS_ranked l D cI cZ cS cJ a u345 (80 : Int32) q364 h365) (cwV 1 hts (gd_V wd_590 wd_591 wd_592 wd_22 wd_593) rfl rfl rfl hd5_ranked ⟨Nat.le_of_ble_eq_true rfl, Nat.le_of_ble_eq_true rfl⟩) (rPreV hK hP (ci := 5) (q := (RX5, TX5, 3)) (WS_0 cI cZ cS a u345) rfl) rfl rfl hl.1 rfl (lv_room (Nat.le_of_ble_eq_true rfl)) dL_cheques_842 ⟨(by show cl + 1392 ≤ 1471; omega), (by show sl + 8352 ≤ 13003; omega)⟩) ?_
                                                                                                                                                  refine lv_bipush (v := (90 : Int32)) hx hb dL_cheques_845 (by decide) ?_
                                                                                                                                                  refine lv_icmp_ne (tgt := 896) hx hb dL_cheques_847 (by decide) (fun c367 => ?_) (fun c367 => ?_)
                                                                                                                                                  · have hF := ite_f c367 hF
                                                                                                                                                    refine lv_iconst (v := (0 : Int32)) hx hb dL_cheques_896 (by decide) ?_
                                                                                                                                                    cases hF
                                                                                                                                                    exact nretz (by omega) (by omega) (by decide) hx hb hr hlocks hS dL_cheques_897
                                                                                                                                                  · have hF := ite_t c367 hF
                                                                                                                                                    refine lv_aload_n hx hb dL_cheques_850 rfl (lv_at hl 0 rfl) ?_
                                                                                                                                                    refine lv_iconst (v := (0 : Int32)) hx hb dL_cheques_851 (by decide) ?_
                                                                                                                                                    obtain ⟨k368, q369, u370, h371, hF⟩ := bd3_at hF
                                                                                                                                                    obtain ⟨g372, hF⟩ := gd_at hF
                                                                                                                                                    rw [g372] at h371
                                                                                                                                                    refine scalli (X' := WS cI cZ cS a u370) (va_runV (As := [.int (0 : Int32)]) (rest := []) S (NS_goBack l D cI cZ cS cJ a u345 (0 : Int32) q369 u370 h371) (cwV 1 hts (gd_V wd_396 wd_397 wd_398 wd_22 wd_399) rfl rfl rfl hd5_goBack ⟨Nat.le_of_ble_eq_true rfl, Nat.le_of_ble_eq_true rfl⟩) (uPreV hK hP hD (ci := 5) (q := (RX5, TX5, 3)) (WS_0 cI cZ cS a u345) rfl) rfl rfl hl.1 rfl (lv_room (Nat.le_of_ble_eq_true rfl)) dL_cheques_852 ⟨(by show cl + 1392 ≤ 1471; omega), (by show sl + 8352 ≤ 13003; omega)⟩) hS hD (fun H locs hP hS => ?_)
                                                                                                                                                    have hD : va_D A0 (WS cI cZ cS a u370) := WS_D u370 hD
                                                                                                                                                    have hP : va_P D vwCl (WS cI cZ cS a u370) H := hP
                                                                                                                                                    refine lv_iconst (v := (4 : Int32)) hx hb dL_cheques_855 (by decide) ?_
                                                                                                                                                    refine lv_icmp_ne (tgt := 896) hx hb dL_cheques_856 (by decide) (fun c373 => ?_) (fun c373 => ?_)
                                                                                                                                                    · have hF := ite_f c373 hF
                                                                                                                                                      refine lv_iconst (v := (0 : Int32)) hx hb dL_cheques_896 (by decide) ?_
                                                                                                                                                      cases hF
                                                                                                                                                      exact nretz (by omega) (by omega) (by decide) hx hb hr hlocks hS dL_cheques_897
                                                                                                                                                    · have hF := ite_t c373 hF
                                                                                                                                                      refine lv_aload_n hx hb dL_cheques_859 rfl (lv_at hl 0 rfl) ?_
                                                                                                                                                      refine lv_bipush (v := (100 : Int32)) hx hb dL_cheques_860 (by decide) ?_
                                                                                                                                                      refine lv_iconst (v := (0 : Int32)) hx hb dL_cheques_862 (by decide) ?_
                                                                                                                                                      obtain ⟨k374, q375, h376, hF⟩ := bd2_at hF
                                                                                                                                                      obtain ⟨g377, hF⟩ := gd_at hF
                                                                                                                                                      rw [g377] at h376
                                                                                                                                                      refine rcall (va_runV (As := [.int (100 : Int32), .int (0 : Int32)]) (rest := []) S (NS_cheque l D cI cZ cS cJ a u370 (100 : Int32) (0 : Int32) q375 h376) (cwV 2 hts (gd_V wd_572 wd_573 wd_574 wd_22 wd_575) rfl rfl rfl hd5_cheque ⟨Nat.le_of_ble_eq_true rfl, Nat.le_of_ble_eq_true rfl⟩) (rPreV hK hP (ci := 5) (q := (RX5, TX5, 3)) (WS_0 cI cZ cS a u370) rfl) rfl rfl hl.1 rfl (lv_room (Nat.le_of_ble_eq_true rfl)) dL_cheques_863 ⟨(by show cl + 1392 ≤ 1471; omega), (by show sl + 8352 ≤ 13003; omega)⟩) ?_
                                                                                                                                                      refine lv_iconst (v := (1 : Int32)) hx hb dL_cheques_866 (by decide) ?_
                                                                                                                                                      refine lv_icmp_ne (tgt := 896) hx hb dL_cheques_867 (by decide) (fun c378 => ?_) (fun c378 => ?_)
                                                                                                                                                      · have hF := ite_f c378 hF
                                                                                                                                                        refine lv_iconst (v := (0 : Int32)) hx hb dL_cheques_896 (by decide) ?_
                                                                                                                                                        cases hF
                                                                                                                                                        exact nretz (by omega) (by omega) (by decide) hx hb hr hlocks hS dL_cheques_897
                                                                                                                                                      · have hF := ite_t c378 hF
                                                                                                                                                        refine lv_aload_n hx hb dL_cheques_870 rfl (lv_at hl 0 rfl) ?_
                                                                                                                                                        refine lv_bipush (v := (8 : Int32)) hx hb dL_cheques_871 (by decide) ?_
                                                                                                                                                        obtain ⟨k379, q380, h381, hF⟩ := bd2_at hF
                                                                                                                                                        obtain ⟨g382, hF⟩ := gd_at hF
                                                                                                                                                        rw [g382] at h381
                                                                                                                                                        refine rcall (va_runV (As := [.int (8 : Int32)]) (rest := []) S (NS_count l D cI cZ cS cJ a u370 (8 : Int32) q380 h381) (cwV 1 hts (gd_V wd_413 wd_414 wd_415 wd_22 wd_416) rfl rfl rfl hd5_count ⟨Nat.le_of_ble_eq_true rfl, Nat.le_of_ble_eq_true rfl⟩) (rPreV hK hP (ci := 5) (q := (RX5, TX5, 3)) (WS_0 cI cZ cS a u370) rfl) rfl rfl hl.1 rfl (lv_room (Nat.le_of_ble_eq_true rfl)) dL_cheques_873 ⟨(by show cl + 1392 ≤ 1471; omega), (by show sl + 8352 ≤ 13003; omega)⟩) ?_
                                                                                                                                                        refine lv_if_ne (tgt := 896) hx hb dL_cheques_876 (by decide) (fun c383 => ?_) (fun c383 => ?_)
                                                                                                                                                        · have hF := ite_f c383 hF
                                                                                                                                                          refine lv_iconst (v := (0 : Int32)) hx hb dL_cheques_896 (by decide) ?_
                                                                                                                                                          cases hF
                                                                                                                                                          exact nretz (by omega) (by omega) (by decide) hx hb hr hlocks hS dL_cheques_897
                                                                                                                                                        · have hF := ite_t c383 hF
                                                                                                                                                          refine lv_aload_n hx hb dL_cheques_879 rfl (lv_at hl 0 rfl) ?_
                                                                                                                                                          refine lv_iconst (v := (0 : Int32)) hx hb dL_cheques_880 (by decide) ?_
                                                                                                                                                          refine lv_bipush (v := (6 : Int32)) hx hb dL_cheques_881 (by decide) ?_
                                                                                                                                                          obtain ⟨k384, q385, h386, hF⟩ := bd2_at hF
                                                                                                                                                          obtain ⟨g387, hF⟩ := gd_at hF
                                                                                                                                                          rw [g387] at h386
                                                                                                                                                          refine rcall (va_runV (As := [.int (0 : Int32), .int (6 : Int32)]) (rest := []) S (NS_bookOf l D cI cZ cS cJ a u370 (0 : Int32) (6 : Int32) q385 h386) (cwV 2 hts (gd_V wd_583 wd_584 wd_585 wd_22 wd_586) rfl rfl rfl hd5_bookOf ⟨Nat.le_of_ble_eq_true rfl, Nat.le_of_ble_eq_true rfl⟩) (rPreV hK hP (ci := 5) (q := (RX5, TX5, 3)) (WS_0 cI cZ cS a u370) rfl) rfl rfl hl.1 rfl (lv_room (Nat.le_of_ble_eq_true rfl)) dL_cheques_883 ⟨(by show cl + 1392 ≤ 1471; omega), (by show sl + 8352 ≤ 13003; omega)⟩) ?_
                                                                                                                                                          refine lv_sipush (v := (250 : Int32)) hx hb dL_cheques_886 (by decide) ?_
                                                                                                                                                          refine lv_icmp_ne (tgt := 896) hx hb dL_cheques_889 (by decide) (fun c388 => ?_) (fun c388 => ?_)
                                                                                                                                                          · have hF := ite_f c388 hF
                                                                                                                                                            refine lv_iconst (v := (0 : Int32)) hx hb dL_cheques_896 (by decide) ?_
                                                                                                                                                            cases hF
                                                                                                                                                            exact nretz (by omega) (by omega) (by decide) hx hb hr hlocks hS dL_cheques_897
                                                                                                                                                          · have hF := ite_t c388 hF
                                                                                                                                                            refine lv_iconst (v := (1 : Int32)) hx hb dL_cheques_892 (by decide) ?_
                                                                                                                                                            refine lv_goto (tgt := 897) hx hb dL_cheques_893 (by decide) ?_
                                                                                                                                                            cases hF
                                                                                                                                                            exact nretz (by omega) (by omega) (by decide) hx hb hr hlocks hS dL_cheques_897
                                                                                                                                    · have hF := ite_t c331 hF
                                                                                                                                      refine lv_iconst (v := (0 : Int32)) hx hb dL_cheques_764 (by decide) ?_
                                                                                                                                      cases hF
                                                                                                                                      exact nretz (by omega) (by omega) (by decide) hx hb hr hlocks hS dL_cheques_765
                                                                                                    · have hF := ite_f c249 hF
                                                                                                      refine lv_iconst (v := (0 : Int32)) hx hb dL_cheques_586 (by decide) ?_
                                                                                                      cases hF
                                                                                                      exact nretz (by omega) (by omega) (by decide) hx hb hr hlocks hS dL_cheques_587
                                                                                · have hF := ite_f c199 hF
                                                                                  refine lv_iconst (v := (0 : Int32)) hx hb dL_cheques_459 (by decide) ?_
                                                                                  cases hF
                                                                                  exact nretz (by omega) (by omega) (by decide) hx hb hr hlocks hS dL_cheques_460
                                  · have hF := ite_t c79 hF
                                    refine lv_iconst (v := (0 : Int32)) hx hb dL_cheques_189 (by decide) ?_
                                    cases hF
                                    exact nretz (by omega) (by omega) (by decide) hx hb hr hlocks hS dL_cheques_190
  have hP : va_P D vwCl [] s.heap := fun k q h => by simp at h
  have hD : va_D A0 [] := ⟨fun i j p q h => by simp at h, fun k q h => by simp at h⟩
  have hl := lv_entry ([] : List Value) (n := 1) ((Nat.le_of_ble_eq_true rfl))
  refine W.eq (g2 := F0 m 0 ((lg_sl ([] : List Value) ++ List.replicate (1 - (lg_sl ([] : List Value)).length) Slot.unset).toArray) []) (by rw [ha]; exact lg_entry_eq _ _ _) ?_
  generalize (lg_sl ([] : List Value) ++ List.replicate (1 - (lg_sl ([] : List Value)).length) Slot.unset).toArray = ls at hl ⊢
  have hl : lv_has ls 1 [] := hl
  refine va_new (D := D) (ci := 5) (fs := [.null, .null, .null]) (C := RX5) (T := TX5) (N := 3) hx hb hts i_X5 tyX5 tyX5_ok hown (hts _ wd_35) (hts _ wd_36) (hts _ wd_22) hK.1 hP hD hS hA rfl (fun j hj => by rcases (show j = 0 ∨ j = 1 ∨ j = 2 by omega) with rfl | rfl | rfl <;> rfl) ((Nat.le_of_ble_eq_true rfl)) ((Nat.le_of_ble_eq_true rfl)) dL_cheques_0 (fun q1 H hP hD hS => ?_)
  have hP : va_P D vwCl ([] ++ [(q1, .inr (5, [.null, .null, .null]))]) H := hP
  have hD : va_D A0 ([] ++ [(q1, .inr (5, [.null, .null, .null]))]) := hD
  refine lv_dup hx hb dL_cheques_3 rfl ?_
  have hFc := c_free hD hS hA
  refine va_callv (va_runI (As := []) (rest := [.ref q1]) S (K5_init l D cI cZ cS cJ q1 H.size) (cwI 0 hts (gd_all wd_39) rfl rfl rfl (hts _ wd_22) (hts _ wd_37) (hts _ wd_38) rfl (by decide +kernel) ⟨(Nat.le_of_ble_eq_true rfl), (Nat.le_of_ble_eq_true rfl)⟩) (cPreS hK hM (wP_r hP) (wD_r hD)) rfl rfl hl.1 rfl (lv_room ((Nat.le_of_ble_eq_true rfl))) dL_cheques_4 ⟨(Nat.le_of_ble_eq_true rfl), (Nat.le_of_ble_eq_true rfl)⟩) hS (fun q _ h => hFc q h) hFc (fun u t H1 locs ht hvm hw hB hz1 hk1 hS => ?_)
  obtain ⟨hP1, hD1⟩ := hB
  rw [ht] at hP1
  have hP1 : va_P D vwCl (WS cI cZ cS (q1, u) st0) H1 := hP1
  have hD1 : va_D (va_A [(q1, .inr (5, [.null, .null, .null]))] H.size) (WS cI cZ cS (q1, u) st0) := hD1
  have hD2 := hD1.weaken (B := A0) (fun k q _ h => hFc q.1 h)
  refine lv_astore_n (lv' := [(0, .ref q1)]) hx hb dL_cheques_7 rfl hl (by decide) rfl (fun ls hl => ?_)
  exact key (q1, u) H1 locs _ _ ((Nat.le_of_ble_eq_true rfl)) ((Nat.le_of_ble_eq_true rfl)) hP1 hD2 hS ls hl
abbrev rmL_texts : Room := { frames := 9, cells := 85, slots := 4687, locals := 188 }
theorem hdnL_texts : yL_texts.cls ≠ "java/lang/invoke/MethodHandle" ∧ yL_texts.cls ≠ "java/lang/invoke/VarHandle" ∧ (parseMethodDescriptor yL_texts.desc).map (fun d => d.parameters.length) = some 0 := by decide +kernel
set_option maxHeartbeats 8000000 in
set_option maxRecDepth 100000 in
theorem KL_texts (l : Launch) (hfl : l.stackTraces = false) (D : va_G) (cI cZ cS cJ : ClassId) (sz : Nat) (r : Int32) (hF : fL_textsB st0 = some r) : Met l yL_texts wsL_texts rmL_texts (nP D (gT cI cZ cS cJ) sz) (nQ (.int r) (fun q => sz ≤ q)) 85 4687 (fun q => sz ≤ q) := by
  refine Met.ofW (cc := cL_texts) (maxL := 2) (ret := (some .boolean)) (by decide) rfl ?_
  intro p e s m args below meth c s₁ B hml hv
  obtain ⟨ha, hsz, hK, hM, hX, hZ, hY⟩ := hv
  subst hsz
  have hx := B.exec
  have hb := B.bytes
  have hr := B.returns
  have hlocks := B.notSynchronized
  have hts : ∀ w ∈ lw_all, w.before args s = true := fun w h => atoms_spec (ws := wsL_texts) B.pre w (List.mem_cons_of_mem _ h)
  have hown : s.vm.findClass RL = some m.cls := findClass_of_methodNamed B.named
  have S : CallFix p m c cL_texts 2 s args lw_all RL := ⟨hx, hb, hml, hown, hts⟩
  have hA : ∀ q : Nat, s.heap.size ≤ q → (fun q => s.heap.size ≤ q) q := fun q h => h
  generalize (fun q => s.heap.size ≤ q) = A0 at hZ hA ⊢
  have hS : va_S A0 s.heap s.heap [] := va_S.rf
  have key : ∀ (a : AD) (H : Heap) (locs : List Loc) (cl sl : Nat), cl + 6 ≤ 85 → sl + 36 ≤ 4687 → va_P D vwCl (WS cI cZ cS a st0) H → va_D A0 (WS cI cZ cS a st0) → va_S A0 s.heap H locs → ∀ ls : Array Slot, lv_has ls 2 [(0, .ref a.1)] → W p l e (headSpec wsL_texts rmL_texts).room s m args below meth c H locs cl sl (MQ below (nQ (.int r) A0) args s 85 4687 A0) (F0 m 8 ls []) := by
    intro a
    have W_610 : ∀  (n : Nat) (x1 : Int32) (st : ST), ∀ (H : Heap) (locs : List Loc) (cl sl : Nat), cl + 6 ≤ 85 → sl + 36 ≤ 4687 → va_P D vwCl (WS cI cZ cS a st) H → va_D A0 (WS cI cZ cS a st) → va_S A0 s.heap H locs → ∀ (ls : Array Slot), lv_has ls 2 [(0, .ref a.1), (1, .int x1)] → fL_texts_l610 n x1 st = some (r) → W p l e (headSpec wsL_texts rmL_texts).room s m args below meth c H locs cl sl (MQ below (nQ (.int r) A0) args s 85 4687 A0) (F0 m 610 ls []) := by
      intro   n
      induction n with
      | zero =>
        intro x1 st H locs cl sl hc1 hc2 hP hD hS ls hl hF
        rw [fL_texts_l610] at hF
        cases hF
      | succ n ih =>
        intro x1 st H locs cl sl hc1 hc2 hP hD hS ls hl hF
        rw [fL_texts_l610] at hF
        refine lv_iload_n hx hb dL_texts_610 rfl (lv_at hl 1 rfl) ?_
        refine lv_bipush (v := (60 : Int32)) hx hb dL_texts_611 (by decide) ?_
        refine lv_icmp_ge (tgt := 643) hx hb dL_texts_613 (by decide) (fun c242 => ?_) (fun c242 => ?_)
        · have hF := ite_t c242 hF
          refine lv_aload_n hx hb dL_texts_643 rfl (lv_at hl 0 rfl) ?_
          refine lv_bipush (v := (6 : Int32)) hx hb dL_texts_644 (by decide) ?_
          refine lv_bipush (v := (59 : Int32)) hx hb dL_texts_646 (by decide) ?_
          refine lv_iconst (v := (0 : Int32)) hx hb dL_texts_648 (by decide) ?_
          refine lv_iconst (v := (0 : Int32)) hx hb dL_texts_649 (by decide) ?_
          obtain ⟨q243, u244, h245, hF⟩ := bd2_at hF
          refine scalli (X' := WS cI cZ cS a u244) (vx_runSW (As := [.ref a.1, .int (6 : Int32), .int (59 : Int32), .int (0 : Int32), .int (0 : Int32)]) (rest := []) S (KT_append l hfl D cI cZ cS cJ a st (59 : Int32) (0 : Int32) (0 : Int32) q243 u244 h245) (vx_cwSW 5 hts (gd_SW wd_448 wd_449 wd_21 cwL_call) rfl rfl rfl hdL_call ⟨Nat.le_of_ble_eq_true rfl, Nat.le_of_ble_eq_true rfl⟩) (wPreS hK hX hZ hY hS hP hD) rfl rfl hl.1 rfl (lv_room (Nat.le_of_ble_eq_true rfl)) dL_texts_650 ⟨(by show cl + 3 ≤ 85; omega), (by show sl + 18 ≤ 4687; omega)⟩) hS hD (fun H locs hP hS => ?_)
          have hD : va_D A0 (WS cI cZ cS a u244) := WS_D u244 hD
          have hP : va_P D vwCl (WS cI cZ cS a u244) H := hP
          refine lv_bipush (v := (-13 : Int32)) hx hb dL_texts_653 (by decide) ?_
          refine lv_icmp_ne (tgt := 685) hx hb dL_texts_655 (by decide) (fun c246 => ?_) (fun c246 => ?_)
          · have hF := ite_f c246 hF
            refine lv_iconst (v := (0 : Int32)) hx hb dL_texts_685 (by decide) ?_
            cases hF
            exact nretz (by omega) (by omega) (by decide) hx hb hr hlocks hS dL_texts_686
          · have hF := ite_t c246 hF
            refine lv_aload_n hx hb dL_texts_658 rfl (lv_at hl 0 rfl) ?_
            refine lv_bipush (v := (7 : Int32)) hx hb dL_texts_659 (by decide) ?_
            refine lv_iconst (v := (0 : Int32)) hx hb dL_texts_661 (by decide) ?_
            refine lv_iconst (v := (0 : Int32)) hx hb dL_texts_662 (by decide) ?_
            refine lv_iconst (v := (0 : Int32)) hx hb dL_texts_663 (by decide) ?_
            obtain ⟨q247, u248, h249, hF⟩ := bd2_at hF
            refine scalli (X' := WS cI cZ cS a u248) (vx_runSW (As := [.ref a.1, .int (7 : Int32), .int (0 : Int32), .int (0 : Int32), .int (0 : Int32)]) (rest := []) S (KT_execute l hfl D cI cZ cS cJ a u244 (0 : Int32) (0 : Int32) (0 : Int32) q247 u248 h249) (vx_cwSW 5 hts (gd_SW wd_448 wd_449 wd_21 cwL_call) rfl rfl rfl hdL_call ⟨Nat.le_of_ble_eq_true rfl, Nat.le_of_ble_eq_true rfl⟩) (wPreS hK hX hZ hY hS hP hD) rfl rfl hl.1 rfl (lv_room (Nat.le_of_ble_eq_true rfl)) dL_texts_664 ⟨(by show cl + 6 ≤ 85; omega), (by show sl + 36 ≤ 4687; omega)⟩) hS hD (fun H locs hP hS => ?_)
            have hD : va_D A0 (WS cI cZ cS a u248) := WS_D u248 hD
            have hP : va_P D vwCl (WS cI cZ cS a u248) H := hP
            refine lv_bipush (v := (-12 : Int32)) hx hb dL_texts_667 (by decide) ?_
            refine lv_icmp_ne (tgt := 685) hx hb dL_texts_669 (by decide) (fun c250 => ?_) (fun c250 => ?_)
            · have hF := ite_f c250 hF
              refine lv_iconst (v := (0 : Int32)) hx hb dL_texts_685 (by decide) ?_
              cases hF
              exact nretz (by omega) (by omega) (by decide) hx hb hr hlocks hS dL_texts_686
            · have hF := ite_t c250 hF
              refine lv_aload_n hx hb dL_texts_672 rfl (lv_at hl 0 rfl) ?_
              obtain ⟨q251, u252, h253, hF⟩ := bd2_at hF
              refine scalli (X' := WS cI cZ cS a u252) (va_runV (As := []) (rest := []) S (NS_clearBuffer l D cI cZ cS cJ a u248 q251 u252 h253) (cwV 0 hts (gd_V wd_736 wd_737 wd_738 wd_22 wd_739) rfl rfl rfl hd5_clearBuffer ⟨Nat.le_of_ble_eq_true rfl, Nat.le_of_ble_eq_true rfl⟩) (uPreV hK hP hD (ci := 5) (q := (RX5, TX5, 3)) (WS_0 cI cZ cS a u248) rfl) rfl rfl hl.1 rfl (lv_room (Nat.le_of_ble_eq_true rfl)) dL_texts_673 ⟨(by show cl + 6 ≤ 85; omega), (by show sl + 36 ≤ 4687; omega)⟩) hS hD (fun H locs hP hS => ?_)
              have hD : va_D A0 (WS cI cZ cS a u252) := WS_D u252 hD
              have hP : va_P D vwCl (WS cI cZ cS a u252) H := hP
              refine lv_bipush (v := (60 : Int32)) hx hb dL_texts_676 (by decide) ?_
              refine lv_icmp_ne (tgt := 685) hx hb dL_texts_678 (by decide) (fun c254 => ?_) (fun c254 => ?_)
              · have hF := ite_f c254 hF
                refine lv_iconst (v := (0 : Int32)) hx hb dL_texts_685 (by decide) ?_
                cases hF
                exact nretz (by omega) (by omega) (by decide) hx hb hr hlocks hS dL_texts_686
              · have hF := ite_t c254 hF
                refine lv_iconst (v := (1 : Int32)) hx hb dL_texts_681 (by decide) ?_
                refine lv_goto (tgt := 686) hx hb dL_texts_682 (by decide) ?_
                cases hF
                exact nretz (by omega) (by omega) (by decide) hx hb hr hlocks hS dL_texts_686
        · have hF := ite_f c242 hF
          refine lv_aload_n hx hb dL_texts_616 rfl (lv_at hl 0 rfl) ?_
          refine lv_bipush (v := (55 : Int32)) hx hb dL_texts_617 (by decide) ?_
          obtain ⟨k255, q256, u257, h258, hF⟩ := bd3_at hF
          obtain ⟨g259, hF⟩ := gd_at hF
          rw [g259] at h258
          refine scalli (X' := WS cI cZ cS a u257) (va_runV (As := [.int (55 : Int32)]) (rest := []) S (NS_append l D cI cZ cS cJ a st (55 : Int32) q256 u257 h258) (cwV 1 hts (gd_V wd_493 wd_494 wd_495 wd_22 wd_496) rfl rfl rfl hd5_append ⟨Nat.le_of_ble_eq_true rfl, Nat.le_of_ble_eq_true rfl⟩) (uPreV hK hP hD (ci := 5) (q := (RX5, TX5, 3)) (WS_0 cI cZ cS a st) rfl) rfl rfl hl.1 rfl (lv_room (Nat.le_of_ble_eq_true rfl)) dL_texts_619 ⟨(by show cl + 0 ≤ 85; omega), (by show sl + 0 ≤ 4687; omega)⟩) hS hD (fun H locs hP hS => ?_)
          have hD : va_D A0 (WS cI cZ cS a u257) := WS_D u257 hD
          have hP : va_P D vwCl (WS cI cZ cS a u257) H := hP
          refine lv_iload_n hx hb dL_texts_622 rfl (lv_at hl 1 rfl) ?_
          refine lv_iconst (v := (1 : Int32)) hx hb dL_texts_623 (by decide) ?_
          refine lv_iadd hx hb dL_texts_624 ?_
          refine lv_icmp_ne (tgt := 635) hx hb dL_texts_625 (by decide) (fun c260 => ?_) (fun c260 => ?_)
          · have hF := ite_f c260 hF
            refine lv_iconst (v := (0 : Int32)) hx hb dL_texts_635 (by decide) ?_
            cases hF
            exact nretz (by omega) (by omega) (by decide) hx hb hr hlocks hS dL_texts_636
          · have hF := ite_t c260 hF
            refine lv_aload_n hx hb dL_texts_628 rfl (lv_at hl 0 rfl) ?_
            obtain ⟨q261, h262, hF⟩ := bd1_at hF
            refine rcall (va_runV (As := []) (rest := []) S (NS_firstError l D cI cZ cS cJ a u257 q261 h262) (cwV 0 hts (gd_V wd_744 wd_745 wd_746 wd_22 wd_747) rfl rfl rfl hd5_firstError ⟨Nat.le_of_ble_eq_true rfl, Nat.le_of_ble_eq_true rfl⟩) (rPreV hK hP (ci := 5) (q := (RX5, TX5, 3)) (WS_0 cI cZ cS a u257) rfl) rfl rfl hl.1 rfl (lv_room (Nat.le_of_ble_eq_true rfl)) dL_texts_629 ⟨(by show cl + 0 ≤ 85; omega), (by show sl + 0 ≤ 4687; omega)⟩) ?_
            refine lv_if_eq (tgt := 637) hx hb dL_texts_632 (by decide) (fun c263 => ?_) (fun c263 => ?_)
            · have hF := ite_t c263 hF
              refine lv_iinc (v := (x1 + 1)) (lv' := [(1, .int (x1 + 1)), (0, .ref a.1)]) hx hb dL_texts_637 hl (k := 1) rfl rfl (by decide) rfl (fun ls hl => ?_)
              refine lv_goto (tgt := 610) hx hb dL_texts_640 (by decide) ?_
              exact ih (x1 + 1) u257 _ _ _ _ (by omega) (by omega) hP hD hS ls (lv_sub hl [1, 0] rfl) hF
            · have hF := ite_f c263 hF
              refine lv_iconst (v := (0 : Int32)) hx hb dL_texts_635 (by decide) ?_
              cases hF
              exact nretz (by omega) (by omega) (by decide) hx hb hr hlocks hS dL_texts_636
    intro H locs cl sl hc1 hc2 hP hD hS ls hl
    rw [fL_textsB] at hF
    refine lv_aload_n hx hb dL_texts_8 rfl (lv_at hl 0 rfl) ?_
    refine lv_ldc2 hx hb hown (hts _ wk_141) dL_texts_9 ?_
    refine lv_lconst (v := 0) hx hb dL_texts_12 (by decide) ?_
    refine lv_bipush (v := (6 : Int32)) hx hb dL_texts_13 (by decide) ?_
    obtain ⟨q1, u3, h2, hF⟩ := bd2_at hF
    refine scalli (X' := WS cI cZ cS a u3) (va_runS (As := [.ref a.1, .long (107959106416688 : Int64), .long (0 : Int64), .int (6 : Int32)]) (rest := []) S (KL_isError l hfl D cI cZ cS cJ a st0 (107959106416688 : Int64) (0 : Int64) (6 : Int32) q1 u3 h2) (va_cwS 4 hts (gd_S wd_733 wd_734 wd_21 wd_735) rfl rfl rfl hdnL_isError ⟨Nat.le_of_ble_eq_true rfl, Nat.le_of_ble_eq_true rfl⟩) (wPreS hK hX hZ hY hS hP hD) rfl rfl hl.1 rfl (lv_room (Nat.le_of_ble_eq_true rfl)) dL_texts_15 ⟨(by show cl + 0 ≤ 85; omega), (by show sl + 0 ≤ 4687; omega)⟩) hS hD (fun H locs hP hS => ?_)
    have hD : va_D A0 (WS cI cZ cS a u3) := WS_D u3 hD
    have hP : va_P D vwCl (WS cI cZ cS a u3) H := hP
    refine lv_if_eq (tgt := 146) hx hb dL_texts_18 (by decide) (fun c4 => ?_) (fun c4 => ?_)
    · have hF := ite_t c4 hF
      refine lv_iconst (v := (0 : Int32)) hx hb dL_texts_146 (by decide) ?_
      cases hF
      exact nretz (by omega) (by omega) (by decide) hx hb hr hlocks hS dL_texts_147
    · have hF := ite_f c4 hF
      refine lv_aload_n hx hb dL_texts_21 rfl (lv_at hl 0 rfl) ?_
      refine lv_ldc2 hx hb hown (hts _ wk_147) dL_texts_22 ?_
      refine lv_ldc2 hx hb hown (hts _ wk_149) dL_texts_25 ?_
      refine lv_bipush (v := (8 : Int32)) hx hb dL_texts_28 (by decide) ?_
      obtain ⟨q5, u7, h6, hF⟩ := bd2_at hF
      refine scalli (X' := WS cI cZ cS a u7) (va_runS (As := [.ref a.1, .long (7075207998124077099 : Int64), .long (48 : Int64), .int (8 : Int32)]) (rest := []) S (KL_isError l hfl D cI cZ cS cJ a u3 (7075207998124077099 : Int64) (48 : Int64) (8 : Int32) q5 u7 h6) (va_cwS 4 hts (gd_S wd_733 wd_734 wd_21 wd_735) rfl rfl rfl hdnL_isError ⟨Nat.le_of_ble_eq_true rfl, Nat.le_of_ble_eq_true rfl⟩) (wPreS hK hX hZ hY hS hP hD) rfl rfl hl.1 rfl (lv_room (Nat.le_of_ble_eq_true rfl)) dL_texts_30 ⟨(by show cl + 0 ≤ 85; omega), (by show sl + 0 ≤ 4687; omega)⟩) hS hD (fun H locs hP hS => ?_)
      have hD : va_D A0 (WS cI cZ cS a u7) := WS_D u7 hD
      have hP : va_P D vwCl (WS cI cZ cS a u7) H := hP
      refine lv_if_eq (tgt := 146) hx hb dL_texts_33 (by decide) (fun c8 => ?_) (fun c8 => ?_)
      · have hF := ite_t c8 hF
        refine lv_iconst (v := (0 : Int32)) hx hb dL_texts_146 (by decide) ?_
        cases hF
        exact nretz (by omega) (by omega) (by decide) hx hb hr hlocks hS dL_texts_147
      · have hF := ite_f c8 hF
        refine lv_aload_n hx hb dL_texts_36 rfl (lv_at hl 0 rfl) ?_
        refine lv_ldc2 hx hb hown (hts _ wk_147) dL_texts_37 ?_
        refine lv_ldc2 hx hb hown (hts _ wk_151) dL_texts_40 ?_
        refine lv_bipush (v := (9 : Int32)) hx hb dL_texts_43 (by decide) ?_
        obtain ⟨q9, u11, h10, hF⟩ := bd2_at hF
        refine scalli (X' := WS cI cZ cS a u11) (va_runS (As := [.ref a.1, .long (7075207998124077099 : Int64), .long (13361 : Int64), .int (9 : Int32)]) (rest := []) S (KL_isError l hfl D cI cZ cS cJ a u7 (7075207998124077099 : Int64) (13361 : Int64) (9 : Int32) q9 u11 h10) (va_cwS 4 hts (gd_S wd_733 wd_734 wd_21 wd_735) rfl rfl rfl hdnL_isError ⟨Nat.le_of_ble_eq_true rfl, Nat.le_of_ble_eq_true rfl⟩) (wPreS hK hX hZ hY hS hP hD) rfl rfl hl.1 rfl (lv_room (Nat.le_of_ble_eq_true rfl)) dL_texts_45 ⟨(by show cl + 0 ≤ 85; omega), (by show sl + 0 ≤ 4687; omega)⟩) hS hD (fun H locs hP hS => ?_)
        have hD : va_D A0 (WS cI cZ cS a u11) := WS_D u11 hD
        have hP : va_P D vwCl (WS cI cZ cS a u11) H := hP
        refine lv_if_eq (tgt := 146) hx hb dL_texts_48 (by decide) (fun c12 => ?_) (fun c12 => ?_)
        · have hF := ite_t c12 hF
          refine lv_iconst (v := (0 : Int32)) hx hb dL_texts_146 (by decide) ?_
          cases hF
          exact nretz (by omega) (by omega) (by decide) hx hb hr hlocks hS dL_texts_147
        · have hF := ite_f c12 hF
          refine lv_aload_n hx hb dL_texts_51 rfl (lv_at hl 0 rfl) ?_
          refine lv_ldc2 hx hb hown (hts _ wk_153) dL_texts_52 ?_
          refine lv_ldc2 hx hb hown (hts _ wk_155) dL_texts_55 ?_
          refine lv_bipush (v := (11 : Int32)) hx hb dL_texts_58 (by decide) ?_
          obtain ⟨q13, u15, h14, hF⟩ := bd2_at hF
          refine scalli (X' := WS cI cZ cS a u15) (va_runS (As := [.ref a.1, .long (8588417472920563773 : Int64), .long (825241648 : Int64), .int (11 : Int32)]) (rest := []) S (KL_isError l hfl D cI cZ cS cJ a u11 (8588417472920563773 : Int64) (825241648 : Int64) (11 : Int32) q13 u15 h14) (va_cwS 4 hts (gd_S wd_733 wd_734 wd_21 wd_735) rfl rfl rfl hdnL_isError ⟨Nat.le_of_ble_eq_true rfl, Nat.le_of_ble_eq_true rfl⟩) (wPreS hK hX hZ hY hS hP hD) rfl rfl hl.1 rfl (lv_room (Nat.le_of_ble_eq_true rfl)) dL_texts_60 ⟨(by show cl + 0 ≤ 85; omega), (by show sl + 0 ≤ 4687; omega)⟩) hS hD (fun H locs hP hS => ?_)
          have hD : va_D A0 (WS cI cZ cS a u15) := WS_D u15 hD
          have hP : va_P D vwCl (WS cI cZ cS a u15) H := hP
          refine lv_if_eq (tgt := 146) hx hb dL_texts_63 (by decide) (fun c16 => ?_) (fun c16 => ?_)
          · have hF := ite_t c16 hF
            refine lv_iconst (v := (0 : Int32)) hx hb dL_texts_146 (by decide) ?_
            cases hF
            exact nretz (by omega) (by omega) (by decide) hx hb hr hlocks hS dL_texts_147
          · have hF := ite_f c16 hF
            refine lv_aload_n hx hb dL_texts_66 rfl (lv_at hl 0 rfl) ?_
            refine lv_ldc2 hx hb hown (hts _ wk_157) dL_texts_67 ?_
            refine lv_lconst (v := 0) hx hb dL_texts_70 (by decide) ?_
            refine lv_bipush (v := (7 : Int32)) hx hb dL_texts_71 (by decide) ?_
            obtain ⟨q17, u19, h18, hF⟩ := bd2_at hF
            refine scalli (X' := WS cI cZ cS a u19) (va_runS (As := [.ref a.1, .long (7147265592162005089 : Int64), .long (0 : Int64), .int (7 : Int32)]) (rest := []) S (KL_isError l hfl D cI cZ cS cJ a u15 (7147265592162005089 : Int64) (0 : Int64) (7 : Int32) q17 u19 h18) (va_cwS 4 hts (gd_S wd_733 wd_734 wd_21 wd_735) rfl rfl rfl hdnL_isError ⟨Nat.le_of_ble_eq_true rfl, Nat.le_of_ble_eq_true rfl⟩) (wPreS hK hX hZ hY hS hP hD) rfl rfl hl.1 rfl (lv_room (Nat.le_of_ble_eq_true rfl)) dL_texts_73 ⟨(by show cl + 0 ≤ 85; omega), (by show sl + 0 ≤ 4687; omega)⟩) hS hD (fun H locs hP hS => ?_)
            have hD : va_D A0 (WS cI cZ cS a u19) := WS_D u19 hD
            have hP : va_P D vwCl (WS cI cZ cS a u19) H := hP
            refine lv_if_eq (tgt := 146) hx hb dL_texts_76 (by decide) (fun c20 => ?_) (fun c20 => ?_)
            · have hF := ite_t c20 hF
              refine lv_iconst (v := (0 : Int32)) hx hb dL_texts_146 (by decide) ?_
              cases hF
              exact nretz (by omega) (by omega) (by decide) hx hb hr hlocks hS dL_texts_147
            · have hF := ite_f c20 hF
              refine lv_aload_n hx hb dL_texts_79 rfl (lv_at hl 0 rfl) ?_
              refine lv_ldc2 hx hb hown (hts _ wk_159) dL_texts_80 ?_
              refine lv_ldc2 hx hb hown (hts _ wk_161) dL_texts_83 ?_
              refine lv_bipush (v := (13 : Int32)) hx hb dL_texts_86 (by decide) ?_
              obtain ⟨q21, u23, h22, hF⟩ := bd2_at hF
              refine scalli (X' := WS cI cZ cS a u23) (va_runS (As := [.ref a.1, .long (8516359878882635821 : Int64), .long (52983525027899 : Int64), .int (13 : Int32)]) (rest := []) S (KL_isError l hfl D cI cZ cS cJ a u19 (8516359878882635821 : Int64) (52983525027899 : Int64) (13 : Int32) q21 u23 h22) (va_cwS 4 hts (gd_S wd_733 wd_734 wd_21 wd_735) rfl rfl rfl hdnL_isError ⟨Nat.le_of_ble_eq_true rfl, Nat.le_of_ble_eq_true rfl⟩) (wPreS hK hX hZ hY hS hP hD) rfl rfl hl.1 rfl (lv_room (Nat.le_of_ble_eq_true rfl)) dL_texts_88 ⟨(by show cl + 0 ≤ 85; omega), (by show sl + 0 ≤ 4687; omega)⟩) hS hD (fun H locs hP hS => ?_)
              have hD : va_D A0 (WS cI cZ cS a u23) := WS_D u23 hD
              have hP : va_P D vwCl (WS cI cZ cS a u23) H := hP
              refine lv_if_eq (tgt := 146) hx hb dL_texts_91 (by decide) (fun c24 => ?_) (fun c24 => ?_)
              · have hF := ite_t c24 hF
                refine lv_iconst (v := (0 : Int32)) hx hb dL_texts_146 (by decide) ?_
                cases hF
                exact nretz (by omega) (by omega) (by decide) hx hb hr hlocks hS dL_texts_147
              · have hF := ite_f c24 hF
                refine lv_aload_n hx hb dL_texts_94 rfl (lv_at hl 0 rfl) ?_
                refine lv_ldc2 hx hb hown (hts _ wk_163) dL_texts_95 ?_
                refine lv_lconst (v := 0) hx hb dL_texts_98 (by decide) ?_
                refine lv_iconst (v := (0 : Int32)) hx hb dL_texts_99 (by decide) ?_
                obtain ⟨q25, u27, h26, hF⟩ := bd2_at hF
                refine scalli (X' := WS cI cZ cS a u27) (va_runS (As := [.ref a.1, .long (120 : Int64), .long (0 : Int64), .int (0 : Int32)]) (rest := []) S (KL_isError l hfl D cI cZ cS cJ a u23 (120 : Int64) (0 : Int64) (0 : Int32) q25 u27 h26) (va_cwS 4 hts (gd_S wd_733 wd_734 wd_21 wd_735) rfl rfl rfl hdnL_isError ⟨Nat.le_of_ble_eq_true rfl, Nat.le_of_ble_eq_true rfl⟩) (wPreS hK hX hZ hY hS hP hD) rfl rfl hl.1 rfl (lv_room (Nat.le_of_ble_eq_true rfl)) dL_texts_100 ⟨(by show cl + 0 ≤ 85; omega), (by show sl + 0 ≤ 4687; omega)⟩) hS hD (fun H locs hP hS => ?_)
                have hD : va_D A0 (WS cI cZ cS a u27) := WS_D u27 hD
                have hP : va_P D vwCl (WS cI cZ cS a u27) H := hP
                refine lv_if_eq (tgt := 146) hx hb dL_texts_103 (by decide) (fun c28 => ?_) (fun c28 => ?_)
                · have hF := ite_t c28 hF
                  refine lv_iconst (v := (0 : Int32)) hx hb dL_texts_146 (by decide) ?_
                  cases hF
                  exact nretz (by omega) (by omega) (by decide) hx hb hr hlocks hS dL_texts_147
                · have hF := ite_f c28 hF
                  refine lv_aload_n hx hb dL_texts_106 rfl (lv_at hl 0 rfl) ?_
                  refine lv_lconst (v := 0) hx hb dL_texts_107 (by decide) ?_
                  refine lv_lconst (v := 0) hx hb dL_texts_108 (by decide) ?_
                  refine lv_iconst (v := (0 : Int32)) hx hb dL_texts_109 (by decide) ?_
                  obtain ⟨q29, u31, h30, hF⟩ := bd2_at hF
                  refine scalli (X' := WS cI cZ cS a u31) (va_runS (As := [.ref a.1, .long (0 : Int64), .long (0 : Int64), .int (0 : Int32)]) (rest := []) S (KL_isError l hfl D cI cZ cS cJ a u27 (0 : Int64) (0 : Int64) (0 : Int32) q29 u31 h30) (va_cwS 4 hts (gd_S wd_733 wd_734 wd_21 wd_735) rfl rfl rfl hdnL_isError ⟨Nat.le_of_ble_eq_true rfl, Nat.le_of_ble_eq_true rfl⟩) (wPreS hK hX hZ hY hS hP hD) rfl rfl hl.1 rfl (lv_room (Nat.le_of_ble_eq_true rfl)) dL_texts_110 ⟨(by show cl + 0 ≤ 85; omega), (by show sl + 0 ≤ 4687; omega)⟩) hS hD (fun H locs hP hS => ?_)
                  have hD : va_D A0 (WS cI cZ cS a u31) := WS_D u31 hD
                  have hP : va_P D vwCl (WS cI cZ cS a u31) H := hP
                  refine lv_if_eq (tgt := 146) hx hb dL_texts_113 (by decide) (fun c32 => ?_) (fun c32 => ?_)
                  · have hF := ite_t c32 hF
                    refine lv_iconst (v := (0 : Int32)) hx hb dL_texts_146 (by decide) ?_
                    cases hF
                    exact nretz (by omega) (by omega) (by decide) hx hb hr hlocks hS dL_texts_147
                  · have hF := ite_f c32 hF
                    refine lv_aload_n hx hb dL_texts_116 rfl (lv_at hl 0 rfl) ?_
                    refine lv_ldc2 hx hb hown (hts _ wk_165) dL_texts_117 ?_
                    refine lv_ldc2 hx hb hown (hts _ wk_167) dL_texts_120 ?_
                    refine lv_bipush (v := (9 : Int32)) hx hb dL_texts_123 (by decide) ?_
                    obtain ⟨q33, u35, h34, hF⟩ := bd2_at hF
                    refine scalli (X' := WS cI cZ cS a u35) (va_runS (As := [.ref a.1, .long (7147265592162005057 : Int64), .long (59 : Int64), .int (9 : Int32)]) (rest := []) S (KL_isError l hfl D cI cZ cS cJ a u31 (7147265592162005057 : Int64) (59 : Int64) (9 : Int32) q33 u35 h34) (va_cwS 4 hts (gd_S wd_733 wd_734 wd_21 wd_735) rfl rfl rfl hdnL_isError ⟨Nat.le_of_ble_eq_true rfl, Nat.le_of_ble_eq_true rfl⟩) (wPreS hK hX hZ hY hS hP hD) rfl rfl hl.1 rfl (lv_room (Nat.le_of_ble_eq_true rfl)) dL_texts_125 ⟨(by show cl + 0 ≤ 85; omega), (by show sl + 0 ≤ 4687; omega)⟩) hS hD (fun H locs hP hS => ?_)
                    have hD : va_D A0 (WS cI cZ cS a u35) := WS_D u35 hD
                    have hP : va_P D vwCl (WS cI cZ cS a u35) H := hP
                    refine lv_if_eq (tgt := 146) hx hb dL_texts_128 (by decide) (fun c36 => ?_) (fun c36 => ?_)
                    · have hF := ite_t c36 hF
                      refine lv_iconst (v := (0 : Int32)) hx hb dL_texts_146 (by decide) ?_
                      cases hF
                      exact nretz (by omega) (by omega) (by decide) hx hb hr hlocks hS dL_texts_147
                    · have hF := ite_f c36 hF
                      refine lv_aload_n hx hb dL_texts_131 rfl (lv_at hl 0 rfl) ?_
                      refine lv_ldc2 hx hb hown (hts _ wk_159) dL_texts_132 ?_
                      refine lv_ldc2 hx hb hown (hts _ wk_169) dL_texts_135 ?_
                      refine lv_bipush (v := (14 : Int32)) hx hb dL_texts_138 (by decide) ?_
                      obtain ⟨q37, u39, h38, hF⟩ := bd2_at hF
                      refine scalli (X' := WS cI cZ cS a u39) (va_runS (As := [.ref a.1, .long (8516359878882635821 : Int64), .long (62917935970617 : Int64), .int (14 : Int32)]) (rest := []) S (KL_isError l hfl D cI cZ cS cJ a u35 (8516359878882635821 : Int64) (62917935970617 : Int64) (14 : Int32) q37 u39 h38) (va_cwS 4 hts (gd_S wd_733 wd_734 wd_21 wd_735) rfl rfl rfl hdnL_isError ⟨Nat.le_of_ble_eq_true rfl, Nat.le_of_ble_eq_true rfl⟩) (wPreS hK hX hZ hY hS hP hD) rfl rfl hl.1 rfl (lv_room (Nat.le_of_ble_eq_true rfl)) dL_texts_140 ⟨(by show cl + 0 ≤ 85; omega), (by show sl + 0 ≤ 4687; omega)⟩) hS hD (fun H locs hP hS => ?_)
                      have hD : va_D A0 (WS cI cZ cS a u39) := WS_D u39 hD
                      have hP : va_P D vwCl (WS cI cZ cS a u39) H := hP
                      refine lv_if_ne (tgt := 148) hx hb dL_texts_143 (by decide) (fun c40 => ?_) (fun c40 => ?_)
                      · have hF := ite_f c40 hF
                        refine lv_aload_n hx hb dL_texts_148 rfl (lv_at hl 0 rfl) ?_
                        refine lv_ldc2 hx hb hown (hts _ wk_147) dL_texts_149 ?_
                        refine lv_ldc2 hx hb hown (hts _ wk_171) dL_texts_152 ?_
                        refine lv_bipush (v := (10 : Int32)) hx hb dL_texts_155 (by decide) ?_
                        obtain ⟨q41, u43, h42, hF⟩ := bd2_at hF
                        refine scalli (X' := WS cI cZ cS a u43) (va_runS (As := [.ref a.1, .long (7075207998124077099 : Int64), .long (13360 : Int64), .int (10 : Int32)]) (rest := []) S (KL_isError l hfl D cI cZ cS cJ a u39 (7075207998124077099 : Int64) (13360 : Int64) (10 : Int32) q41 u43 h42) (va_cwS 4 hts (gd_S wd_733 wd_734 wd_21 wd_735) rfl rfl rfl hdnL_isError ⟨Nat.le_of_ble_eq_true rfl, Nat.le_of_ble_eq_true rfl⟩) (wPreS hK hX hZ hY hS hP hD) rfl rfl hl.1 rfl (lv_room (Nat.le_of_ble_eq_true rfl)) dL_texts_157 ⟨(by show cl + 0 ≤ 85; omega), (by show sl + 0 ≤ 4687; omega)⟩) hS hD (fun H locs hP hS => ?_)
                        have hD : va_D A0 (WS cI cZ cS a u43) := WS_D u43 hD
                        have hP : va_P D vwCl (WS cI cZ cS a u43) H := hP
                        refine lv_if_eq (tgt := 274) hx hb dL_texts_160 (by decide) (fun c44 => ?_) (fun c44 => ?_)
                        · have hF := ite_t c44 hF
                          refine lv_iconst (v := (0 : Int32)) hx hb dL_texts_274 (by decide) ?_
                          cases hF
                          exact nretz (by omega) (by omega) (by decide) hx hb hr hlocks hS dL_texts_275
                        · have hF := ite_f c44 hF
                          refine lv_aload_n hx hb dL_texts_163 rfl (lv_at hl 0 rfl) ?_
                          refine lv_ldc2 hx hb hown (hts _ wk_153) dL_texts_164 ?_
                          refine lv_ldc2 hx hb hown (hts _ wk_149) dL_texts_167 ?_
                          refine lv_bipush (v := (8 : Int32)) hx hb dL_texts_170 (by decide) ?_
                          obtain ⟨q45, u47, h46, hF⟩ := bd2_at hF
                          refine scalli (X' := WS cI cZ cS a u47) (va_runS (As := [.ref a.1, .long (8588417472920563773 : Int64), .long (48 : Int64), .int (8 : Int32)]) (rest := []) S (KL_isError l hfl D cI cZ cS cJ a u43 (8588417472920563773 : Int64) (48 : Int64) (8 : Int32) q45 u47 h46) (va_cwS 4 hts (gd_S wd_733 wd_734 wd_21 wd_735) rfl rfl rfl hdnL_isError ⟨Nat.le_of_ble_eq_true rfl, Nat.le_of_ble_eq_true rfl⟩) (wPreS hK hX hZ hY hS hP hD) rfl rfl hl.1 rfl (lv_room (Nat.le_of_ble_eq_true rfl)) dL_texts_172 ⟨(by show cl + 0 ≤ 85; omega), (by show sl + 0 ≤ 4687; omega)⟩) hS hD (fun H locs hP hS => ?_)
                          have hD : va_D A0 (WS cI cZ cS a u47) := WS_D u47 hD
                          have hP : va_P D vwCl (WS cI cZ cS a u47) H := hP
                          refine lv_if_eq (tgt := 274) hx hb dL_texts_175 (by decide) (fun c48 => ?_) (fun c48 => ?_)
                          · have hF := ite_t c48 hF
                            refine lv_iconst (v := (0 : Int32)) hx hb dL_texts_274 (by decide) ?_
                            cases hF
                            exact nretz (by omega) (by omega) (by decide) hx hb hr hlocks hS dL_texts_275
                          · have hF := ite_f c48 hF
                            refine lv_aload_n hx hb dL_texts_178 rfl (lv_at hl 0 rfl) ?_
                            refine lv_ldc2 hx hb hown (hts _ wk_153) dL_texts_179 ?_
                            refine lv_ldc2 hx hb hown (hts _ wk_173) dL_texts_182 ?_
                            refine lv_bipush (v := (8 : Int32)) hx hb dL_texts_185 (by decide) ?_
                            obtain ⟨q49, u51, h50, hF⟩ := bd2_at hF
                            refine scalli (X' := WS cI cZ cS a u51) (va_runS (As := [.ref a.1, .long (8588417472920563773 : Int64), .long (12341 : Int64), .int (8 : Int32)]) (rest := []) S (KL_isError l hfl D cI cZ cS cJ a u47 (8588417472920563773 : Int64) (12341 : Int64) (8 : Int32) q49 u51 h50) (va_cwS 4 hts (gd_S wd_733 wd_734 wd_21 wd_735) rfl rfl rfl hdnL_isError ⟨Nat.le_of_ble_eq_true rfl, Nat.le_of_ble_eq_true rfl⟩) (wPreS hK hX hZ hY hS hP hD) rfl rfl hl.1 rfl (lv_room (Nat.le_of_ble_eq_true rfl)) dL_texts_187 ⟨(by show cl + 0 ≤ 85; omega), (by show sl + 0 ≤ 4687; omega)⟩) hS hD (fun H locs hP hS => ?_)
                            have hD : va_D A0 (WS cI cZ cS a u51) := WS_D u51 hD
                            have hP : va_P D vwCl (WS cI cZ cS a u51) H := hP
                            refine lv_if_eq (tgt := 274) hx hb dL_texts_190 (by decide) (fun c52 => ?_) (fun c52 => ?_)
                            · have hF := ite_t c52 hF
                              refine lv_iconst (v := (0 : Int32)) hx hb dL_texts_274 (by decide) ?_
                              cases hF
                              exact nretz (by omega) (by omega) (by decide) hx hb hr hlocks hS dL_texts_275
                            · have hF := ite_f c52 hF
                              refine lv_aload_n hx hb dL_texts_193 rfl (lv_at hl 0 rfl) ?_
                              refine lv_ldc2 hx hb hown (hts _ wk_175) dL_texts_194 ?_
                              refine lv_lconst (v := 0) hx hb dL_texts_197 (by decide) ?_
                              refine lv_bipush (v := (7 : Int32)) hx hb dL_texts_198 (by decide) ?_
                              obtain ⟨q53, u55, h54, hF⟩ := bd2_at hF
                              refine scalli (X' := WS cI cZ cS a u55) (va_runS (As := [.ref a.1, .long (8588417472920563770 : Int64), .long (0 : Int64), .int (7 : Int32)]) (rest := []) S (KL_isError l hfl D cI cZ cS cJ a u51 (8588417472920563770 : Int64) (0 : Int64) (7 : Int32) q53 u55 h54) (va_cwS 4 hts (gd_S wd_733 wd_734 wd_21 wd_735) rfl rfl rfl hdnL_isError ⟨Nat.le_of_ble_eq_true rfl, Nat.le_of_ble_eq_true rfl⟩) (wPreS hK hX hZ hY hS hP hD) rfl rfl hl.1 rfl (lv_room (Nat.le_of_ble_eq_true rfl)) dL_texts_200 ⟨(by show cl + 0 ≤ 85; omega), (by show sl + 0 ≤ 4687; omega)⟩) hS hD (fun H locs hP hS => ?_)
                              have hD : va_D A0 (WS cI cZ cS a u55) := WS_D u55 hD
                              have hP : va_P D vwCl (WS cI cZ cS a u55) H := hP
                              refine lv_if_eq (tgt := 274) hx hb dL_texts_203 (by decide) (fun c56 => ?_) (fun c56 => ?_)
                              · have hF := ite_t c56 hF
                                refine lv_iconst (v := (0 : Int32)) hx hb dL_texts_274 (by decide) ?_
                                cases hF
                                exact nretz (by omega) (by omega) (by decide) hx hb hr hlocks hS dL_texts_275
                              · have hF := ite_f c56 hF
                                refine lv_aload_n hx hb dL_texts_206 rfl (lv_at hl 0 rfl) ?_
                                refine lv_ldc2 hx hb hown (hts _ wk_177) dL_texts_207 ?_
                                refine lv_lconst (v := 0) hx hb dL_texts_210 (by decide) ?_
                                refine lv_bipush (v := (6 : Int32)) hx hb dL_texts_211 (by decide) ?_
                                obtain ⟨q57, u59, h58, hF⟩ := bd2_at hF
                                refine scalli (X' := WS cI cZ cS a u59) (va_runS (As := [.ref a.1, .long (27919006219382849 : Int64), .long (0 : Int64), .int (6 : Int32)]) (rest := []) S (KL_isError l hfl D cI cZ cS cJ a u55 (27919006219382849 : Int64) (0 : Int64) (6 : Int32) q57 u59 h58) (va_cwS 4 hts (gd_S wd_733 wd_734 wd_21 wd_735) rfl rfl rfl hdnL_isError ⟨Nat.le_of_ble_eq_true rfl, Nat.le_of_ble_eq_true rfl⟩) (wPreS hK hX hZ hY hS hP hD) rfl rfl hl.1 rfl (lv_room (Nat.le_of_ble_eq_true rfl)) dL_texts_213 ⟨(by show cl + 0 ≤ 85; omega), (by show sl + 0 ≤ 4687; omega)⟩) hS hD (fun H locs hP hS => ?_)
                                have hD : va_D A0 (WS cI cZ cS a u59) := WS_D u59 hD
                                have hP : va_P D vwCl (WS cI cZ cS a u59) H := hP
                                refine lv_if_eq (tgt := 274) hx hb dL_texts_216 (by decide) (fun c60 => ?_) (fun c60 => ?_)
                                · have hF := ite_t c60 hF
                                  refine lv_iconst (v := (0 : Int32)) hx hb dL_texts_274 (by decide) ?_
                                  cases hF
                                  exact nretz (by omega) (by omega) (by decide) hx hb hr hlocks hS dL_texts_275
                                · have hF := ite_f c60 hF
                                  refine lv_aload_n hx hb dL_texts_219 rfl (lv_at hl 0 rfl) ?_
                                  refine lv_ldc2 hx hb hown (hts _ wk_165) dL_texts_220 ?_
                                  refine lv_ldc2 hx hb hown (hts _ wk_179) dL_texts_223 ?_
                                  refine lv_bipush (v := (8 : Int32)) hx hb dL_texts_226 (by decide) ?_
                                  obtain ⟨q61, u63, h62, hF⟩ := bd2_at hF
                                  refine scalli (X' := WS cI cZ cS a u63) (va_runS (As := [.ref a.1, .long (7147265592162005057 : Int64), .long (65 : Int64), .int (8 : Int32)]) (rest := []) S (KL_isError l hfl D cI cZ cS cJ a u59 (7147265592162005057 : Int64) (65 : Int64) (8 : Int32) q61 u63 h62) (va_cwS 4 hts (gd_S wd_733 wd_734 wd_21 wd_735) rfl rfl rfl hdnL_isError ⟨Nat.le_of_ble_eq_true rfl, Nat.le_of_ble_eq_true rfl⟩) (wPreS hK hX hZ hY hS hP hD) rfl rfl hl.1 rfl (lv_room (Nat.le_of_ble_eq_true rfl)) dL_texts_228 ⟨(by show cl + 0 ≤ 85; omega), (by show sl + 0 ≤ 4687; omega)⟩) hS hD (fun H locs hP hS => ?_)
                                  have hD : va_D A0 (WS cI cZ cS a u63) := WS_D u63 hD
                                  have hP : va_P D vwCl (WS cI cZ cS a u63) H := hP
                                  refine lv_if_eq (tgt := 274) hx hb dL_texts_231 (by decide) (fun c64 => ?_) (fun c64 => ?_)
                                  · have hF := ite_t c64 hF
                                    refine lv_iconst (v := (0 : Int32)) hx hb dL_texts_274 (by decide) ?_
                                    cases hF
                                    exact nretz (by omega) (by omega) (by decide) hx hb hr hlocks hS dL_texts_275
                                  · have hF := ite_f c64 hF
                                    refine lv_aload_n hx hb dL_texts_234 rfl (lv_at hl 0 rfl) ?_
                                    refine lv_ldc2 hx hb hown (hts _ wk_147) dL_texts_235 ?_
                                    refine lv_ldc2 hx hb hown (hts _ wk_181) dL_texts_238 ?_
                                    refine lv_bipush (v := (10 : Int32)) hx hb dL_texts_241 (by decide) ?_
                                    obtain ⟨q65, u67, h66, hF⟩ := bd2_at hF
                                    refine scalli (X' := WS cI cZ cS a u67) (va_runS (As := [.ref a.1, .long (7075207998124077099 : Int64), .long (3423035 : Int64), .int (10 : Int32)]) (rest := []) S (KL_isError l hfl D cI cZ cS cJ a u63 (7075207998124077099 : Int64) (3423035 : Int64) (10 : Int32) q65 u67 h66) (va_cwS 4 hts (gd_S wd_733 wd_734 wd_21 wd_735) rfl rfl rfl hdnL_isError ⟨Nat.le_of_ble_eq_true rfl, Nat.le_of_ble_eq_true rfl⟩) (wPreS hK hX hZ hY hS hP hD) rfl rfl hl.1 rfl (lv_room (Nat.le_of_ble_eq_true rfl)) dL_texts_243 ⟨(by show cl + 0 ≤ 85; omega), (by show sl + 0 ≤ 4687; omega)⟩) hS hD (fun H locs hP hS => ?_)
                                    have hD : va_D A0 (WS cI cZ cS a u67) := WS_D u67 hD
                                    have hP : va_P D vwCl (WS cI cZ cS a u67) H := hP
                                    refine lv_if_eq (tgt := 274) hx hb dL_texts_246 (by decide) (fun c68 => ?_) (fun c68 => ?_)
                                    · have hF := ite_t c68 hF
                                      refine lv_iconst (v := (0 : Int32)) hx hb dL_texts_274 (by decide) ?_
                                      cases hF
                                      exact nretz (by omega) (by omega) (by decide) hx hb hr hlocks hS dL_texts_275
                                    · have hF := ite_f c68 hF
                                      refine lv_aload_n hx hb dL_texts_249 rfl (lv_at hl 0 rfl) ?_
                                      refine lv_ldc2 hx hb hown (hts _ wk_183) dL_texts_250 ?_
                                      refine lv_lconst (v := 0) hx hb dL_texts_253 (by decide) ?_
                                      refine lv_bipush (v := (7 : Int32)) hx hb dL_texts_254 (by decide) ?_
                                      obtain ⟨q69, u71, h70, hF⟩ := bd2_at hF
                                      refine scalli (X' := WS cI cZ cS a u71) (va_runS (As := [.ref a.1, .long (8516359878882635819 : Int64), .long (0 : Int64), .int (7 : Int32)]) (rest := []) S (KL_isError l hfl D cI cZ cS cJ a u67 (8516359878882635819 : Int64) (0 : Int64) (7 : Int32) q69 u71 h70) (va_cwS 4 hts (gd_S wd_733 wd_734 wd_21 wd_735) rfl rfl rfl hdnL_isError ⟨Nat.le_of_ble_eq_true rfl, Nat.le_of_ble_eq_true rfl⟩) (wPreS hK hX hZ hY hS hP hD) rfl rfl hl.1 rfl (lv_room (Nat.le_of_ble_eq_true rfl)) dL_texts_256 ⟨(by show cl + 0 ≤ 85; omega), (by show sl + 0 ≤ 4687; omega)⟩) hS hD (fun H locs hP hS => ?_)
                                      have hD : va_D A0 (WS cI cZ cS a u71) := WS_D u71 hD
                                      have hP : va_P D vwCl (WS cI cZ cS a u71) H := hP
                                      refine lv_if_eq (tgt := 274) hx hb dL_texts_259 (by decide) (fun c72 => ?_) (fun c72 => ?_)
                                      · have hF := ite_t c72 hF
                                        refine lv_iconst (v := (0 : Int32)) hx hb dL_texts_274 (by decide) ?_
                                        cases hF
                                        exact nretz (by omega) (by omega) (by decide) hx hb hr hlocks hS dL_texts_275
                                      · have hF := ite_f c72 hF
                                        refine lv_aload_n hx hb dL_texts_262 rfl (lv_at hl 0 rfl) ?_
                                        refine lv_ldc2 hx hb hown (hts _ wk_185) dL_texts_263 ?_
                                        refine lv_lconst (v := 0) hx hb dL_texts_266 (by decide) ?_
                                        refine lv_iconst (v := (0 : Int32)) hx hb dL_texts_267 (by decide) ?_
                                        obtain ⟨q73, u75, h74, hF⟩ := bd2_at hF
                                        refine scalli (X' := WS cI cZ cS a u75) (va_runS (As := [.ref a.1, .long (67 : Int64), .long (0 : Int64), .int (0 : Int32)]) (rest := []) S (KL_isError l hfl D cI cZ cS cJ a u71 (67 : Int64) (0 : Int64) (0 : Int32) q73 u75 h74) (va_cwS 4 hts (gd_S wd_733 wd_734 wd_21 wd_735) rfl rfl rfl hdnL_isError ⟨Nat.le_of_ble_eq_true rfl, Nat.le_of_ble_eq_true rfl⟩) (wPreS hK hX hZ hY hS hP hD) rfl rfl hl.1 rfl (lv_room (Nat.le_of_ble_eq_true rfl)) dL_texts_268 ⟨(by show cl + 0 ≤ 85; omega), (by show sl + 0 ≤ 4687; omega)⟩) hS hD (fun H locs hP hS => ?_)
                                        have hD : va_D A0 (WS cI cZ cS a u75) := WS_D u75 hD
                                        have hP : va_P D vwCl (WS cI cZ cS a u75) H := hP
                                        refine lv_if_ne (tgt := 276) hx hb dL_texts_271 (by decide) (fun c76 => ?_) (fun c76 => ?_)
                                        · have hF := ite_f c76 hF
                                          refine lv_aload_n hx hb dL_texts_276 rfl (lv_at hl 0 rfl) ?_
                                          obtain ⟨q77, u78, h79, hF⟩ := bd2_at hF
                                          refine scalli (X' := WS cI cZ cS a u78) (va_runV (As := []) (rest := []) S (NS_clearBuffer l D cI cZ cS cJ a u75 q77 u78 h79) (cwV 0 hts (gd_V wd_736 wd_737 wd_738 wd_22 wd_739) rfl rfl rfl hd5_clearBuffer ⟨Nat.le_of_ble_eq_true rfl, Nat.le_of_ble_eq_true rfl⟩) (uPreV hK hP hD (ci := 5) (q := (RX5, TX5, 3)) (WS_0 cI cZ cS a u75) rfl) rfl rfl hl.1 rfl (lv_room (Nat.le_of_ble_eq_true rfl)) dL_texts_277 ⟨(by show cl + 0 ≤ 85; omega), (by show sl + 0 ≤ 4687; omega)⟩) hS hD (fun H locs hP hS => ?_)
                                          have hD : va_D A0 (WS cI cZ cS a u78) := WS_D u78 hD
                                          have hP : va_P D vwCl (WS cI cZ cS a u78) H := hP
                                          refine lv_iconst (v := (1 : Int32)) hx hb dL_texts_280 (by decide) ?_
                                          refine lv_icmp_ne (tgt := 606) hx hb dL_texts_281 (by decide) (fun c80 => ?_) (fun c80 => ?_)
                                          · have hF := ite_f c80 hF
                                            refine lv_iconst (v := (0 : Int32)) hx hb dL_texts_606 (by decide) ?_
                                            cases hF
                                            exact nretz (by omega) (by omega) (by decide) hx hb hr hlocks hS dL_texts_607
                                          · have hF := ite_t c80 hF
                                            refine lv_aload_n hx hb dL_texts_284 rfl (lv_at hl 0 rfl) ?_
                                            refine lv_ldc2 hx hb hown (hts _ wk_187) dL_texts_285 ?_
                                            obtain ⟨q81, u83, h82, hF⟩ := bd2_at hF
                                            refine scalli (X' := WS cI cZ cS a u83) (va_runS (As := [.ref a.1, .long (7075207998157631531 : Int64)]) (rest := []) S (KL_types l hfl D cI cZ cS cJ a u78 (7075207998157631531 : Int64) q81 u83 h82) (va_cwS 2 hts (gd_S wd_740 wd_741 wd_21 wd_742) rfl rfl rfl hdnL_types ⟨Nat.le_of_ble_eq_true rfl, Nat.le_of_ble_eq_true rfl⟩) (wPreS hK hX hZ hY hS hP hD) rfl rfl hl.1 rfl (lv_room (Nat.le_of_ble_eq_true rfl)) dL_texts_288 ⟨(by show cl + 0 ≤ 85; omega), (by show sl + 0 ≤ 4687; omega)⟩) hS hD (fun H locs hP hS => ?_)
                                            have hD : va_D A0 (WS cI cZ cS a u83) := WS_D u83 hD
                                            have hP : va_P D vwCl (WS cI cZ cS a u83) H := hP
                                            refine lv_if_eq (tgt := 606) hx hb dL_texts_291 (by decide) (fun c84 => ?_) (fun c84 => ?_)
                                            · have hF := ite_t c84 hF
                                              refine lv_iconst (v := (0 : Int32)) hx hb dL_texts_606 (by decide) ?_
                                              cases hF
                                              exact nretz (by omega) (by omega) (by decide) hx hb hr hlocks hS dL_texts_607
                                            · have hF := ite_f c84 hF
                                              refine lv_aload_n hx hb dL_texts_294 rfl (lv_at hl 0 rfl) ?_
                                              refine lv_ldc2 hx hb hown (hts _ wk_189) dL_texts_295 ?_
                                              obtain ⟨q85, u87, h86, hF⟩ := bd2_at hF
                                              refine scalli (X' := WS cI cZ cS a u87) (va_runS (As := [.ref a.1, .long (3691675368410853936 : Int64)]) (rest := []) S (KL_types l hfl D cI cZ cS cJ a u83 (3691675368410853936 : Int64) q85 u87 h86) (va_cwS 2 hts (gd_S wd_740 wd_741 wd_21 wd_742) rfl rfl rfl hdnL_types ⟨Nat.le_of_ble_eq_true rfl, Nat.le_of_ble_eq_true rfl⟩) (wPreS hK hX hZ hY hS hP hD) rfl rfl hl.1 rfl (lv_room (Nat.le_of_ble_eq_true rfl)) dL_texts_298 ⟨(by show cl + 0 ≤ 85; omega), (by show sl + 0 ≤ 4687; omega)⟩) hS hD (fun H locs hP hS => ?_)
                                              have hD : va_D A0 (WS cI cZ cS a u87) := WS_D u87 hD
                                              have hP : va_P D vwCl (WS cI cZ cS a u87) H := hP
                                              refine lv_if_eq (tgt := 606) hx hb dL_texts_301 (by decide) (fun c88 => ?_) (fun c88 => ?_)
                                              · have hF := ite_t c88 hF
                                                refine lv_iconst (v := (0 : Int32)) hx hb dL_texts_606 (by decide) ?_
                                                cases hF
                                                exact nretz (by omega) (by omega) (by decide) hx hb hr hlocks hS dL_texts_607
                                              · have hF := ite_f c88 hF
                                                refine lv_aload_n hx hb dL_texts_304 rfl (lv_at hl 0 rfl) ?_
                                                refine lv_ldc2 hx hb hown (hts _ wk_191) dL_texts_305 ?_
                                                obtain ⟨q89, u91, h90, hF⟩ := bd2_at hF
                                                refine scalli (X' := WS cI cZ cS a u91) (va_runS (As := [.ref a.1, .long (3548052761732132912 : Int64)]) (rest := []) S (KL_types l hfl D cI cZ cS cJ a u87 (3548052761732132912 : Int64) q89 u91 h90) (va_cwS 2 hts (gd_S wd_740 wd_741 wd_21 wd_742) rfl rfl rfl hdnL_types ⟨Nat.le_of_ble_eq_true rfl, Nat.le_of_ble_eq_true rfl⟩) (wPreS hK hX hZ hY hS hP hD) rfl rfl hl.1 rfl (lv_room (Nat.le_of_ble_eq_true rfl)) dL_texts_308 ⟨(by show cl + 0 ≤ 85; omega), (by show sl + 0 ≤ 4687; omega)⟩) hS hD (fun H locs hP hS => ?_)
                                                have hD : va_D A0 (WS cI cZ cS a u91) := WS_D u91 hD
                                                have hP : va_P D vwCl (WS cI cZ cS a u91) H := hP
                                                refine lv_if_eq (tgt := 606) hx hb dL_texts_311 (by decide) (fun c92 => ?_) (fun c92 => ?_)
                                                · have hF := ite_t c92 hF
                                                  refine lv_iconst (v := (0 : Int32)) hx hb dL_texts_606 (by decide) ?_
                                                  cases hF
                                                  exact nretz (by omega) (by omega) (by decide) hx hb hr hlocks hS dL_texts_607
                                                · have hF := ite_f c92 hF
                                                  refine lv_aload_n hx hb dL_texts_314 rfl (lv_at hl 0 rfl) ?_
                                                  refine lv_ldc2 hx hb hown (hts _ wk_193) dL_texts_315 ?_
                                                  obtain ⟨q93, u95, h94, hF⟩ := bd2_at hF
                                                  refine scalli (X' := WS cI cZ cS a u95) (va_runS (As := [.ref a.1, .long (207000449348 : Int64)]) (rest := []) S (KL_types l hfl D cI cZ cS cJ a u91 (207000449348 : Int64) q93 u95 h94) (va_cwS 2 hts (gd_S wd_740 wd_741 wd_21 wd_742) rfl rfl rfl hdnL_types ⟨Nat.le_of_ble_eq_true rfl, Nat.le_of_ble_eq_true rfl⟩) (wPreS hK hX hZ hY hS hP hD) rfl rfl hl.1 rfl (lv_room (Nat.le_of_ble_eq_true rfl)) dL_texts_318 ⟨(by show cl + 0 ≤ 85; omega), (by show sl + 0 ≤ 4687; omega)⟩) hS hD (fun H locs hP hS => ?_)
                                                  have hD : va_D A0 (WS cI cZ cS a u95) := WS_D u95 hD
                                                  have hP : va_P D vwCl (WS cI cZ cS a u95) H := hP
                                                  refine lv_if_eq (tgt := 606) hx hb dL_texts_321 (by decide) (fun c96 => ?_) (fun c96 => ?_)
                                                  · have hF := ite_t c96 hF
                                                    refine lv_iconst (v := (0 : Int32)) hx hb dL_texts_606 (by decide) ?_
                                                    cases hF
                                                    exact nretz (by omega) (by omega) (by decide) hx hb hr hlocks hS dL_texts_607
                                                  · have hF := ite_f c96 hF
                                                    refine lv_aload_n hx hb dL_texts_324 rfl (lv_at hl 0 rfl) ?_
                                                    refine lv_bipush (v := (11 : Int32)) hx hb dL_texts_325 (by decide) ?_
                                                    obtain ⟨k97, q98, h99, hF⟩ := bd2_at hF
                                                    obtain ⟨g100, hF⟩ := gd_at hF
                                                    rw [g100] at h99
                                                    refine rcall (va_runV (As := [.int (11 : Int32)]) (rest := []) S (NS_count l D cI cZ cS cJ a u95 (11 : Int32) q98 h99) (cwV 1 hts (gd_V wd_413 wd_414 wd_415 wd_22 wd_416) rfl rfl rfl hd5_count ⟨Nat.le_of_ble_eq_true rfl, Nat.le_of_ble_eq_true rfl⟩) (rPreV hK hP (ci := 5) (q := (RX5, TX5, 3)) (WS_0 cI cZ cS a u95) rfl) rfl rfl hl.1 rfl (lv_room (Nat.le_of_ble_eq_true rfl)) dL_texts_327 ⟨(by show cl + 0 ≤ 85; omega), (by show sl + 0 ≤ 4687; omega)⟩) ?_
                                                    refine lv_bipush (v := (29 : Int32)) hx hb dL_texts_330 (by decide) ?_
                                                    refine lv_icmp_ne (tgt := 606) hx hb dL_texts_332 (by decide) (fun c101 => ?_) (fun c101 => ?_)
                                                    · have hF := ite_f c101 hF
                                                      refine lv_iconst (v := (0 : Int32)) hx hb dL_texts_606 (by decide) ?_
                                                      cases hF
                                                      exact nretz (by omega) (by omega) (by decide) hx hb hr hlocks hS dL_texts_607
                                                    · have hF := ite_t c101 hF
                                                      refine lv_aload_n hx hb dL_texts_335 rfl (lv_at hl 0 rfl) ?_
                                                      obtain ⟨k102, q103, u104, h105, hF⟩ := bd3_at hF
                                                      obtain ⟨g106, hF⟩ := gd_at hF
                                                      rw [g106] at h105
                                                      refine scalli (X' := WS cI cZ cS a u104) (va_runV (As := []) (rest := []) S (NS_execute l D cI cZ cS cJ a u95 q103 u104 h105) (cwV 0 hts (gd_V wd_507 wd_508 wd_509 wd_22 wd_510) rfl rfl rfl hd5_execute ⟨Nat.le_of_ble_eq_true rfl, Nat.le_of_ble_eq_true rfl⟩) (uPreV hK hP hD (ci := 5) (q := (RX5, TX5, 3)) (WS_0 cI cZ cS a u95) rfl) rfl rfl hl.1 rfl (lv_room (Nat.le_of_ble_eq_true rfl)) dL_texts_336 ⟨(by show cl + 0 ≤ 85; omega), (by show sl + 0 ≤ 4687; omega)⟩) hS hD (fun H locs hP hS => ?_)
                                                      have hD : va_D A0 (WS cI cZ cS a u104) := WS_D u104 hD
                                                      have hP : va_P D vwCl (WS cI cZ cS a u104) H := hP
                                                      refine lv_iconst (v := (3 : Int32)) hx hb dL_texts_339 (by decide) ?_
                                                      refine lv_icmp_ne (tgt := 606) hx hb dL_texts_340 (by decide) (fun c107 => ?_) (fun c107 => ?_)
                                                      · have hF := ite_f c107 hF
                                                        refine lv_iconst (v := (0 : Int32)) hx hb dL_texts_606 (by decide) ?_
                                                        cases hF
                                                        exact nretz (by omega) (by omega) (by decide) hx hb hr hlocks hS dL_texts_607
                                                      · have hF := ite_t c107 hF
                                                        refine lv_aload_n hx hb dL_texts_343 rfl (lv_at hl 0 rfl) ?_
                                                        refine lv_bipush (v := (11 : Int32)) hx hb dL_texts_344 (by decide) ?_
                                                        obtain ⟨k108, q109, h110, hF⟩ := bd2_at hF
                                                        obtain ⟨g111, hF⟩ := gd_at hF
                                                        rw [g111] at h110
                                                        refine rcall (va_runV (As := [.int (11 : Int32)]) (rest := []) S (NS_count l D cI cZ cS cJ a u104 (11 : Int32) q109 h110) (cwV 1 hts (gd_V wd_413 wd_414 wd_415 wd_22 wd_416) rfl rfl rfl hd5_count ⟨Nat.le_of_ble_eq_true rfl, Nat.le_of_ble_eq_true rfl⟩) (rPreV hK hP (ci := 5) (q := (RX5, TX5, 3)) (WS_0 cI cZ cS a u104) rfl) rfl rfl hl.1 rfl (lv_room (Nat.le_of_ble_eq_true rfl)) dL_texts_346 ⟨(by show cl + 0 ≤ 85; omega), (by show sl + 0 ≤ 4687; omega)⟩) ?_
                                                        refine lv_if_ne (tgt := 606) hx hb dL_texts_349 (by decide) (fun c112 => ?_) (fun c112 => ?_)
                                                        · have hF := ite_f c112 hF
                                                          refine lv_iconst (v := (0 : Int32)) hx hb dL_texts_606 (by decide) ?_
                                                          cases hF
                                                          exact nretz (by omega) (by omega) (by decide) hx hb hr hlocks hS dL_texts_607
                                                        · have hF := ite_t c112 hF
                                                          refine lv_aload_n hx hb dL_texts_352 rfl (lv_at hl 0 rfl) ?_
                                                          refine lv_sipush (v := (201 : Int32)) hx hb dL_texts_353 (by decide) ?_
                                                          refine lv_iconst (v := (0 : Int32)) hx hb dL_texts_356 (by decide) ?_
                                                          obtain ⟨k113, q114, h115, hF⟩ := bd2_at hF
                                                          obtain ⟨g116, hF⟩ := gd_at hF
                                                          rw [g116] at h115
                                                          refine rcall (va_runV (As := [.int (201 : Int32), .int (0 : Int32)]) (rest := []) S (NS_cheque l D cI cZ cS cJ a u104 (201 : Int32) (0 : Int32) q114 h115) (cwV 2 hts (gd_V wd_572 wd_573 wd_574 wd_22 wd_575) rfl rfl rfl hd5_cheque ⟨Nat.le_of_ble_eq_true rfl, Nat.le_of_ble_eq_true rfl⟩) (rPreV hK hP (ci := 5) (q := (RX5, TX5, 3)) (WS_0 cI cZ cS a u104) rfl) rfl rfl hl.1 rfl (lv_room (Nat.le_of_ble_eq_true rfl)) dL_texts_357 ⟨(by show cl + 0 ≤ 85; omega), (by show sl + 0 ≤ 4687; omega)⟩) ?_
                                                          refine lv_iconst (v := (2 : Int32)) hx hb dL_texts_360 (by decide) ?_
                                                          refine lv_icmp_ne (tgt := 606) hx hb dL_texts_361 (by decide) (fun c117 => ?_) (fun c117 => ?_)
                                                          · have hF := ite_f c117 hF
                                                            refine lv_iconst (v := (0 : Int32)) hx hb dL_texts_606 (by decide) ?_
                                                            cases hF
                                                            exact nretz (by omega) (by omega) (by decide) hx hb hr hlocks hS dL_texts_607
                                                          · have hF := ite_t c117 hF
                                                            refine lv_aload_n hx hb dL_texts_364 rfl (lv_at hl 0 rfl) ?_
                                                            refine lv_bipush (v := (7 : Int32)) hx hb dL_texts_365 (by decide) ?_
                                                            obtain ⟨k118, q119, h120, hF⟩ := bd2_at hF
                                                            obtain ⟨g121, hF⟩ := gd_at hF
                                                            rw [g121] at h120
                                                            refine rcall (va_runV (As := [.int (7 : Int32)]) (rest := []) S (NS_count l D cI cZ cS cJ a u104 (7 : Int32) q119 h120) (cwV 1 hts (gd_V wd_413 wd_414 wd_415 wd_22 wd_416) rfl rfl rfl hd5_count ⟨Nat.le_of_ble_eq_true rfl, Nat.le_of_ble_eq_true rfl⟩) (rPreV hK hP (ci := 5) (q := (RX5, TX5, 3)) (WS_0 cI cZ cS a u104) rfl) rfl rfl hl.1 rfl (lv_room (Nat.le_of_ble_eq_true rfl)) dL_texts_367 ⟨(by show cl + 0 ≤ 85; omega), (by show sl + 0 ≤ 4687; omega)⟩) ?_
                                                            refine lv_bipush (v := (70 : Int32)) hx hb dL_texts_370 (by decide) ?_
                                                            refine lv_icmp_ne (tgt := 606) hx hb dL_texts_372 (by decide) (fun c122 => ?_) (fun c122 => ?_)
                                                            · have hF := ite_f c122 hF
                                                              refine lv_iconst (v := (0 : Int32)) hx hb dL_texts_606 (by decide) ?_
                                                              cases hF
                                                              exact nretz (by omega) (by omega) (by decide) hx hb hr hlocks hS dL_texts_607
                                                            · have hF := ite_t c122 hF
                                                              refine lv_aload_n hx hb dL_texts_375 rfl (lv_at hl 0 rfl) ?_
                                                              refine lv_ldc2 hx hb hown (hts _ wk_195) dL_texts_376 ?_
                                                              obtain ⟨q123, u125, h124, hF⟩ := bd2_at hF
                                                              refine scalli (X' := WS cI cZ cS a u125) (va_runS (As := [.ref a.1, .long (7147265592195560002 : Int64)]) (rest := []) S (KL_types l hfl D cI cZ cS cJ a u104 (7147265592195560002 : Int64) q123 u125 h124) (va_cwS 2 hts (gd_S wd_740 wd_741 wd_21 wd_742) rfl rfl rfl hdnL_types ⟨Nat.le_of_ble_eq_true rfl, Nat.le_of_ble_eq_true rfl⟩) (wPreS hK hX hZ hY hS hP hD) rfl rfl hl.1 rfl (lv_room (Nat.le_of_ble_eq_true rfl)) dL_texts_379 ⟨(by show cl + 0 ≤ 85; omega), (by show sl + 0 ≤ 4687; omega)⟩) hS hD (fun H locs hP hS => ?_)
                                                              have hD : va_D A0 (WS cI cZ cS a u125) := WS_D u125 hD
                                                              have hP : va_P D vwCl (WS cI cZ cS a u125) H := hP
                                                              refine lv_if_eq (tgt := 606) hx hb dL_texts_382 (by decide) (fun c126 => ?_) (fun c126 => ?_)
                                                              · have hF := ite_t c126 hF
                                                                refine lv_iconst (v := (0 : Int32)) hx hb dL_texts_606 (by decide) ?_
                                                                cases hF
                                                                exact nretz (by omega) (by omega) (by decide) hx hb hr hlocks hS dL_texts_607
                                                              · have hF := ite_f c126 hF
                                                                refine lv_aload_n hx hb dL_texts_385 rfl (lv_at hl 0 rfl) ?_
                                                                refine lv_ldc2 hx hb hown (hts _ wk_197) dL_texts_386 ?_
                                                                obtain ⟨q127, u129, h128, hF⟩ := bd2_at hF
                                                                refine scalli (X' := WS cI cZ cS a u129) (va_runS (As := [.ref a.1, .long (4279035579480617008 : Int64)]) (rest := []) S (KL_types l hfl D cI cZ cS cJ a u125 (4279035579480617008 : Int64) q127 u129 h128) (va_cwS 2 hts (gd_S wd_740 wd_741 wd_21 wd_742) rfl rfl rfl hdnL_types ⟨Nat.le_of_ble_eq_true rfl, Nat.le_of_ble_eq_true rfl⟩) (wPreS hK hX hZ hY hS hP hD) rfl rfl hl.1 rfl (lv_room (Nat.le_of_ble_eq_true rfl)) dL_texts_389 ⟨(by show cl + 0 ≤ 85; omega), (by show sl + 0 ≤ 4687; omega)⟩) hS hD (fun H locs hP hS => ?_)
                                                                have hD : va_D A0 (WS cI cZ cS a u129) := WS_D u129 hD
                                                                have hP : va_P D vwCl (WS cI cZ cS a u129) H := hP
                                                                refine lv_if_eq (tgt := 606) hx hb dL_texts_392 (by decide) (fun c130 => ?_) (fun c130 => ?_)
                                                                · have hF := ite_t c130 hF
                                                                  refine lv_iconst (v := (0 : Int32)) hx hb dL_texts_606 (by decide) ?_
                                                                  cases hF
                                                                  exact nretz (by omega) (by omega) (by decide) hx hb hr hlocks hS dL_texts_607
                                                                · have hF := ite_f c130 hF
                                                                  refine lv_aload_n hx hb dL_texts_395 rfl (lv_at hl 0 rfl) ?_
                                                                  refine lv_ldc2 hx hb hown (hts _ wk_199) dL_texts_396 ?_
                                                                  obtain ⟨q131, u133, h132, hF⟩ := bd2_at hF
                                                                  refine scalli (X' := WS cI cZ cS a u133) (va_runS (As := [.ref a.1, .long (11057 : Int64)]) (rest := []) S (KL_types l hfl D cI cZ cS cJ a u129 (11057 : Int64) q131 u133 h132) (va_cwS 2 hts (gd_S wd_740 wd_741 wd_21 wd_742) rfl rfl rfl hdnL_types ⟨Nat.le_of_ble_eq_true rfl, Nat.le_of_ble_eq_true rfl⟩) (wPreS hK hX hZ hY hS hP hD) rfl rfl hl.1 rfl (lv_room (Nat.le_of_ble_eq_true rfl)) dL_texts_399 ⟨(by show cl + 0 ≤ 85; omega), (by show sl + 0 ≤ 4687; omega)⟩) hS hD (fun H locs hP hS => ?_)
                                                                  have hD : va_D A0 (WS cI cZ cS a u133) := WS_D u133 hD
                                                                  have hP : va_P D vwCl (WS cI cZ cS a u133) H := hP
                                                                  refine lv_if_eq (tgt := 606) hx hb dL_texts_402 (by decide) (fun c134 => ?_) (fun c134 => ?_)
                                                                  · have hF := ite_t c134 hF
                                                                    refine lv_iconst (v := (0 : Int32)) hx hb dL_texts_606 (by decide) ?_
                                                                    cases hF
                                                                    exact nretz (by omega) (by omega) (by decide) hx hb hr hlocks hS dL_texts_607
                                                                  · have hF := ite_f c134 hF
                                                                    refine lv_aload_n hx hb dL_texts_405 rfl (lv_at hl 0 rfl) ?_
                                                                    obtain ⟨k135, q136, u137, h138, hF⟩ := bd3_at hF
                                                                    obtain ⟨g139, hF⟩ := gd_at hF
                                                                    rw [g139] at h138
                                                                    refine scalli (X' := WS cI cZ cS a u137) (va_runV (As := []) (rest := []) S (NS_execute l D cI cZ cS cJ a u133 q136 u137 h138) (cwV 0 hts (gd_V wd_507 wd_508 wd_509 wd_22 wd_510) rfl rfl rfl hd5_execute ⟨Nat.le_of_ble_eq_true rfl, Nat.le_of_ble_eq_true rfl⟩) (uPreV hK hP hD (ci := 5) (q := (RX5, TX5, 3)) (WS_0 cI cZ cS a u133) rfl) rfl rfl hl.1 rfl (lv_room (Nat.le_of_ble_eq_true rfl)) dL_texts_406 ⟨(by show cl + 0 ≤ 85; omega), (by show sl + 0 ≤ 4687; omega)⟩) hS hD (fun H locs hP hS => ?_)
                                                                    have hD : va_D A0 (WS cI cZ cS a u137) := WS_D u137 hD
                                                                    have hP : va_P D vwCl (WS cI cZ cS a u137) H := hP
                                                                    refine lv_if_ne (tgt := 606) hx hb dL_texts_409 (by decide) (fun c140 => ?_) (fun c140 => ?_)
                                                                    · have hF := ite_f c140 hF
                                                                      refine lv_iconst (v := (0 : Int32)) hx hb dL_texts_606 (by decide) ?_
                                                                      cases hF
                                                                      exact nretz (by omega) (by omega) (by decide) hx hb hr hlocks hS dL_texts_607
                                                                    · have hF := ite_t c140 hF
                                                                      refine lv_aload_n hx hb dL_texts_412 rfl (lv_at hl 0 rfl) ?_
                                                                      refine lv_bipush (v := (8 : Int32)) hx hb dL_texts_413 (by decide) ?_
                                                                      obtain ⟨k141, q142, h143, hF⟩ := bd2_at hF
                                                                      obtain ⟨g144, hF⟩ := gd_at hF
                                                                      rw [g144] at h143
                                                                      refine rcall (va_runV (As := [.int (8 : Int32)]) (rest := []) S (NS_count l D cI cZ cS cJ a u137 (8 : Int32) q142 h143) (cwV 1 hts (gd_V wd_413 wd_414 wd_415 wd_22 wd_416) rfl rfl rfl hd5_count ⟨Nat.le_of_ble_eq_true rfl, Nat.le_of_ble_eq_true rfl⟩) (rPreV hK hP (ci := 5) (q := (RX5, TX5, 3)) (WS_0 cI cZ cS a u137) rfl) rfl rfl hl.1 rfl (lv_room (Nat.le_of_ble_eq_true rfl)) dL_texts_415 ⟨(by show cl + 0 ≤ 85; omega), (by show sl + 0 ≤ 4687; omega)⟩) ?_
                                                                      refine lv_iconst (v := (1 : Int32)) hx hb dL_texts_418 (by decide) ?_
                                                                      refine lv_icmp_ne (tgt := 606) hx hb dL_texts_419 (by decide) (fun c145 => ?_) (fun c145 => ?_)
                                                                      · have hF := ite_f c145 hF
                                                                        refine lv_iconst (v := (0 : Int32)) hx hb dL_texts_606 (by decide) ?_
                                                                        cases hF
                                                                        exact nretz (by omega) (by omega) (by decide) hx hb hr hlocks hS dL_texts_607
                                                                      · have hF := ite_t c145 hF
                                                                        refine lv_aload_n hx hb dL_texts_422 rfl (lv_at hl 0 rfl) ?_
                                                                        refine lv_iconst (v := (0 : Int32)) hx hb dL_texts_423 (by decide) ?_
                                                                        obtain ⟨k146, q147, h148, hF⟩ := bd2_at hF
                                                                        obtain ⟨g149, hF⟩ := gd_at hF
                                                                        rw [g149] at h148
                                                                        refine rcall (va_runV (As := [.int (0 : Int32)]) (rest := []) S (NS_count l D cI cZ cS cJ a u137 (0 : Int32) q147 h148) (cwV 1 hts (gd_V wd_413 wd_414 wd_415 wd_22 wd_416) rfl rfl rfl hd5_count ⟨Nat.le_of_ble_eq_true rfl, Nat.le_of_ble_eq_true rfl⟩) (rPreV hK hP (ci := 5) (q := (RX5, TX5, 3)) (WS_0 cI cZ cS a u137) rfl) rfl rfl hl.1 rfl (lv_room (Nat.le_of_ble_eq_true rfl)) dL_texts_424 ⟨(by show cl + 0 ≤ 85; omega), (by show sl + 0 ≤ 4687; omega)⟩) ?_
                                                                        refine lv_iconst (v := (1 : Int32)) hx hb dL_texts_427 (by decide) ?_
                                                                        refine lv_icmp_ne (tgt := 606) hx hb dL_texts_428 (by decide) (fun c150 => ?_) (fun c150 => ?_)
                                                                        · have hF := ite_f c150 hF
                                                                          refine lv_iconst (v := (0 : Int32)) hx hb dL_texts_606 (by decide) ?_
                                                                          cases hF
                                                                          exact nretz (by omega) (by omega) (by decide) hx hb hr hlocks hS dL_texts_607
                                                                        · have hF := ite_t c150 hF
                                                                          refine lv_aload_n hx hb dL_texts_431 rfl (lv_at hl 0 rfl) ?_
                                                                          refine lv_ldc2 hx hb hown (hts _ wk_201) dL_texts_432 ?_
                                                                          obtain ⟨q151, u153, h152, hF⟩ := bd2_at hF
                                                                          refine scalli (X' := WS cI cZ cS a u153) (va_runS (As := [.ref a.1, .long (8516359878916190765 : Int64)]) (rest := []) S (KL_types l hfl D cI cZ cS cJ a u137 (8516359878916190765 : Int64) q151 u153 h152) (va_cwS 2 hts (gd_S wd_740 wd_741 wd_21 wd_742) rfl rfl rfl hdnL_types ⟨Nat.le_of_ble_eq_true rfl, Nat.le_of_ble_eq_true rfl⟩) (wPreS hK hX hZ hY hS hP hD) rfl rfl hl.1 rfl (lv_room (Nat.le_of_ble_eq_true rfl)) dL_texts_435 ⟨(by show cl + 0 ≤ 85; omega), (by show sl + 0 ≤ 4687; omega)⟩) hS hD (fun H locs hP hS => ?_)
                                                                          have hD : va_D A0 (WS cI cZ cS a u153) := WS_D u153 hD
                                                                          have hP : va_P D vwCl (WS cI cZ cS a u153) H := hP
                                                                          refine lv_if_eq (tgt := 606) hx hb dL_texts_438 (by decide) (fun c154 => ?_) (fun c154 => ?_)
                                                                          · have hF := ite_t c154 hF
                                                                            refine lv_iconst (v := (0 : Int32)) hx hb dL_texts_606 (by decide) ?_
                                                                            cases hF
                                                                            exact nretz (by omega) (by omega) (by decide) hx hb hr hlocks hS dL_texts_607
                                                                          · have hF := ite_f c154 hF
                                                                            refine lv_aload_n hx hb dL_texts_441 rfl (lv_at hl 0 rfl) ?_
                                                                            refine lv_ldc2 hx hb hown (hts _ wk_203) dL_texts_442 ?_
                                                                            obtain ⟨q155, u157, h156, hF⟩ := bd2_at hF
                                                                            refine scalli (X' := WS cI cZ cS a u157) (va_runS (As := [.ref a.1, .long (52983525158960 : Int64)]) (rest := []) S (KL_types l hfl D cI cZ cS cJ a u153 (52983525158960 : Int64) q155 u157 h156) (va_cwS 2 hts (gd_S wd_740 wd_741 wd_21 wd_742) rfl rfl rfl hdnL_types ⟨Nat.le_of_ble_eq_true rfl, Nat.le_of_ble_eq_true rfl⟩) (wPreS hK hX hZ hY hS hP hD) rfl rfl hl.1 rfl (lv_room (Nat.le_of_ble_eq_true rfl)) dL_texts_445 ⟨(by show cl + 0 ≤ 85; omega), (by show sl + 0 ≤ 4687; omega)⟩) hS hD (fun H locs hP hS => ?_)
                                                                            have hD : va_D A0 (WS cI cZ cS a u157) := WS_D u157 hD
                                                                            have hP : va_P D vwCl (WS cI cZ cS a u157) H := hP
                                                                            refine lv_if_eq (tgt := 606) hx hb dL_texts_448 (by decide) (fun c158 => ?_) (fun c158 => ?_)
                                                                            · have hF := ite_t c158 hF
                                                                              refine lv_iconst (v := (0 : Int32)) hx hb dL_texts_606 (by decide) ?_
                                                                              cases hF
                                                                              exact nretz (by omega) (by omega) (by decide) hx hb hr hlocks hS dL_texts_607
                                                                            · have hF := ite_f c158 hF
                                                                              refine lv_aload_n hx hb dL_texts_451 rfl (lv_at hl 0 rfl) ?_
                                                                              obtain ⟨k159, q160, u161, h162, hF⟩ := bd3_at hF
                                                                              obtain ⟨g163, hF⟩ := gd_at hF
                                                                              rw [g163] at h162
                                                                              refine scalli (X' := WS cI cZ cS a u161) (va_runV (As := []) (rest := []) S (NS_execute l D cI cZ cS cJ a u157 q160 u161 h162) (cwV 0 hts (gd_V wd_507 wd_508 wd_509 wd_22 wd_510) rfl rfl rfl hd5_execute ⟨Nat.le_of_ble_eq_true rfl, Nat.le_of_ble_eq_true rfl⟩) (uPreV hK hP hD (ci := 5) (q := (RX5, TX5, 3)) (WS_0 cI cZ cS a u157) rfl) rfl rfl hl.1 rfl (lv_room (Nat.le_of_ble_eq_true rfl)) dL_texts_452 ⟨(by show cl + 0 ≤ 85; omega), (by show sl + 0 ≤ 4687; omega)⟩) hS hD (fun H locs hP hS => ?_)
                                                                              have hD : va_D A0 (WS cI cZ cS a u161) := WS_D u161 hD
                                                                              have hP : va_P D vwCl (WS cI cZ cS a u161) H := hP
                                                                              refine lv_if_ne (tgt := 606) hx hb dL_texts_455 (by decide) (fun c164 => ?_) (fun c164 => ?_)
                                                                              · have hF := ite_f c164 hF
                                                                                refine lv_iconst (v := (0 : Int32)) hx hb dL_texts_606 (by decide) ?_
                                                                                cases hF
                                                                                exact nretz (by omega) (by omega) (by decide) hx hb hr hlocks hS dL_texts_607
                                                                              · have hF := ite_t c164 hF
                                                                                refine lv_aload_n hx hb dL_texts_458 rfl (lv_at hl 0 rfl) ?_
                                                                                refine lv_ldc2 hx hb hown (hts _ wk_159) dL_texts_459 ?_
                                                                                obtain ⟨q165, u167, h166, hF⟩ := bd2_at hF
                                                                                refine scalli (X' := WS cI cZ cS a u167) (va_runS (As := [.ref a.1, .long (8516359878882635821 : Int64)]) (rest := []) S (KL_types l hfl D cI cZ cS cJ a u161 (8516359878882635821 : Int64) q165 u167 h166) (va_cwS 2 hts (gd_S wd_740 wd_741 wd_21 wd_742) rfl rfl rfl hdnL_types ⟨Nat.le_of_ble_eq_true rfl, Nat.le_of_ble_eq_true rfl⟩) (wPreS hK hX hZ hY hS hP hD) rfl rfl hl.1 rfl (lv_room (Nat.le_of_ble_eq_true rfl)) dL_texts_462 ⟨(by show cl + 0 ≤ 85; omega), (by show sl + 0 ≤ 4687; omega)⟩) hS hD (fun H locs hP hS => ?_)
                                                                                have hD : va_D A0 (WS cI cZ cS a u167) := WS_D u167 hD
                                                                                have hP : va_P D vwCl (WS cI cZ cS a u167) H := hP
                                                                                refine lv_if_eq (tgt := 606) hx hb dL_texts_465 (by decide) (fun c168 => ?_) (fun c168 => ?_)
                                                                                · have hF := ite_t c168 hF
                                                                                  refine lv_iconst (v := (0 : Int32)) hx hb dL_texts_606 (by decide) ?_
                                                                                  cases hF
                                                                                  exact nretz (by omega) (by omega) (by decide) hx hb hr hlocks hS dL_texts_607
                                                                                · have hF := ite_f c168 hF
                                                                                  refine lv_aload_n hx hb dL_texts_468 rfl (lv_at hl 0 rfl) ?_
                                                                                  refine lv_ldc2 hx hb hown (hts _ wk_205) dL_texts_469 ?_
                                                                                  obtain ⟨q169, u171, h170, hF⟩ := bd2_at hF
                                                                                  refine scalli (X' := WS cI cZ cS a u171) (va_runS (As := [.ref a.1, .long (4123389851770370935 : Int64)]) (rest := []) S (KL_types l hfl D cI cZ cS cJ a u167 (4123389851770370935 : Int64) q169 u171 h170) (va_cwS 2 hts (gd_S wd_740 wd_741 wd_21 wd_742) rfl rfl rfl hdnL_types ⟨Nat.le_of_ble_eq_true rfl, Nat.le_of_ble_eq_true rfl⟩) (wPreS hK hX hZ hY hS hP hD) rfl rfl hl.1 rfl (lv_room (Nat.le_of_ble_eq_true rfl)) dL_texts_472 ⟨(by show cl + 0 ≤ 85; omega), (by show sl + 0 ≤ 4687; omega)⟩) hS hD (fun H locs hP hS => ?_)
                                                                                  have hD : va_D A0 (WS cI cZ cS a u171) := WS_D u171 hD
                                                                                  have hP : va_P D vwCl (WS cI cZ cS a u171) H := hP
                                                                                  refine lv_if_eq (tgt := 606) hx hb dL_texts_475 (by decide) (fun c172 => ?_) (fun c172 => ?_)
                                                                                  · have hF := ite_t c172 hF
                                                                                    refine lv_iconst (v := (0 : Int32)) hx hb dL_texts_606 (by decide) ?_
                                                                                    cases hF
                                                                                    exact nretz (by omega) (by omega) (by decide) hx hb hr hlocks hS dL_texts_607
                                                                                  · have hF := ite_f c172 hF
                                                                                    refine lv_aload_n hx hb dL_texts_478 rfl (lv_at hl 0 rfl) ?_
                                                                                    refine lv_ldc2 hx hb hown (hts _ wk_207) dL_texts_479 ?_
                                                                                    obtain ⟨q173, u175, h174, hF⟩ := bd2_at hF
                                                                                    refine scalli (X' := WS cI cZ cS a u175) (va_runS (As := [.ref a.1, .long (3472328304817618229 : Int64)]) (rest := []) S (KL_types l hfl D cI cZ cS cJ a u171 (3472328304817618229 : Int64) q173 u175 h174) (va_cwS 2 hts (gd_S wd_740 wd_741 wd_21 wd_742) rfl rfl rfl hdnL_types ⟨Nat.le_of_ble_eq_true rfl, Nat.le_of_ble_eq_true rfl⟩) (wPreS hK hX hZ hY hS hP hD) rfl rfl hl.1 rfl (lv_room (Nat.le_of_ble_eq_true rfl)) dL_texts_482 ⟨(by show cl + 0 ≤ 85; omega), (by show sl + 0 ≤ 4687; omega)⟩) hS hD (fun H locs hP hS => ?_)
                                                                                    have hD : va_D A0 (WS cI cZ cS a u175) := WS_D u175 hD
                                                                                    have hP : va_P D vwCl (WS cI cZ cS a u175) H := hP
                                                                                    refine lv_if_eq (tgt := 606) hx hb dL_texts_485 (by decide) (fun c176 => ?_) (fun c176 => ?_)
                                                                                    · have hF := ite_t c176 hF
                                                                                      refine lv_iconst (v := (0 : Int32)) hx hb dL_texts_606 (by decide) ?_
                                                                                      cases hF
                                                                                      exact nretz (by omega) (by omega) (by decide) hx hb hr hlocks hS dL_texts_607
                                                                                    · have hF := ite_f c176 hF
                                                                                      refine lv_aload_n hx hb dL_texts_488 rfl (lv_at hl 0 rfl) ?_
                                                                                      obtain ⟨k177, q178, u179, h180, hF⟩ := bd3_at hF
                                                                                      obtain ⟨g181, hF⟩ := gd_at hF
                                                                                      rw [g181] at h180
                                                                                      refine scalli (X' := WS cI cZ cS a u179) (va_runV (As := []) (rest := []) S (NS_execute l D cI cZ cS cJ a u175 q178 u179 h180) (cwV 0 hts (gd_V wd_507 wd_508 wd_509 wd_22 wd_510) rfl rfl rfl hd5_execute ⟨Nat.le_of_ble_eq_true rfl, Nat.le_of_ble_eq_true rfl⟩) (uPreV hK hP hD (ci := 5) (q := (RX5, TX5, 3)) (WS_0 cI cZ cS a u175) rfl) rfl rfl hl.1 rfl (lv_room (Nat.le_of_ble_eq_true rfl)) dL_texts_489 ⟨(by show cl + 0 ≤ 85; omega), (by show sl + 0 ≤ 4687; omega)⟩) hS hD (fun H locs hP hS => ?_)
                                                                                      have hD : va_D A0 (WS cI cZ cS a u179) := WS_D u179 hD
                                                                                      have hP : va_P D vwCl (WS cI cZ cS a u179) H := hP
                                                                                      refine lv_iconst (v := (1 : Int32)) hx hb dL_texts_492 (by decide) ?_
                                                                                      refine lv_icmp_ne (tgt := 606) hx hb dL_texts_493 (by decide) (fun c182 => ?_) (fun c182 => ?_)
                                                                                      · have hF := ite_f c182 hF
                                                                                        refine lv_iconst (v := (0 : Int32)) hx hb dL_texts_606 (by decide) ?_
                                                                                        cases hF
                                                                                        exact nretz (by omega) (by omega) (by decide) hx hb hr hlocks hS dL_texts_607
                                                                                      · have hF := ite_t c182 hF
                                                                                        refine lv_aload_n hx hb dL_texts_496 rfl (lv_at hl 0 rfl) ?_
                                                                                        refine lv_iconst (v := (5 : Int32)) hx hb dL_texts_497 (by decide) ?_
                                                                                        obtain ⟨k183, q184, h185, hF⟩ := bd2_at hF
                                                                                        obtain ⟨g186, hF⟩ := gd_at hF
                                                                                        rw [g186] at h185
                                                                                        refine rcall (va_runV (As := [.int (5 : Int32)]) (rest := []) S (NS_count l D cI cZ cS cJ a u179 (5 : Int32) q184 h185) (cwV 1 hts (gd_V wd_413 wd_414 wd_415 wd_22 wd_416) rfl rfl rfl hd5_count ⟨Nat.le_of_ble_eq_true rfl, Nat.le_of_ble_eq_true rfl⟩) (rPreV hK hP (ci := 5) (q := (RX5, TX5, 3)) (WS_0 cI cZ cS a u179) rfl) rfl rfl hl.1 rfl (lv_room (Nat.le_of_ble_eq_true rfl)) dL_texts_498 ⟨(by show cl + 0 ≤ 85; omega), (by show sl + 0 ≤ 4687; omega)⟩) ?_
                                                                                        refine lv_iconst (v := (2 : Int32)) hx hb dL_texts_501 (by decide) ?_
                                                                                        refine lv_icmp_ne (tgt := 606) hx hb dL_texts_502 (by decide) (fun c187 => ?_) (fun c187 => ?_)
                                                                                        · have hF := ite_f c187 hF
                                                                                          refine lv_iconst (v := (0 : Int32)) hx hb dL_texts_606 (by decide) ?_
                                                                                          cases hF
                                                                                          exact nretz (by omega) (by omega) (by decide) hx hb hr hlocks hS dL_texts_607
                                                                                        · have hF := ite_t c187 hF
                                                                                          refine lv_aload_n hx hb dL_texts_505 rfl (lv_at hl 0 rfl) ?_
                                                                                          refine lv_sipush (v := (201 : Int32)) hx hb dL_texts_506 (by decide) ?_
                                                                                          refine lv_iconst (v := (0 : Int32)) hx hb dL_texts_509 (by decide) ?_
                                                                                          obtain ⟨k188, q189, h190, hF⟩ := bd2_at hF
                                                                                          obtain ⟨g191, hF⟩ := gd_at hF
                                                                                          rw [g191] at h190
                                                                                          refine rcall (va_runV (As := [.int (201 : Int32), .int (0 : Int32)]) (rest := []) S (NS_cheque l D cI cZ cS cJ a u179 (201 : Int32) (0 : Int32) q189 h190) (cwV 2 hts (gd_V wd_572 wd_573 wd_574 wd_22 wd_575) rfl rfl rfl hd5_cheque ⟨Nat.le_of_ble_eq_true rfl, Nat.le_of_ble_eq_true rfl⟩) (rPreV hK hP (ci := 5) (q := (RX5, TX5, 3)) (WS_0 cI cZ cS a u179) rfl) rfl rfl hl.1 rfl (lv_room (Nat.le_of_ble_eq_true rfl)) dL_texts_510 ⟨(by show cl + 0 ≤ 85; omega), (by show sl + 0 ≤ 4687; omega)⟩) ?_
                                                                                          refine lv_iconst (v := (2 : Int32)) hx hb dL_texts_513 (by decide) ?_
                                                                                          refine lv_icmp_ne (tgt := 606) hx hb dL_texts_514 (by decide) (fun c192 => ?_) (fun c192 => ?_)
                                                                                          · have hF := ite_f c192 hF
                                                                                            refine lv_iconst (v := (0 : Int32)) hx hb dL_texts_606 (by decide) ?_
                                                                                            cases hF
                                                                                            exact nretz (by omega) (by omega) (by decide) hx hb hr hlocks hS dL_texts_607
                                                                                          · have hF := ite_t c192 hF
                                                                                            refine lv_aload_n hx hb dL_texts_517 rfl (lv_at hl 0 rfl) ?_
                                                                                            refine lv_bipush (v := (10 : Int32)) hx hb dL_texts_518 (by decide) ?_
                                                                                            obtain ⟨k193, q194, h195, hF⟩ := bd2_at hF
                                                                                            obtain ⟨g196, hF⟩ := gd_at hF
                                                                                            rw [g196] at h195
                                                                                            refine rcall (va_runV (As := [.int (10 : Int32)]) (rest := []) S (NS_count l D cI cZ cS cJ a u179 (10 : Int32) q194 h195) (cwV 1 hts (gd_V wd_413 wd_414 wd_415 wd_22 wd_416) rfl rfl rfl hd5_count ⟨Nat.le_of_ble_eq_true rfl, Nat.le_of_ble_eq_true rfl⟩) (rPreV hK hP (ci := 5) (q := (RX5, TX5, 3)) (WS_0 cI cZ cS a u179) rfl) rfl rfl hl.1 rfl (lv_room (Nat.le_of_ble_eq_true rfl)) dL_texts_520 ⟨(by show cl + 0 ≤ 85; omega), (by show sl + 0 ≤ 4687; omega)⟩) ?_
                                                                                            refine lv_iconst (v := (4 : Int32)) hx hb dL_texts_523 (by decide) ?_
                                                                                            refine lv_icmp_ne (tgt := 606) hx hb dL_texts_524 (by decide) (fun c197 => ?_) (fun c197 => ?_)
                                                                                            · have hF := ite_f c197 hF
                                                                                              refine lv_iconst (v := (0 : Int32)) hx hb dL_texts_606 (by decide) ?_
                                                                                              cases hF
                                                                                              exact nretz (by omega) (by omega) (by decide) hx hb hr hlocks hS dL_texts_607
                                                                                            · have hF := ite_t c197 hF
                                                                                              refine lv_aload_n hx hb dL_texts_527 rfl (lv_at hl 0 rfl) ?_
                                                                                              obtain ⟨k198, q199, u200, h201, hF⟩ := bd3_at hF
                                                                                              obtain ⟨g202, hF⟩ := gd_at hF
                                                                                              rw [g202] at h201
                                                                                              refine scalli (X' := WS cI cZ cS a u200) (va_runV (As := []) (rest := []) S (NS_undo l D cI cZ cS cJ a u179 q199 u200 h201) (cwV 0 hts (gd_V wd_375 wd_376 wd_377 wd_22 wd_378) rfl rfl rfl hd5_undo ⟨Nat.le_of_ble_eq_true rfl, Nat.le_of_ble_eq_true rfl⟩) (uPreV hK hP hD (ci := 5) (q := (RX5, TX5, 3)) (WS_0 cI cZ cS a u179) rfl) rfl rfl hl.1 rfl (lv_room (Nat.le_of_ble_eq_true rfl)) dL_texts_528 ⟨(by show cl + 0 ≤ 85; omega), (by show sl + 0 ≤ 4687; omega)⟩) hS hD (fun H locs hP hS => ?_)
                                                                                              have hD : va_D A0 (WS cI cZ cS a u200) := WS_D u200 hD
                                                                                              have hP : va_P D vwCl (WS cI cZ cS a u200) H := hP
                                                                                              refine lv_iconst (v := (3 : Int32)) hx hb dL_texts_531 (by decide) ?_
                                                                                              refine lv_icmp_ne (tgt := 606) hx hb dL_texts_532 (by decide) (fun c203 => ?_) (fun c203 => ?_)
                                                                                              · have hF := ite_f c203 hF
                                                                                                refine lv_iconst (v := (0 : Int32)) hx hb dL_texts_606 (by decide) ?_
                                                                                                cases hF
                                                                                                exact nretz (by omega) (by omega) (by decide) hx hb hr hlocks hS dL_texts_607
                                                                                              · have hF := ite_t c203 hF
                                                                                                refine lv_aload_n hx hb dL_texts_535 rfl (lv_at hl 0 rfl) ?_
                                                                                                refine lv_iconst (v := (5 : Int32)) hx hb dL_texts_536 (by decide) ?_
                                                                                                obtain ⟨k204, q205, h206, hF⟩ := bd2_at hF
                                                                                                obtain ⟨g207, hF⟩ := gd_at hF
                                                                                                rw [g207] at h206
                                                                                                refine rcall (va_runV (As := [.int (5 : Int32)]) (rest := []) S (NS_count l D cI cZ cS cJ a u200 (5 : Int32) q205 h206) (cwV 1 hts (gd_V wd_413 wd_414 wd_415 wd_22 wd_416) rfl rfl rfl hd5_count ⟨Nat.le_of_ble_eq_true rfl, Nat.le_of_ble_eq_true rfl⟩) (rPreV hK hP (ci := 5) (q := (RX5, TX5, 3)) (WS_0 cI cZ cS a u200) rfl) rfl rfl hl.1 rfl (lv_room (Nat.le_of_ble_eq_true rfl)) dL_texts_537 ⟨(by show cl + 0 ≤ 85; omega), (by show sl + 0 ≤ 4687; omega)⟩) ?_
                                                                                                refine lv_if_ne (tgt := 606) hx hb dL_texts_540 (by decide) (fun c208 => ?_) (fun c208 => ?_)
                                                                                                · have hF := ite_f c208 hF
                                                                                                  refine lv_iconst (v := (0 : Int32)) hx hb dL_texts_606 (by decide) ?_
                                                                                                  cases hF
                                                                                                  exact nretz (by omega) (by omega) (by decide) hx hb hr hlocks hS dL_texts_607
                                                                                                · have hF := ite_t c208 hF
                                                                                                  refine lv_aload_n hx hb dL_texts_543 rfl (lv_at hl 0 rfl) ?_
                                                                                                  refine lv_ldc2 hx hb hown (hts _ wk_209) dL_texts_544 ?_
                                                                                                  obtain ⟨q209, u211, h210, hF⟩ := bd2_at hF
                                                                                                  refine scalli (X' := WS cI cZ cS a u211) (va_runS (As := [.ref a.1, .long (7077751207325415723 : Int64)]) (rest := []) S (KL_types l hfl D cI cZ cS cJ a u200 (7077751207325415723 : Int64) q209 u211 h210) (va_cwS 2 hts (gd_S wd_740 wd_741 wd_21 wd_742) rfl rfl rfl hdnL_types ⟨Nat.le_of_ble_eq_true rfl, Nat.le_of_ble_eq_true rfl⟩) (wPreS hK hX hZ hY hS hP hD) rfl rfl hl.1 rfl (lv_room (Nat.le_of_ble_eq_true rfl)) dL_texts_547 ⟨(by show cl + 0 ≤ 85; omega), (by show sl + 0 ≤ 4687; omega)⟩) hS hD (fun H locs hP hS => ?_)
                                                                                                  have hD : va_D A0 (WS cI cZ cS a u211) := WS_D u211 hD
                                                                                                  have hP : va_P D vwCl (WS cI cZ cS a u211) H := hP
                                                                                                  refine lv_if_eq (tgt := 606) hx hb dL_texts_550 (by decide) (fun c212 => ?_) (fun c212 => ?_)
                                                                                                  · have hF := ite_t c212 hF
                                                                                                    refine lv_iconst (v := (0 : Int32)) hx hb dL_texts_606 (by decide) ?_
                                                                                                    cases hF
                                                                                                    exact nretz (by omega) (by omega) (by decide) hx hb hr hlocks hS dL_texts_607
                                                                                                  · have hF := ite_f c212 hF
                                                                                                    refine lv_aload_n hx hb dL_texts_553 rfl (lv_at hl 0 rfl) ?_
                                                                                                    refine lv_ldc2 hx hb hown (hts _ wk_211) dL_texts_554 ?_
                                                                                                    obtain ⟨q213, u215, h214, hF⟩ := bd2_at hF
                                                                                                    refine scalli (X' := WS cI cZ cS a u215) (va_runS (As := [.ref a.1, .long (50 : Int64)]) (rest := []) S (KL_types l hfl D cI cZ cS cJ a u211 (50 : Int64) q213 u215 h214) (va_cwS 2 hts (gd_S wd_740 wd_741 wd_21 wd_742) rfl rfl rfl hdnL_types ⟨Nat.le_of_ble_eq_true rfl, Nat.le_of_ble_eq_true rfl⟩) (wPreS hK hX hZ hY hS hP hD) rfl rfl hl.1 rfl (lv_room (Nat.le_of_ble_eq_true rfl)) dL_texts_557 ⟨(by show cl + 0 ≤ 85; omega), (by show sl + 0 ≤ 4687; omega)⟩) hS hD (fun H locs hP hS => ?_)
                                                                                                    have hD : va_D A0 (WS cI cZ cS a u215) := WS_D u215 hD
                                                                                                    have hP : va_P D vwCl (WS cI cZ cS a u215) H := hP
                                                                                                    refine lv_if_eq (tgt := 606) hx hb dL_texts_560 (by decide) (fun c216 => ?_) (fun c216 => ?_)
                                                                                                    · have hF := ite_t c216 hF
                                                                                                      refine lv_iconst (v := (0 : Int32)) hx hb dL_texts_606 (by decide) ?_
                                                                                                      cases hF
                                                                                                      exact nretz (by omega) (by omega) (by decide) hx hb hr hlocks hS dL_texts_607
                                                                                                    · have hF := ite_f c216 hF
                                                                                                      refine lv_aload_n hx hb dL_texts_563 rfl (lv_at hl 0 rfl) ?_
                                                                                                      obtain ⟨k217, q218, u219, h220, hF⟩ := bd3_at hF
                                                                                                      obtain ⟨g221, hF⟩ := gd_at hF
                                                                                                      rw [g221] at h220
                                                                                                      refine scalli (X' := WS cI cZ cS a u219) (va_runV (As := []) (rest := []) S (NS_execute l D cI cZ cS cJ a u215 q218 u219 h220) (cwV 0 hts (gd_V wd_507 wd_508 wd_509 wd_22 wd_510) rfl rfl rfl hd5_execute ⟨Nat.le_of_ble_eq_true rfl, Nat.le_of_ble_eq_true rfl⟩) (uPreV hK hP hD (ci := 5) (q := (RX5, TX5, 3)) (WS_0 cI cZ cS a u215) rfl) rfl rfl hl.1 rfl (lv_room (Nat.le_of_ble_eq_true rfl)) dL_texts_564 ⟨(by show cl + 0 ≤ 85; omega), (by show sl + 0 ≤ 4687; omega)⟩) hS hD (fun H locs hP hS => ?_)
                                                                                                      have hD : va_D A0 (WS cI cZ cS a u219) := WS_D u219 hD
                                                                                                      have hP : va_P D vwCl (WS cI cZ cS a u219) H := hP
                                                                                                      refine lv_if_ne (tgt := 606) hx hb dL_texts_567 (by decide) (fun c222 => ?_) (fun c222 => ?_)
                                                                                                      · have hF := ite_f c222 hF
                                                                                                        refine lv_iconst (v := (0 : Int32)) hx hb dL_texts_606 (by decide) ?_
                                                                                                        cases hF
                                                                                                        exact nretz (by omega) (by omega) (by decide) hx hb hr hlocks hS dL_texts_607
                                                                                                      · have hF := ite_t c222 hF
                                                                                                        refine lv_aload_n hx hb dL_texts_570 rfl (lv_at hl 0 rfl) ?_
                                                                                                        refine lv_ldc2 hx hb hown (hts _ wk_213) dL_texts_571 ?_
                                                                                                        obtain ⟨q223, u225, h224, hF⟩ := bd2_at hF
                                                                                                        refine scalli (X' := WS cI cZ cS a u225) (va_runS (As := [.ref a.1, .long (7075207998157632043 : Int64)]) (rest := []) S (KL_types l hfl D cI cZ cS cJ a u219 (7075207998157632043 : Int64) q223 u225 h224) (va_cwS 2 hts (gd_S wd_740 wd_741 wd_21 wd_742) rfl rfl rfl hdnL_types ⟨Nat.le_of_ble_eq_true rfl, Nat.le_of_ble_eq_true rfl⟩) (wPreS hK hX hZ hY hS hP hD) rfl rfl hl.1 rfl (lv_room (Nat.le_of_ble_eq_true rfl)) dL_texts_574 ⟨(by show cl + 0 ≤ 85; omega), (by show sl + 0 ≤ 4687; omega)⟩) hS hD (fun H locs hP hS => ?_)
                                                                                                        have hD : va_D A0 (WS cI cZ cS a u225) := WS_D u225 hD
                                                                                                        have hP : va_P D vwCl (WS cI cZ cS a u225) H := hP
                                                                                                        refine lv_if_eq (tgt := 606) hx hb dL_texts_577 (by decide) (fun c226 => ?_) (fun c226 => ?_)
                                                                                                        · have hF := ite_t c226 hF
                                                                                                          refine lv_iconst (v := (0 : Int32)) hx hb dL_texts_606 (by decide) ?_
                                                                                                          cases hF
                                                                                                          exact nretz (by omega) (by omega) (by decide) hx hb hr hlocks hS dL_texts_607
                                                                                                        · have hF := ite_f c226 hF
                                                                                                          refine lv_aload_n hx hb dL_texts_580 rfl (lv_at hl 0 rfl) ?_
                                                                                                          refine lv_ldc2 hx hb hown (hts _ wk_215) dL_texts_581 ?_
                                                                                                          obtain ⟨q227, u229, h228, hF⟩ := bd2_at hF
                                                                                                          refine scalli (X' := WS cI cZ cS a u229) (va_runS (As := [.ref a.1, .long (49 : Int64)]) (rest := []) S (KL_types l hfl D cI cZ cS cJ a u225 (49 : Int64) q227 u229 h228) (va_cwS 2 hts (gd_S wd_740 wd_741 wd_21 wd_742) rfl rfl rfl hdnL_types ⟨Nat.le_of_ble_eq_true rfl, Nat.le_of_ble_eq_true rfl⟩) (wPreS hK hX hZ hY hS hP hD) rfl rfl hl.1 rfl (lv_room (Nat.le_of_ble_eq_true rfl)) dL_texts_584 ⟨(by show cl + 0 ≤ 85; omega), (by show sl + 0 ≤ 4687; omega)⟩) hS hD (fun H locs hP hS => ?_)
                                                                                                          have hD : va_D A0 (WS cI cZ cS a u229) := WS_D u229 hD
                                                                                                          have hP : va_P D vwCl (WS cI cZ cS a u229) H := hP
                                                                                                          refine lv_if_eq (tgt := 606) hx hb dL_texts_587 (by decide) (fun c230 => ?_) (fun c230 => ?_)
                                                                                                          · have hF := ite_t c230 hF
                                                                                                            refine lv_iconst (v := (0 : Int32)) hx hb dL_texts_606 (by decide) ?_
                                                                                                            cases hF
                                                                                                            exact nretz (by omega) (by omega) (by decide) hx hb hr hlocks hS dL_texts_607
                                                                                                          · have hF := ite_f c230 hF
                                                                                                            refine lv_aload_n hx hb dL_texts_590 rfl (lv_at hl 0 rfl) ?_
                                                                                                            obtain ⟨k231, q232, u233, h234, hF⟩ := bd3_at hF
                                                                                                            obtain ⟨g235, hF⟩ := gd_at hF
                                                                                                            rw [g235] at h234
                                                                                                            refine scalli (X' := WS cI cZ cS a u233) (va_runV (As := []) (rest := []) S (NS_execute l D cI cZ cS cJ a u229 q232 u233 h234) (cwV 0 hts (gd_V wd_507 wd_508 wd_509 wd_22 wd_510) rfl rfl rfl hd5_execute ⟨Nat.le_of_ble_eq_true rfl, Nat.le_of_ble_eq_true rfl⟩) (uPreV hK hP hD (ci := 5) (q := (RX5, TX5, 3)) (WS_0 cI cZ cS a u229) rfl) rfl rfl hl.1 rfl (lv_room (Nat.le_of_ble_eq_true rfl)) dL_texts_591 ⟨(by show cl + 0 ≤ 85; omega), (by show sl + 0 ≤ 4687; omega)⟩) hS hD (fun H locs hP hS => ?_)
                                                                                                            have hD : va_D A0 (WS cI cZ cS a u233) := WS_D u233 hD
                                                                                                            have hP : va_P D vwCl (WS cI cZ cS a u233) H := hP
                                                                                                            refine lv_if_ne (tgt := 606) hx hb dL_texts_594 (by decide) (fun c236 => ?_) (fun c236 => ?_)
                                                                                                            · have hF := ite_f c236 hF
                                                                                                              refine lv_iconst (v := (0 : Int32)) hx hb dL_texts_606 (by decide) ?_
                                                                                                              cases hF
                                                                                                              exact nretz (by omega) (by omega) (by decide) hx hb hr hlocks hS dL_texts_607
                                                                                                            · have hF := ite_t c236 hF
                                                                                                              refine lv_aload_n hx hb dL_texts_597 rfl (lv_at hl 0 rfl) ?_
                                                                                                              refine lv_iconst (v := (0 : Int32)) hx hb dL_texts_598 (by decide) ?_
                                                                                                              obtain ⟨k237, q238, h239, hF⟩ := bd2_at hF
                                                                                                              obtain ⟨g240, hF⟩ := gd_at hF
                                                                                                              rw [g240] at h239
                                                                                                              refine rcall (va_runV (As := [.int (0 : Int32)]) (rest := []) S (NS_count l D cI cZ cS cJ a u233 (0 : Int32) q238 h239) (cwV 1 hts (gd_V wd_413 wd_414 wd_415 wd_22 wd_416) rfl rfl rfl hd5_count ⟨Nat.le_of_ble_eq_true rfl, Nat.le_of_ble_eq_true rfl⟩) (rPreV hK hP (ci := 5) (q := (RX5, TX5, 3)) (WS_0 cI cZ cS a u233) rfl) rfl rfl hl.1 rfl (lv_room (Nat.le_of_ble_eq_true rfl)) dL_texts_599 ⟨(by show cl + 0 ≤ 85; omega), (by show sl + 0 ≤ 4687; omega)⟩) ?_
                                                                                                              refine lv_iconst (v := (1 : Int32)) hx hb dL_texts_602 (by decide) ?_
                                                                                                              refine lv_icmp_eq (tgt := 608) hx hb dL_texts_603 (by decide) (fun c241 => ?_) (fun c241 => ?_)
                                                                                                              · have hF := ite_t c241 hF
                                                                                                                refine lv_iconst (v := (0 : Int32)) hx hb dL_texts_608 (by decide) ?_
                                                                                                                refine lv_istore_n (lv' := [(1, .int (0 : Int32)), (0, .ref a.1)]) hx hb dL_texts_609 rfl hl (by decide) rfl (fun ls hl => ?_)
                                                                                                                exact W_610   61 (0 : Int32) u233 _ _ _ _ (by omega) (by omega) hP hD hS ls (lv_sub hl [1, 0] rfl) hF
                                                                                                              · have hF := ite_f c241 hF
                                                                                                                refine lv_iconst (v := (0 : Int32)) hx hb dL_texts_606 (by decide) ?_
                                                                                                                cases hF
                                                                                                                exact nretz (by omega) (by omega) (by decide) hx hb hr hlocks hS dL_texts_607
                                        · have hF := ite_t c76 hF
                                          refine lv_iconst (v := (0 : Int32)) hx hb dL_texts_274 (by decide) ?_
                                          cases hF
                                          exact nretz (by omega) (by omega) (by decide) hx hb hr hlocks hS dL_texts_275
                      · have hF := ite_t c40 hF
                        refine lv_iconst (v := (0 : Int32)) hx hb dL_texts_146 (by decide) ?_
                        cases hF
                        exact nretz (by omega) (by omega) (by decide) hx hb hr hlocks hS dL_texts_147
  have hP : va_P D vwCl [] s.heap := fun k q h => by simp at h
  have hD : va_D A0 [] := ⟨fun i j p q h => by simp at h, fun k q h => by simp at h⟩
  have hl := lv_entry ([] : List Value) (n := 2) ((Nat.le_of_ble_eq_true rfl))
  refine W.eq (g2 := F0 m 0 ((lg_sl ([] : List Value) ++ List.replicate (2 - (lg_sl ([] : List Value)).length) Slot.unset).toArray) []) (by rw [ha]; exact lg_entry_eq _ _ _) ?_
  generalize (lg_sl ([] : List Value) ++ List.replicate (2 - (lg_sl ([] : List Value)).length) Slot.unset).toArray = ls at hl ⊢
  have hl : lv_has ls 2 [] := hl
  refine va_new (D := D) (ci := 5) (fs := [.null, .null, .null]) (C := RX5) (T := TX5) (N := 3) hx hb hts i_X5 tyX5 tyX5_ok hown (hts _ wd_35) (hts _ wd_36) (hts _ wd_22) hK.1 hP hD hS hA rfl (fun j hj => by rcases (show j = 0 ∨ j = 1 ∨ j = 2 by omega) with rfl | rfl | rfl <;> rfl) ((Nat.le_of_ble_eq_true rfl)) ((Nat.le_of_ble_eq_true rfl)) dL_texts_0 (fun q1 H hP hD hS => ?_)
  have hP : va_P D vwCl ([] ++ [(q1, .inr (5, [.null, .null, .null]))]) H := hP
  have hD : va_D A0 ([] ++ [(q1, .inr (5, [.null, .null, .null]))]) := hD
  refine lv_dup hx hb dL_texts_3 rfl ?_
  have hFc := c_free hD hS hA
  refine va_callv (va_runI (As := []) (rest := [.ref q1]) S (K5_init l D cI cZ cS cJ q1 H.size) (cwI 0 hts (gd_all wd_39) rfl rfl rfl (hts _ wd_22) (hts _ wd_37) (hts _ wd_38) rfl (by decide +kernel) ⟨(Nat.le_of_ble_eq_true rfl), (Nat.le_of_ble_eq_true rfl)⟩) (cPreS hK hM (wP_r hP) (wD_r hD)) rfl rfl hl.1 rfl (lv_room ((Nat.le_of_ble_eq_true rfl))) dL_texts_4 ⟨(Nat.le_of_ble_eq_true rfl), (Nat.le_of_ble_eq_true rfl)⟩) hS (fun q _ h => hFc q h) hFc (fun u t H1 locs ht hvm hw hB hz1 hk1 hS => ?_)
  obtain ⟨hP1, hD1⟩ := hB
  rw [ht] at hP1
  have hP1 : va_P D vwCl (WS cI cZ cS (q1, u) st0) H1 := hP1
  have hD1 : va_D (va_A [(q1, .inr (5, [.null, .null, .null]))] H.size) (WS cI cZ cS (q1, u) st0) := hD1
  have hD2 := hD1.weaken (B := A0) (fun k q _ h => hFc q.1 h)
  refine lv_astore_n (lv' := [(0, .ref q1)]) hx hb dL_texts_7 rfl hl (by decide) rfl (fun ls hl => ?_)
  exact key (q1, u) H1 locs _ _ ((Nat.le_of_ble_eq_true rfl)) ((Nat.le_of_ble_eq_true rfl)) hP1 hD2 hS ls hl
