
abbrev rmL_seen : Room := { frames := 5, cells := 0, slots := 0, locals := 113 }
theorem hdnL_seen : yL_seen.cls ≠ "java/lang/invoke/MethodHandle" ∧ yL_seen.cls ≠ "java/lang/invoke/VarHandle" ∧ (parseMethodDescriptor yL_seen.desc).map (fun d => d.parameters.length) = some 1 := by decide +kernel
set_option maxHeartbeats 8000000 in
set_option maxRecDepth 100000 in
theorem KL_seen (l : Launch) (D : va_G) (cI cZ cS cJ : ClassId) (a : AD) (st : ST) (r : Int64) (hF : fL_seen st = some (r)) : Met l yL_seen wsL_seen rmL_seen (rP D (gT cI cZ cS cJ) (WS cI cZ cS a st) [.ref a.1]) (rQ (.long r)) 0 0 (fun _ => False) := by
  refine Met.ofW (cc := cL_seen) (maxL := 4) (ret := (some .long)) (by decide) rfl ?_
  intro p e s m args below meth c s₁ B hml hv
  obtain ⟨ha, hK, hP⟩ := hv
  have hx := B.exec
  have hb := B.bytes
  have hr := B.returns
  have hlocks := B.notSynchronized
  have hts : ∀ w ∈ lw_all, w.before args s = true := fun w h => atoms_spec (ws := wsL_seen) B.pre w (List.mem_cons_of_mem _ h)
  have hown : s.vm.findClass RL = some m.cls := findClass_of_methodNamed B.named
  have S : CallFix p m c cL_seen 4 s args lw_all RL := ⟨hx, hb, hml, hown, hts⟩
  have hl := lv_entry ([.ref a.1] : List Value) (n := 4) (Nat.le_of_ble_eq_true rfl)
  refine W.eq (g2 := F0 m 0 ((lg_sl ([.ref a.1] : List Value) ++ List.replicate (4 - (lg_sl ([.ref a.1] : List Value)).length) Slot.unset).toArray) []) (by rw [ha]; exact lg_entry_eq _ _ _) ?_
  generalize (lg_sl ([.ref a.1] : List Value) ++ List.replicate (4 - (lg_sl ([.ref a.1] : List Value)).length) Slot.unset).toArray = ls at hl ⊢
  have hl : lv_has ls 4 [(0, .ref a.1)] := hl
  have W_101 : ∀  (n : Nat) (x1 : Int64) (x3 : Int32), ∀ (ls : Array Slot), lv_has ls 4 [(0, .ref a.1), (1, .long x1), (3, .int x3)] → fL_seen_l101 st n x1 x3 = some (r) → rW p l e wsL_seen rmL_seen s m args below meth c (.long r) (F0 m 101 ls []) := by
    intro   n
    induction n with
    | zero =>
      intro x1 x3 ls hl hF
      rw [fL_seen_l101] at hF
      cases hF
    | succ n ih =>
      intro x1 x3 ls hl hF
      rw [fL_seen_l101] at hF
      refine lv_iload_n hx hb dL_seen_101 rfl (lv_at hl 2 rfl) ?_
      refine lv_aload_n hx hb dL_seen_102 rfl (lv_at hl 0 rfl) ?_
      refine lv_iconst (v := (1 : Int32)) hx hb dL_seen_103 (by decide) ?_
      obtain ⟨k20, q21, h22, hF⟩ := bd2_at hF
      obtain ⟨g23, hF⟩ := gd_at hF
      rw [g23] at h22
      refine rcall (va_runV (As := [.int (1 : Int32)]) (rest := [.int x3]) S (NS_count l D cI cZ cS cJ a st (1 : Int32) q21 h22) (cwV 1 hts (gd_V wd_413 wd_414 wd_415 wd_22 wd_416) rfl rfl rfl hd5_count ⟨Nat.le_of_ble_eq_true rfl, Nat.le_of_ble_eq_true rfl⟩) (rPreV hK hP (ci := 5) (q := (RX5, TX5, 3)) (WS_0 cI cZ cS a st) rfl) rfl rfl hl.1 rfl (lv_room (Nat.le_of_ble_eq_true rfl)) dL_seen_104 ⟨(Nat.zero_le _), (Nat.zero_le _)⟩) ?_
      refine lv_icmp_ge (tgt := 167) hx hb dL_seen_107 (by decide) (fun c24 => ?_) (fun c24 => ?_)
      · have hF := ite_t c24 hF
        refine lv_lload_n hx hb dL_seen_167 rfl (lv_at hl 1 rfl) ?_
        exact rretl hF hx hb hr hlocks dL_seen_168
      · have hF := ite_f c24 hF
        refine lv_iload_n hx hb dL_seen_110 rfl (lv_at hl 2 rfl) ?_
        refine lv_bipush (v := (20 : Int32)) hx hb dL_seen_111 (by decide) ?_
        refine lv_icmp_ge (tgt := 167) hx hb dL_seen_113 (by decide) (fun c25 => ?_) (fun c25 => ?_)
        · have hF := ite_t c25 hF
          refine lv_lload_n hx hb dL_seen_167 rfl (lv_at hl 1 rfl) ?_
          exact rretl hF hx hb hr hlocks dL_seen_168
        · have hF := ite_f c25 hF
          refine lv_ldc2 hx hb hown (hts _ wk_90) dL_seen_116 ?_
          refine lv_lload_n hx hb dL_seen_119 rfl (lv_at hl 1 rfl) ?_
          refine lv_lmul hx hb dL_seen_120 ?_
          refine lv_ldc2 hx hb hown (hts _ wk_92) dL_seen_121 ?_
          refine lv_aload_n hx hb dL_seen_124 rfl (lv_at hl 0 rfl) ?_
          refine lv_iload_n hx hb dL_seen_125 rfl (lv_at hl 2 rfl) ?_
          obtain ⟨k26, q27, h28, hF⟩ := bd2_at hF
          obtain ⟨g29, hF⟩ := gd_at hF
          rw [g29] at h28
          refine rcall (va_runV (As := [.int x3]) (rest := [.long (5 : Int64), .long ((31 : Int64) * x1)]) S (NS_ranked l D cI cZ cS cJ a st x3 q27 h28) (cwV 1 hts (gd_V wd_590 wd_591 wd_592 wd_22 wd_593) rfl rfl rfl hd5_ranked ⟨Nat.le_of_ble_eq_true rfl, Nat.le_of_ble_eq_true rfl⟩) (rPreV hK hP (ci := 5) (q := (RX5, TX5, 3)) (WS_0 cI cZ cS a st) rfl) rfl rfl hl.1 rfl (lv_room (Nat.le_of_ble_eq_true rfl)) dL_seen_126 ⟨(Nat.zero_le _), (Nat.zero_le _)⟩) ?_
          refine lv_i2l hx hb dL_seen_129 rfl ?_
          refine lv_lmul hx hb dL_seen_130 ?_
          refine lv_ladd hx hb dL_seen_131 ?_
          refine lv_aload_n hx hb dL_seen_132 rfl (lv_at hl 0 rfl) ?_
          refine lv_aload_n hx hb dL_seen_133 rfl (lv_at hl 0 rfl) ?_
          refine lv_iload_n hx hb dL_seen_134 rfl (lv_at hl 2 rfl) ?_
          obtain ⟨k30, q31, h32, hF⟩ := bd2_at hF
          obtain ⟨g33, hF⟩ := gd_at hF
          rw [g33] at h32
          refine rcall (va_runV (As := [.int x3]) (rest := [.ref a.1, .long (((31 : Int64) * x1) + ((5 : Int64) * q27.toInt64))]) S (NS_ranked l D cI cZ cS cJ a st x3 q31 h32) (cwV 1 hts (gd_V wd_590 wd_591 wd_592 wd_22 wd_593) rfl rfl rfl hd5_ranked ⟨Nat.le_of_ble_eq_true rfl, Nat.le_of_ble_eq_true rfl⟩) (rPreV hK hP (ci := 5) (q := (RX5, TX5, 3)) (WS_0 cI cZ cS a st) rfl) rfl rfl hl.1 rfl (lv_room (Nat.le_of_ble_eq_true rfl)) dL_seen_135 ⟨(Nat.zero_le _), (Nat.zero_le _)⟩) ?_
          refine lv_iconst (v := (0 : Int32)) hx hb dL_seen_138 (by decide) ?_
          obtain ⟨k34, q35, h36, hF⟩ := bd2_at hF
          obtain ⟨g37, hF⟩ := gd_at hF
          rw [g37] at h36
          refine rcall (va_runV (As := [.int q31, .int (0 : Int32)]) (rest := [.long (((31 : Int64) * x1) + ((5 : Int64) * q27.toInt64))]) S (NS_cheque l D cI cZ cS cJ a st q31 (0 : Int32) q35 h36) (cwV 2 hts (gd_V wd_572 wd_573 wd_574 wd_22 wd_575) rfl rfl rfl hd5_cheque ⟨Nat.le_of_ble_eq_true rfl, Nat.le_of_ble_eq_true rfl⟩) (rPreV hK hP (ci := 5) (q := (RX5, TX5, 3)) (WS_0 cI cZ cS a st) rfl) rfl rfl hl.1 rfl (lv_room (Nat.le_of_ble_eq_true rfl)) dL_seen_139 ⟨(Nat.zero_le _), (Nat.zero_le _)⟩) ?_
          refine lv_i2l hx hb dL_seen_142 rfl ?_
          refine lv_ladd hx hb dL_seen_143 ?_
          refine lv_ldc2 hx hb hown (hts _ wk_94) dL_seen_144 ?_
          refine lv_aload_n hx hb dL_seen_147 rfl (lv_at hl 0 rfl) ?_
          refine lv_aload_n hx hb dL_seen_148 rfl (lv_at hl 0 rfl) ?_
          refine lv_iload_n hx hb dL_seen_149 rfl (lv_at hl 2 rfl) ?_
          obtain ⟨k38, q39, h40, hF⟩ := bd2_at hF
          obtain ⟨g41, hF⟩ := gd_at hF
          rw [g41] at h40
          refine rcall (va_runV (As := [.int x3]) (rest := [.ref a.1, .long (3 : Int64), .long ((((31 : Int64) * x1) + ((5 : Int64) * q27.toInt64)) + q35.toInt64)]) S (NS_ranked l D cI cZ cS cJ a st x3 q39 h40) (cwV 1 hts (gd_V wd_590 wd_591 wd_592 wd_22 wd_593) rfl rfl rfl hd5_ranked ⟨Nat.le_of_ble_eq_true rfl, Nat.le_of_ble_eq_true rfl⟩) (rPreV hK hP (ci := 5) (q := (RX5, TX5, 3)) (WS_0 cI cZ cS a st) rfl) rfl rfl hl.1 rfl (lv_room (Nat.le_of_ble_eq_true rfl)) dL_seen_150 ⟨(Nat.zero_le _), (Nat.zero_le _)⟩) ?_
          refine lv_iconst (v := (1 : Int32)) hx hb dL_seen_153 (by decide) ?_
          obtain ⟨k42, q43, h44, hF⟩ := bd2_at hF
          obtain ⟨g45, hF⟩ := gd_at hF
          rw [g45] at h44
          refine rcall (va_runV (As := [.int q39, .int (1 : Int32)]) (rest := [.long (3 : Int64), .long ((((31 : Int64) * x1) + ((5 : Int64) * q27.toInt64)) + q35.toInt64)]) S (NS_cheque l D cI cZ cS cJ a st q39 (1 : Int32) q43 h44) (cwV 2 hts (gd_V wd_572 wd_573 wd_574 wd_22 wd_575) rfl rfl rfl hd5_cheque ⟨Nat.le_of_ble_eq_true rfl, Nat.le_of_ble_eq_true rfl⟩) (rPreV hK hP (ci := 5) (q := (RX5, TX5, 3)) (WS_0 cI cZ cS a st) rfl) rfl rfl hl.1 rfl (lv_room (Nat.le_of_ble_eq_true rfl)) dL_seen_154 ⟨(Nat.zero_le _), (Nat.zero_le _)⟩) ?_
          refine lv_i2l hx hb dL_seen_157 rfl ?_
          refine lv_lmul hx hb dL_seen_158 ?_
          refine lv_ladd hx hb dL_seen_159 ?_
          refine lv_topl (fun t46 e47 => ?_)
          have hF := lt_at e47 hF
          refine lv_lstore_n (lv' := [(1, .long t46), (0, .ref a.1), (3, .int x3)]) hx hb dL_seen_160 rfl hl (by decide) rfl (fun ls hl => ?_)
          refine lv_iinc (v := (x3 + 1)) (lv' := [(3, .int (x3 + 1)), (1, .long t46), (0, .ref a.1)]) hx hb dL_seen_161 hl (k := 2) rfl rfl (by decide) rfl (fun ls hl => ?_)
          refine lv_goto (tgt := 101) hx hb dL_seen_164 (by decide) ?_
          exact ih t46 (x3 + 1) ls (lv_sub hl [2, 1, 0] rfl) hF
  have W_61 : ∀  (n : Nat) (x1 : Int64) (x3 : Int32), ∀ (ls : Array Slot), lv_has ls 4 [(0, .ref a.1), (1, .long x1), (3, .int x3)] → fL_seen_l61 st n x1 x3 = some (r) → rW p l e wsL_seen rmL_seen s m args below meth c (.long r) (F0 m 61 ls []) := by
    intro   n
    induction n with
    | zero =>
      intro x1 x3 ls hl hF
      rw [fL_seen_l61] at hF
      cases hF
    | succ n ih =>
      intro x1 x3 ls hl hF
      rw [fL_seen_l61] at hF
      refine lv_iload_n hx hb dL_seen_61 rfl (lv_at hl 2 rfl) ?_
      refine lv_bipush (v := (9 : Int32)) hx hb dL_seen_62 (by decide) ?_
      refine lv_aload_n hx hb dL_seen_64 rfl (lv_at hl 0 rfl) ?_
      refine lv_iconst (v := (0 : Int32)) hx hb dL_seen_65 (by decide) ?_
      obtain ⟨k11, q12, h13, hF⟩ := bd2_at hF
      obtain ⟨g14, hF⟩ := gd_at hF
      rw [g14] at h13
      refine rcall (va_runV (As := [.int (0 : Int32)]) (rest := [.int (9 : Int32), .int x3]) S (NS_count l D cI cZ cS cJ a st (0 : Int32) q12 h13) (cwV 1 hts (gd_V wd_413 wd_414 wd_415 wd_22 wd_416) rfl rfl rfl hd5_count ⟨Nat.le_of_ble_eq_true rfl, Nat.le_of_ble_eq_true rfl⟩) (rPreV hK hP (ci := 5) (q := (RX5, TX5, 3)) (WS_0 cI cZ cS a st) rfl) rfl rfl hl.1 rfl (lv_room (Nat.le_of_ble_eq_true rfl)) dL_seen_66 ⟨(Nat.zero_le _), (Nat.zero_le _)⟩) ?_
      refine lv_imul hx hb dL_seen_69 ?_
      refine lv_icmp_ge (tgt := 99) hx hb dL_seen_70 (by decide) (fun c15 => ?_) (fun c15 => ?_)
      · have hF := ite_t c15 hF
        refine lv_iconst (v := (0 : Int32)) hx hb dL_seen_99 (by decide) ?_
        refine lv_istore_n (lv' := [(3, .int (0 : Int32)), (0, .ref a.1), (1, .long x1)]) hx hb dL_seen_100 rfl hl (by decide) rfl (fun ls hl => ?_)
        exact W_101   fu x1 (0 : Int32) ls (lv_sub hl [1, 2, 0] rfl) hF
      · have hF := ite_f c15 hF
        refine lv_ldc2 hx hb hown (hts _ wk_90) dL_seen_73 ?_
        refine lv_lload_n hx hb dL_seen_76 rfl (lv_at hl 1 rfl) ?_
        refine lv_lmul hx hb dL_seen_77 ?_
        refine lv_aload_n hx hb dL_seen_78 rfl (lv_at hl 0 rfl) ?_
        refine lv_iload_n hx hb dL_seen_79 rfl (lv_at hl 2 rfl) ?_
        refine lv_bipush (v := (9 : Int32)) hx hb dL_seen_80 (by decide) ?_
        refine lv_idiv hx hb dL_seen_82 (by decide) ?_
        refine lv_iload_n hx hb dL_seen_83 rfl (lv_at hl 2 rfl) ?_
        refine lv_bipush (v := (9 : Int32)) hx hb dL_seen_84 (by decide) ?_
        refine lv_irem hx hb dL_seen_86 (by decide) ?_
        obtain ⟨k16, q17, h18, hF⟩ := bd2_at hF
        obtain ⟨g19, hF⟩ := gd_at hF
        rw [g19] at h18
        refine rcall (va_runV (As := [.int (x3 / (9 : Int32)), .int (x3 - x3 / (9 : Int32) * (9 : Int32))]) (rest := [.long ((31 : Int64) * x1)]) S (NS_bookOf l D cI cZ cS cJ a st (x3 / (9 : Int32)) (x3 - x3 / (9 : Int32) * (9 : Int32)) q17 h18) (cwV 2 hts (gd_V wd_583 wd_584 wd_585 wd_22 wd_586) rfl rfl rfl hd5_bookOf ⟨Nat.le_of_ble_eq_true rfl, Nat.le_of_ble_eq_true rfl⟩) (rPreV hK hP (ci := 5) (q := (RX5, TX5, 3)) (WS_0 cI cZ cS a st) rfl) rfl rfl hl.1 rfl (lv_room (Nat.le_of_ble_eq_true rfl)) dL_seen_87 ⟨(Nat.zero_le _), (Nat.zero_le _)⟩) ?_
        refine lv_i2l hx hb dL_seen_90 rfl ?_
        refine lv_ladd hx hb dL_seen_91 ?_
        refine lv_lstore_n (lv' := [(1, .long (((31 : Int64) * x1) + q17.toInt64)), (0, .ref a.1), (3, .int x3)]) hx hb dL_seen_92 rfl hl (by decide) rfl (fun ls hl => ?_)
        refine lv_iinc (v := (x3 + 1)) (lv' := [(3, .int (x3 + 1)), (1, .long (((31 : Int64) * x1) + q17.toInt64)), (0, .ref a.1)]) hx hb dL_seen_93 hl (k := 2) rfl rfl (by decide) rfl (fun ls hl => ?_)
        refine lv_goto (tgt := 61) hx hb dL_seen_96 (by decide) ?_
        exact ih (((31 : Int64) * x1) + q17.toInt64) (x3 + 1) ls (lv_sub hl [2, 1, 0] rfl) hF
  have W_34 : ∀  (n : Nat) (x1 : Int64) (x3 : Int32), ∀ (ls : Array Slot), lv_has ls 4 [(0, .ref a.1), (1, .long x1), (3, .int x3)] → fL_seen_l34 st n x1 x3 = some (r) → rW p l e wsL_seen rmL_seen s m args below meth c (.long r) (F0 m 34 ls []) := by
    intro   n
    induction n with
    | zero =>
      intro x1 x3 ls hl hF
      rw [fL_seen_l34] at hF
      cases hF
    | succ n ih =>
      intro x1 x3 ls hl hF
      rw [fL_seen_l34] at hF
      refine lv_iload_n hx hb dL_seen_34 rfl (lv_at hl 2 rfl) ?_
      refine lv_bipush (v := (18 : Int32)) hx hb dL_seen_35 (by decide) ?_
      refine lv_icmp_ge (tgt := 59) hx hb dL_seen_37 (by decide) (fun c6 => ?_) (fun c6 => ?_)
      · have hF := ite_t c6 hF
        refine lv_iconst (v := (0 : Int32)) hx hb dL_seen_59 (by decide) ?_
        refine lv_istore_n (lv' := [(3, .int (0 : Int32)), (0, .ref a.1), (1, .long x1)]) hx hb dL_seen_60 rfl hl (by decide) rfl (fun ls hl => ?_)
        exact W_61   fu x1 (0 : Int32) ls (lv_sub hl [1, 2, 0] rfl) hF
      · have hF := ite_f c6 hF
        refine lv_ldc2 hx hb hown (hts _ wk_90) dL_seen_40 ?_
        refine lv_lload_n hx hb dL_seen_43 rfl (lv_at hl 1 rfl) ?_
        refine lv_lmul hx hb dL_seen_44 ?_
        refine lv_aload_n hx hb dL_seen_45 rfl (lv_at hl 0 rfl) ?_
        refine lv_iload_n hx hb dL_seen_46 rfl (lv_at hl 2 rfl) ?_
        obtain ⟨k7, q8, h9, hF⟩ := bd2_at hF
        obtain ⟨g10, hF⟩ := gd_at hF
        rw [g10] at h9
        refine rcall (va_runV (As := [.int x3]) (rest := [.long ((31 : Int64) * x1)]) S (NS_count l D cI cZ cS cJ a st x3 q8 h9) (cwV 1 hts (gd_V wd_413 wd_414 wd_415 wd_22 wd_416) rfl rfl rfl hd5_count ⟨Nat.le_of_ble_eq_true rfl, Nat.le_of_ble_eq_true rfl⟩) (rPreV hK hP (ci := 5) (q := (RX5, TX5, 3)) (WS_0 cI cZ cS a st) rfl) rfl rfl hl.1 rfl (lv_room (Nat.le_of_ble_eq_true rfl)) dL_seen_47 ⟨(Nat.zero_le _), (Nat.zero_le _)⟩) ?_
        refine lv_i2l hx hb dL_seen_50 rfl ?_
        refine lv_ladd hx hb dL_seen_51 ?_
        refine lv_lstore_n (lv' := [(1, .long (((31 : Int64) * x1) + q8.toInt64)), (0, .ref a.1), (3, .int x3)]) hx hb dL_seen_52 rfl hl (by decide) rfl (fun ls hl => ?_)
        refine lv_iinc (v := (x3 + 1)) (lv' := [(3, .int (x3 + 1)), (1, .long (((31 : Int64) * x1) + q8.toInt64)), (0, .ref a.1)]) hx hb dL_seen_53 hl (k := 2) rfl rfl (by decide) rfl (fun ls hl => ?_)
        refine lv_goto (tgt := 34) hx hb dL_seen_56 (by decide) ?_
        exact ih (((31 : Int64) * x1) + q8.toInt64) (x3 + 1) ls (lv_sub hl [2, 1, 0] rfl) hF
  have W_6 : ∀  (n : Nat) (x1 : Int64) (x3 : Int32), ∀ (ls : Array Slot), lv_has ls 4 [(0, .ref a.1), (1, .long x1), (3, .int x3)] → fL_seen_l6 st n x1 x3 = some (r) → rW p l e wsL_seen rmL_seen s m args below meth c (.long r) (F0 m 6 ls []) := by
    intro   n
    induction n with
    | zero =>
      intro x1 x3 ls hl hF
      rw [fL_seen_l6] at hF
      cases hF
    | succ n ih =>
      intro x1 x3 ls hl hF
      rw [fL_seen_l6] at hF
      refine lv_iload_n hx hb dL_seen_6 rfl (lv_at hl 2 rfl) ?_
      refine lv_bipush (v := (10 : Int32)) hx hb dL_seen_7 (by decide) ?_
      refine lv_icmp_ge (tgt := 31) hx hb dL_seen_9 (by decide) (fun c1 => ?_) (fun c1 => ?_)
      · have hF := ite_t c1 hF
        refine lv_bipush (v := (12 : Int32)) hx hb dL_seen_31 (by decide) ?_
        refine lv_istore_n (lv' := [(3, .int (12 : Int32)), (0, .ref a.1), (1, .long x1)]) hx hb dL_seen_33 rfl hl (by decide) rfl (fun ls hl => ?_)
        exact W_34   fu x1 (12 : Int32) ls (lv_sub hl [1, 2, 0] rfl) hF
      · have hF := ite_f c1 hF
        refine lv_ldc2 hx hb hown (hts _ wk_90) dL_seen_12 ?_
        refine lv_lload_n hx hb dL_seen_15 rfl (lv_at hl 1 rfl) ?_
        refine lv_lmul hx hb dL_seen_16 ?_
        refine lv_aload_n hx hb dL_seen_17 rfl (lv_at hl 0 rfl) ?_
        refine lv_iload_n hx hb dL_seen_18 rfl (lv_at hl 2 rfl) ?_
        obtain ⟨k2, q3, h4, hF⟩ := bd2_at hF
        obtain ⟨g5, hF⟩ := gd_at hF
        rw [g5] at h4
        refine rcall (va_runV (As := [.int x3]) (rest := [.long ((31 : Int64) * x1)]) S (NS_count l D cI cZ cS cJ a st x3 q3 h4) (cwV 1 hts (gd_V wd_413 wd_414 wd_415 wd_22 wd_416) rfl rfl rfl hd5_count ⟨Nat.le_of_ble_eq_true rfl, Nat.le_of_ble_eq_true rfl⟩) (rPreV hK hP (ci := 5) (q := (RX5, TX5, 3)) (WS_0 cI cZ cS a st) rfl) rfl rfl hl.1 rfl (lv_room (Nat.le_of_ble_eq_true rfl)) dL_seen_19 ⟨(Nat.zero_le _), (Nat.zero_le _)⟩) ?_
        refine lv_i2l hx hb dL_seen_22 rfl ?_
        refine lv_ladd hx hb dL_seen_23 ?_
        refine lv_lstore_n (lv' := [(1, .long (((31 : Int64) * x1) + q3.toInt64)), (0, .ref a.1), (3, .int x3)]) hx hb dL_seen_24 rfl hl (by decide) rfl (fun ls hl => ?_)
        refine lv_iinc (v := (x3 + 1)) (lv' := [(3, .int (x3 + 1)), (1, .long (((31 : Int64) * x1) + q3.toInt64)), (0, .ref a.1)]) hx hb dL_seen_25 hl (k := 2) rfl rfl (by decide) rfl (fun ls hl => ?_)
        refine lv_goto (tgt := 6) hx hb dL_seen_28 (by decide) ?_
        exact ih (((31 : Int64) * x1) + q3.toInt64) (x3 + 1) ls (lv_sub hl [2, 1, 0] rfl) hF
  rw [fL_seen] at hF
  show rW p l e wsL_seen rmL_seen s m args below meth c (.long r) (F0 m 0 ls [])
  refine lv_ldc2 hx hb hown (hts _ wk_88) dL_seen_0 ?_
  refine lv_lstore_n (lv' := [(1, .long (642 : Int64)), (0, .ref a.1)]) hx hb dL_seen_3 rfl hl (by decide) rfl (fun ls hl => ?_)
  refine lv_iconst (v := (0 : Int32)) hx hb dL_seen_4 (by decide) ?_
  refine lv_istore_n (lv' := [(3, .int (0 : Int32)), (1, .long (642 : Int64)), (0, .ref a.1)]) hx hb dL_seen_5 rfl hl (by decide) rfl (fun ls hl => ?_)
  exact W_6   fu (642 : Int64) (0 : Int32) ls (lv_sub hl [2, 1, 0] rfl) hF
abbrev rmL_refusesOne : Room := { frames := 9, cells := 114, slots := 684, locals := 188 }
theorem hdnL_refusesOne : yL_refusesOne.cls ≠ "java/lang/invoke/MethodHandle" ∧ yL_refusesOne.cls ≠ "java/lang/invoke/VarHandle" ∧ (parseMethodDescriptor yL_refusesOne.desc).map (fun d => d.parameters.length) = some 2 := by decide +kernel
set_option maxHeartbeats 8000000 in
set_option maxRecDepth 100000 in
theorem KL_refusesOne (l : Launch) (hfl : l.stackTraces = false) (D : va_G) (cI cZ cS cJ : ClassId) (a : AD) (st : ST) (x1 : Int32) (r : Int32) (z_st : ST) (hF : fL_refusesOne st x1 = some (r, z_st)) : Met l yL_refusesOne wsL_refusesOne rmL_refusesOne (wP D (gT cI cZ cS cJ) (WS cI cZ cS a st) [.ref a.1, .int x1]) (uQ D (some (.int r)) (uA (WS cI cZ cS a st)) (WS cI cZ cS a z_st)) 114 684 (uA (WS cI cZ cS a st)) := by
  refine Met.ofW (cc := cL_refusesOne) (maxL := 4) (ret := (some .boolean)) (by decide) rfl ?_
  intro p e s m args below meth c s₁ B hml hv
  obtain ⟨⟨ha, hK, hP, hD0, hX, hZ⟩, hY⟩ := hv
  have hx := B.exec
  have hb := B.bytes
  have hr := B.returns
  have hlocks := B.notSynchronized
  have hts : ∀ w ∈ lw_all, w.before args s = true := fun w h => atoms_spec (ws := wsL_refusesOne) B.pre w (List.mem_cons_of_mem _ h)
  have hown : s.vm.findClass RL = some m.cls := findClass_of_methodNamed B.named
  have S : CallFix p m c cL_refusesOne 4 s args lw_all RL := ⟨hx, hb, hml, hown, hts⟩
  have hD := hD0.own
  generalize uA (WS cI cZ cS a st) = A0 at hD hZ ⊢
  have hS : va_S A0 s.heap s.heap [] := va_S.rf
  have hl := lv_entry ([.ref a.1, .int x1] : List Value) (n := 4) (Nat.le_of_ble_eq_true rfl)
  refine W.eq (g2 := F0 m 0 ((lg_sl ([.ref a.1, .int x1] : List Value) ++ List.replicate (4 - (lg_sl ([.ref a.1, .int x1] : List Value)).length) Slot.unset).toArray) []) (by rw [ha]; exact lg_entry_eq _ _ _) ?_
  generalize (lg_sl ([.ref a.1, .int x1] : List Value) ++ List.replicate (4 - (lg_sl ([.ref a.1, .int x1] : List Value)).length) Slot.unset).toArray = ls at hl ⊢
  have hl : lv_has ls 4 [(0, .ref a.1), (1, .int x1)] := hl
  have W_670 : ∀ (st : ST) (x2 : Int32) (x3 : Int32) (s0 : Int32), ∀ (H : Heap) (locs : List Loc) (cl sl : Nat), cl + 12 ≤ 114 → sl + 72 ≤ 684 → va_P D vwCl (WS cI cZ cS a st) H → va_D A0 (WS cI cZ cS a st) → va_S A0 s.heap H locs → ∀ (ls : Array Slot), lv_has ls 4 [(0, .ref a.1), (2, .int x2), (3, .int x3)] → fL_refusesOne_j670 st x2 x3 s0 = some (r, z_st) → vW p l e wsL_refusesOne rmL_refusesOne s m args below meth c D (some (.int r)) A0 (WS cI cZ cS a z_st) 114 684 H locs cl sl (F0 m 670 ls [.int s0, .int (25 : Int32), .int (0 : Int32), .int (19 : Int32), .ref a.1]) := by
    intro st x2 x3 s0  H locs cl sl hc1 hc2 hP hD hS ls hl hF
    rw [fL_refusesOne_j670] at hF
    obtain ⟨q182, h183, hF⟩ := bd1_at hF
    refine scalli (X' := WS cI cZ cS a st) (vx_runSW (As := [.ref a.1, .int (19 : Int32), .int (0 : Int32), .int (25 : Int32), .int s0]) (rest := []) S (KT_meant l hfl D cI cZ cS cJ a st (0 : Int32) (25 : Int32) s0 q182 h183) (vx_cwSW 5 hts (gd_SW wd_448 wd_449 wd_21 cwL_call) rfl rfl rfl hdL_call ⟨Nat.le_of_ble_eq_true rfl, Nat.le_of_ble_eq_true rfl⟩) (wPreS hK hX hZ hY hS hP hD) rfl rfl hl.1 rfl (lv_room (Nat.le_of_ble_eq_true rfl)) dL_refusesOne_670 ⟨(by show cl + 3 ≤ 114; omega), (by show sl + 18 ≤ 684; omega)⟩) hS hD (fun H locs hP hS => ?_)
    have hP : va_P D vwCl (WS cI cZ cS a st) H := hP
    refine lv_bipush (v := (-12 : Int32)) hx hb dL_refusesOne_673 (by decide) ?_
    refine lv_icmp_ne (tgt := 726) hx hb dL_refusesOne_675 (by decide) (fun c184 => ?_) (fun c184 => ?_)
    · have hF := ite_f c184 hF
      refine lv_iconst (v := (0 : Int32)) hx hb dL_refusesOne_726 (by decide) ?_
      cases hF
      exact vretz (by omega) (by omega) (by decide) hx hb hr hlocks hP hS dL_refusesOne_727
    · have hF := ite_t c184 hF
      refine lv_aload_n hx hb dL_refusesOne_678 rfl (lv_at hl 0 rfl) ?_
      refine lv_bipush (v := (20 : Int32)) hx hb dL_refusesOne_679 (by decide) ?_
      refine lv_iload_n hx hb dL_refusesOne_681 rfl (lv_at hl 1 rfl) ?_
      refine lv_iconst (v := (0 : Int32)) hx hb dL_refusesOne_682 (by decide) ?_
      refine lv_bipush (v := (99 : Int32)) hx hb dL_refusesOne_683 (by decide) ?_
      obtain ⟨q185, h186, hF⟩ := bd1_at hF
      refine scalli (X' := WS cI cZ cS a st) (vx_runSW (As := [.ref a.1, .int (20 : Int32), .int x2, .int (0 : Int32), .int (99 : Int32)]) (rest := []) S (KT_slip l hfl D cI cZ cS cJ a st x2 (0 : Int32) (99 : Int32) q185 h186) (vx_cwSW 5 hts (gd_SW wd_448 wd_449 wd_21 cwL_call) rfl rfl rfl hdL_call ⟨Nat.le_of_ble_eq_true rfl, Nat.le_of_ble_eq_true rfl⟩) (wPreS hK hX hZ hY hS hP hD) rfl rfl hl.1 rfl (lv_room (Nat.le_of_ble_eq_true rfl)) dL_refusesOne_685 ⟨(by show cl + 6 ≤ 114; omega), (by show sl + 36 ≤ 684; omega)⟩) hS hD (fun H locs hP hS => ?_)
      have hP : va_P D vwCl (WS cI cZ cS a st) H := hP
      refine lv_bipush (v := (-11 : Int32)) hx hb dL_refusesOne_688 (by decide) ?_
      refine lv_icmp_ne (tgt := 726) hx hb dL_refusesOne_690 (by decide) (fun c187 => ?_) (fun c187 => ?_)
      · have hF := ite_f c187 hF
        refine lv_iconst (v := (0 : Int32)) hx hb dL_refusesOne_726 (by decide) ?_
        cases hF
        exact vretz (by omega) (by omega) (by decide) hx hb hr hlocks hP hS dL_refusesOne_727
      · have hF := ite_t c187 hF
        refine lv_aload_n hx hb dL_refusesOne_693 rfl (lv_at hl 0 rfl) ?_
        refine lv_bipush (v := (20 : Int32)) hx hb dL_refusesOne_694 (by decide) ?_
        refine lv_iconst (v := (0 : Int32)) hx hb dL_refusesOne_696 (by decide) ?_
        refine lv_iload_n hx hb dL_refusesOne_697 rfl (lv_at hl 1 rfl) ?_
        refine lv_bipush (v := (99 : Int32)) hx hb dL_refusesOne_698 (by decide) ?_
        obtain ⟨q188, h189, hF⟩ := bd1_at hF
        refine scalli (X' := WS cI cZ cS a st) (vx_runSW (As := [.ref a.1, .int (20 : Int32), .int (0 : Int32), .int x2, .int (99 : Int32)]) (rest := []) S (KT_slip l hfl D cI cZ cS cJ a st (0 : Int32) x2 (99 : Int32) q188 h189) (vx_cwSW 5 hts (gd_SW wd_448 wd_449 wd_21 cwL_call) rfl rfl rfl hdL_call ⟨Nat.le_of_ble_eq_true rfl, Nat.le_of_ble_eq_true rfl⟩) (wPreS hK hX hZ hY hS hP hD) rfl rfl hl.1 rfl (lv_room (Nat.le_of_ble_eq_true rfl)) dL_refusesOne_700 ⟨(by show cl + 9 ≤ 114; omega), (by show sl + 54 ≤ 684; omega)⟩) hS hD (fun H locs hP hS => ?_)
        have hP : va_P D vwCl (WS cI cZ cS a st) H := hP
        refine lv_bipush (v := (-11 : Int32)) hx hb dL_refusesOne_703 (by decide) ?_
        refine lv_icmp_ne (tgt := 726) hx hb dL_refusesOne_705 (by decide) (fun c190 => ?_) (fun c190 => ?_)
        · have hF := ite_f c190 hF
          refine lv_iconst (v := (0 : Int32)) hx hb dL_refusesOne_726 (by decide) ?_
          cases hF
          exact vretz (by omega) (by omega) (by decide) hx hb hr hlocks hP hS dL_refusesOne_727
        · have hF := ite_t c190 hF
          refine lv_aload_n hx hb dL_refusesOne_708 rfl (lv_at hl 0 rfl) ?_
          refine lv_bipush (v := (20 : Int32)) hx hb dL_refusesOne_709 (by decide) ?_
          refine lv_iconst (v := (0 : Int32)) hx hb dL_refusesOne_711 (by decide) ?_
          refine lv_iconst (v := (0 : Int32)) hx hb dL_refusesOne_712 (by decide) ?_
          refine lv_iload_n hx hb dL_refusesOne_713 rfl (lv_at hl 2 rfl) ?_
          obtain ⟨q191, h192, hF⟩ := bd1_at hF
          refine scalli (X' := WS cI cZ cS a st) (vx_runSW (As := [.ref a.1, .int (20 : Int32), .int (0 : Int32), .int (0 : Int32), .int x3]) (rest := []) S (KT_slip l hfl D cI cZ cS cJ a st (0 : Int32) (0 : Int32) x3 q191 h192) (vx_cwSW 5 hts (gd_SW wd_448 wd_449 wd_21 cwL_call) rfl rfl rfl hdL_call ⟨Nat.le_of_ble_eq_true rfl, Nat.le_of_ble_eq_true rfl⟩) (wPreS hK hX hZ hY hS hP hD) rfl rfl hl.1 rfl (lv_room (Nat.le_of_ble_eq_true rfl)) dL_refusesOne_714 ⟨(by show cl + 12 ≤ 114; omega), (by show sl + 72 ≤ 684; omega)⟩) hS hD (fun H locs hP hS => ?_)
          have hP : va_P D vwCl (WS cI cZ cS a st) H := hP
          refine lv_bipush (v := (-12 : Int32)) hx hb dL_refusesOne_717 (by decide) ?_
          refine lv_icmp_ne (tgt := 726) hx hb dL_refusesOne_719 (by decide) (fun c193 => ?_) (fun c193 => ?_)
          · have hF := ite_f c193 hF
            refine lv_iconst (v := (0 : Int32)) hx hb dL_refusesOne_726 (by decide) ?_
            cases hF
            exact vretz (by omega) (by omega) (by decide) hx hb hr hlocks hP hS dL_refusesOne_727
          · have hF := ite_t c193 hF
            refine lv_iconst (v := (1 : Int32)) hx hb dL_refusesOne_722 (by decide) ?_
            refine lv_goto (tgt := 727) hx hb dL_refusesOne_723 (by decide) ?_
            cases hF
            exact vretz (by omega) (by omega) (by decide) hx hb hr hlocks hP hS dL_refusesOne_727
  have W_552 : ∀ (st : ST) (x1 : Int32) (x2 : Int32) (x3 : Int32) (s0 : Int32), ∀ (H : Heap) (locs : List Loc) (cl sl : Nat), cl + 30 ≤ 114 → sl + 180 ≤ 684 → va_P D vwCl (WS cI cZ cS a st) H → va_D A0 (WS cI cZ cS a st) → va_S A0 s.heap H locs → ∀ (ls : Array Slot), lv_has ls 4 [(0, .ref a.1), (1, .int x1), (2, .int x2), (3, .int x3)] → fL_refusesOne_j552 st x1 x2 x3 s0 = some (r, z_st) → vW p l e wsL_refusesOne rmL_refusesOne s m args below meth c D (some (.int r)) A0 (WS cI cZ cS a z_st) 114 684 H locs cl sl (F0 m 552 ls [.int s0, .int (5 : Int32), .int (17 : Int32), .ref a.1]) := by
    intro st x1 x2 x3 s0  H locs cl sl hc1 hc2 hP hD hS ls hl hF
    rw [fL_refusesOne_j552] at hF
    refine lv_iconst (v := (0 : Int32)) hx hb dL_refusesOne_552 (by decide) ?_
    obtain ⟨q157, h158, hF⟩ := bd1_at hF
    refine scalli (X' := WS cI cZ cS a st) (vx_runSW (As := [.ref a.1, .int (17 : Int32), .int (5 : Int32), .int s0, .int (0 : Int32)]) (rest := []) S (KT_weak l hfl D cI cZ cS cJ a st (5 : Int32) s0 (0 : Int32) q157 h158) (vx_cwSW 5 hts (gd_SW wd_448 wd_449 wd_21 cwL_call) rfl rfl rfl hdL_call ⟨Nat.le_of_ble_eq_true rfl, Nat.le_of_ble_eq_true rfl⟩) (wPreS hK hX hZ hY hS hP hD) rfl rfl hl.1 rfl (lv_room (Nat.le_of_ble_eq_true rfl)) dL_refusesOne_553 ⟨(by show cl + 3 ≤ 114; omega), (by show sl + 18 ≤ 684; omega)⟩) hS hD (fun H locs hP hS => ?_)
    have hP : va_P D vwCl (WS cI cZ cS a st) H := hP
    refine lv_bipush (v := (-12 : Int32)) hx hb dL_refusesOne_556 (by decide) ?_
    refine lv_icmp_ne (tgt := 618) hx hb dL_refusesOne_558 (by decide) (fun c159 => ?_) (fun c159 => ?_)
    · have hF := ite_f c159 hF
      refine lv_iconst (v := (0 : Int32)) hx hb dL_refusesOne_618 (by decide) ?_
      cases hF
      exact vretz (by omega) (by omega) (by decide) hx hb hr hlocks hP hS dL_refusesOne_619
    · have hF := ite_t c159 hF
      refine lv_aload_n hx hb dL_refusesOne_561 rfl (lv_at hl 0 rfl) ?_
      refine lv_bipush (v := (17 : Int32)) hx hb dL_refusesOne_562 (by decide) ?_
      refine lv_iconst (v := (4 : Int32)) hx hb dL_refusesOne_564 (by decide) ?_
      refine lv_iconst (v := (1 : Int32)) hx hb dL_refusesOne_565 (by decide) ?_
      refine lv_iload_n hx hb dL_refusesOne_566 rfl (lv_at hl 1 rfl) ?_
      refine lv_iconst (v := (0 : Int32)) hx hb dL_refusesOne_567 (by decide) ?_
      refine lv_iconst (v := (1 : Int32)) hx hb dL_refusesOne_568 (by decide) ?_
      obtain ⟨q160, h161, hF⟩ := bd1_at hF
      refine rcall (va_runS (As := [.int x1, .int (0 : Int32), .int (1 : Int32)]) (rest := [.int (1 : Int32), .int (4 : Int32), .int (17 : Int32), .ref a.1]) S (KL_far l D cI cZ cS cJ x1 (0 : Int32) (1 : Int32) q160 h161) (va_cwS 3 hts (gd_S wd_711 wd_712 wd_21 wd_713) rfl rfl rfl hdnL_far ⟨Nat.le_of_ble_eq_true rfl, Nat.le_of_ble_eq_true rfl⟩) (rPreS hK (hP.sub (ws' := ([] : va_W)) [] rfl)) rfl rfl hl.1 rfl (lv_room (Nat.le_of_ble_eq_true rfl)) dL_refusesOne_569 ⟨(by show cl + 3 ≤ 114; omega), (by show sl + 18 ≤ 684; omega)⟩) ?_
      obtain ⟨q162, h163, hF⟩ := bd1_at hF
      refine scalli (X' := WS cI cZ cS a st) (vx_runSW (As := [.ref a.1, .int (17 : Int32), .int (4 : Int32), .int (1 : Int32), .int q160]) (rest := []) S (KT_weak l hfl D cI cZ cS cJ a st (4 : Int32) (1 : Int32) q160 q162 h163) (vx_cwSW 5 hts (gd_SW wd_448 wd_449 wd_21 cwL_call) rfl rfl rfl hdL_call ⟨Nat.le_of_ble_eq_true rfl, Nat.le_of_ble_eq_true rfl⟩) (wPreS hK hX hZ hY hS hP hD) rfl rfl hl.1 rfl (lv_room (Nat.le_of_ble_eq_true rfl)) dL_refusesOne_572 ⟨(by show cl + 6 ≤ 114; omega), (by show sl + 36 ≤ 684; omega)⟩) hS hD (fun H locs hP hS => ?_)
      have hP : va_P D vwCl (WS cI cZ cS a st) H := hP
      refine lv_bipush (v := (-12 : Int32)) hx hb dL_refusesOne_575 (by decide) ?_
      refine lv_icmp_ne (tgt := 618) hx hb dL_refusesOne_577 (by decide) (fun c164 => ?_) (fun c164 => ?_)
      · have hF := ite_f c164 hF
        refine lv_iconst (v := (0 : Int32)) hx hb dL_refusesOne_618 (by decide) ?_
        cases hF
        exact vretz (by omega) (by omega) (by decide) hx hb hr hlocks hP hS dL_refusesOne_619
      · have hF := ite_t c164 hF
        refine lv_aload_n hx hb dL_refusesOne_580 rfl (lv_at hl 0 rfl) ?_
        refine lv_bipush (v := (18 : Int32)) hx hb dL_refusesOne_581 (by decide) ?_
        refine lv_iload_n hx hb dL_refusesOne_583 rfl (lv_at hl 1 rfl) ?_
        refine lv_iconst (v := (0 : Int32)) hx hb dL_refusesOne_584 (by decide) ?_
        refine lv_iconst (v := (5 : Int32)) hx hb dL_refusesOne_585 (by decide) ?_
        obtain ⟨q165, h166, hF⟩ := bd1_at hF
        refine rcall (va_runS (As := [.int x1, .int (0 : Int32), .int (5 : Int32)]) (rest := [.int (18 : Int32), .ref a.1]) S (KL_far l D cI cZ cS cJ x1 (0 : Int32) (5 : Int32) q165 h166) (va_cwS 3 hts (gd_S wd_711 wd_712 wd_21 wd_713) rfl rfl rfl hdnL_far ⟨Nat.le_of_ble_eq_true rfl, Nat.le_of_ble_eq_true rfl⟩) (rPreS hK (hP.sub (ws' := ([] : va_W)) [] rfl)) rfl rfl hl.1 rfl (lv_room (Nat.le_of_ble_eq_true rfl)) dL_refusesOne_586 ⟨(by show cl + 6 ≤ 114; omega), (by show sl + 36 ≤ 684; omega)⟩) ?_
        refine lv_iconst (v := (0 : Int32)) hx hb dL_refusesOne_589 (by decide) ?_
        refine lv_iconst (v := (0 : Int32)) hx hb dL_refusesOne_590 (by decide) ?_
        obtain ⟨q167, h168, hF⟩ := bd1_at hF
        refine scalli (X' := WS cI cZ cS a st) (vx_runSW (As := [.ref a.1, .int (18 : Int32), .int q165, .int (0 : Int32), .int (0 : Int32)]) (rest := []) S (KT_bestWeight l hfl D cI cZ cS cJ a st q165 (0 : Int32) (0 : Int32) q167 h168) (vx_cwSW 5 hts (gd_SW wd_448 wd_449 wd_21 cwL_call) rfl rfl rfl hdL_call ⟨Nat.le_of_ble_eq_true rfl, Nat.le_of_ble_eq_true rfl⟩) (wPreS hK hX hZ hY hS hP hD) rfl rfl hl.1 rfl (lv_room (Nat.le_of_ble_eq_true rfl)) dL_refusesOne_591 ⟨(by show cl + 9 ≤ 114; omega), (by show sl + 54 ≤ 684; omega)⟩) hS hD (fun H locs hP hS => ?_)
        have hP : va_P D vwCl (WS cI cZ cS a st) H := hP
        refine lv_bipush (v := (-11 : Int32)) hx hb dL_refusesOne_594 (by decide) ?_
        refine lv_icmp_ne (tgt := 618) hx hb dL_refusesOne_596 (by decide) (fun c169 => ?_) (fun c169 => ?_)
        · have hF := ite_f c169 hF
          refine lv_iconst (v := (0 : Int32)) hx hb dL_refusesOne_618 (by decide) ?_
          cases hF
          exact vretz (by omega) (by omega) (by decide) hx hb hr hlocks hP hS dL_refusesOne_619
        · have hF := ite_t c169 hF
          refine lv_aload_n hx hb dL_refusesOne_599 rfl (lv_at hl 0 rfl) ?_
          refine lv_bipush (v := (21 : Int32)) hx hb dL_refusesOne_600 (by decide) ?_
          refine lv_iload_n hx hb dL_refusesOne_602 rfl (lv_at hl 1 rfl) ?_
          refine lv_iconst (v := (0 : Int32)) hx hb dL_refusesOne_603 (by decide) ?_
          refine lv_iconst (v := (2 : Int32)) hx hb dL_refusesOne_604 (by decide) ?_
          obtain ⟨q170, h171, hF⟩ := bd1_at hF
          refine rcall (va_runS (As := [.int x1, .int (0 : Int32), .int (2 : Int32)]) (rest := [.int (21 : Int32), .ref a.1]) S (KL_far l D cI cZ cS cJ x1 (0 : Int32) (2 : Int32) q170 h171) (va_cwS 3 hts (gd_S wd_711 wd_712 wd_21 wd_713) rfl rfl rfl hdnL_far ⟨Nat.le_of_ble_eq_true rfl, Nat.le_of_ble_eq_true rfl⟩) (rPreS hK (hP.sub (ws' := ([] : va_W)) [] rfl)) rfl rfl hl.1 rfl (lv_room (Nat.le_of_ble_eq_true rfl)) dL_refusesOne_605 ⟨(by show cl + 9 ≤ 114; omega), (by show sl + 54 ≤ 684; omega)⟩) ?_
          refine lv_iconst (v := (0 : Int32)) hx hb dL_refusesOne_608 (by decide) ?_
          refine lv_iconst (v := (0 : Int32)) hx hb dL_refusesOne_609 (by decide) ?_
          obtain ⟨q172, h173, hF⟩ := bd1_at hF
          refine scalli (X' := WS cI cZ cS a st) (vx_runSW (As := [.ref a.1, .int (21 : Int32), .int q170, .int (0 : Int32), .int (0 : Int32)]) (rest := []) S (KT_finds l hfl D cI cZ cS cJ a st q170 (0 : Int32) (0 : Int32) q172 h173) (vx_cwSW 5 hts (gd_SW wd_448 wd_449 wd_21 cwL_call) rfl rfl rfl hdL_call ⟨Nat.le_of_ble_eq_true rfl, Nat.le_of_ble_eq_true rfl⟩) (wPreS hK hX hZ hY hS hP hD) rfl rfl hl.1 rfl (lv_room (Nat.le_of_ble_eq_true rfl)) dL_refusesOne_610 ⟨(by show cl + 12 ≤ 114; omega), (by show sl + 72 ≤ 684; omega)⟩) hS hD (fun H locs hP hS => ?_)
          have hP : va_P D vwCl (WS cI cZ cS a st) H := hP
          refine lv_bipush (v := (-12 : Int32)) hx hb dL_refusesOne_613 (by decide) ?_
          refine lv_icmp_eq (tgt := 620) hx hb dL_refusesOne_615 (by decide) (fun c174 => ?_) (fun c174 => ?_)
          · have hF := ite_t c174 hF
            refine lv_aload_n hx hb dL_refusesOne_620 rfl (lv_at hl 0 rfl) ?_
            refine lv_bipush (v := (19 : Int32)) hx hb dL_refusesOne_621 (by decide) ?_
            refine lv_iload_n hx hb dL_refusesOne_623 rfl (lv_at hl 2 rfl) ?_
            refine lv_bipush (v := (99 : Int32)) hx hb dL_refusesOne_624 (by decide) ?_
            refine lv_bipush (v := (-9 : Int32)) hx hb dL_refusesOne_626 (by decide) ?_
            obtain ⟨q175, h176, hF⟩ := bd1_at hF
            refine scalli (X' := WS cI cZ cS a st) (vx_runSW (As := [.ref a.1, .int (19 : Int32), .int x2, .int (99 : Int32), .int (-9 : Int32)]) (rest := []) S (KT_meant l hfl D cI cZ cS cJ a st x2 (99 : Int32) (-9 : Int32) q175 h176) (vx_cwSW 5 hts (gd_SW wd_448 wd_449 wd_21 cwL_call) rfl rfl rfl hdL_call ⟨Nat.le_of_ble_eq_true rfl, Nat.le_of_ble_eq_true rfl⟩) (wPreS hK hX hZ hY hS hP hD) rfl rfl hl.1 rfl (lv_room (Nat.le_of_ble_eq_true rfl)) dL_refusesOne_628 ⟨(by show cl + 15 ≤ 114; omega), (by show sl + 90 ≤ 684; omega)⟩) hS hD (fun H locs hP hS => ?_)
            have hP : va_P D vwCl (WS cI cZ cS a st) H := hP
            refine lv_bipush (v := (-11 : Int32)) hx hb dL_refusesOne_631 (by decide) ?_
            refine lv_icmp_ne (tgt := 726) hx hb dL_refusesOne_633 (by decide) (fun c177 => ?_) (fun c177 => ?_)
            · have hF := ite_f c177 hF
              refine lv_iconst (v := (0 : Int32)) hx hb dL_refusesOne_726 (by decide) ?_
              cases hF
              exact vretz (by omega) (by omega) (by decide) hx hb hr hlocks hP hS dL_refusesOne_727
            · have hF := ite_t c177 hF
              refine lv_aload_n hx hb dL_refusesOne_636 rfl (lv_at hl 0 rfl) ?_
              refine lv_bipush (v := (19 : Int32)) hx hb dL_refusesOne_637 (by decide) ?_
              refine lv_iconst (v := (0 : Int32)) hx hb dL_refusesOne_639 (by decide) ?_
              refine lv_iload_n hx hb dL_refusesOne_640 rfl (lv_at hl 3 rfl) ?_
              refine lv_iconst (v := (0 : Int32)) hx hb dL_refusesOne_641 (by decide) ?_
              obtain ⟨q178, h179, hF⟩ := bd1_at hF
              refine scalli (X' := WS cI cZ cS a st) (vx_runSW (As := [.ref a.1, .int (19 : Int32), .int (0 : Int32), .int x3, .int (0 : Int32)]) (rest := []) S (KT_meant l hfl D cI cZ cS cJ a st (0 : Int32) x3 (0 : Int32) q178 h179) (vx_cwSW 5 hts (gd_SW wd_448 wd_449 wd_21 cwL_call) rfl rfl rfl hdL_call ⟨Nat.le_of_ble_eq_true rfl, Nat.le_of_ble_eq_true rfl⟩) (wPreS hK hX hZ hY hS hP hD) rfl rfl hl.1 rfl (lv_room (Nat.le_of_ble_eq_true rfl)) dL_refusesOne_642 ⟨(by show cl + 18 ≤ 114; omega), (by show sl + 108 ≤ 684; omega)⟩) hS hD (fun H locs hP hS => ?_)
              have hP : va_P D vwCl (WS cI cZ cS a st) H := hP
              refine lv_bipush (v := (-12 : Int32)) hx hb dL_refusesOne_645 (by decide) ?_
              refine lv_icmp_ne (tgt := 726) hx hb dL_refusesOne_647 (by decide) (fun c180 => ?_) (fun c180 => ?_)
              · have hF := ite_f c180 hF
                refine lv_iconst (v := (0 : Int32)) hx hb dL_refusesOne_726 (by decide) ?_
                cases hF
                exact vretz (by omega) (by omega) (by decide) hx hb hr hlocks hP hS dL_refusesOne_727
              · have hF := ite_t c180 hF
                refine lv_aload_n hx hb dL_refusesOne_650 rfl (lv_at hl 0 rfl) ?_
                refine lv_bipush (v := (19 : Int32)) hx hb dL_refusesOne_651 (by decide) ?_
                refine lv_iconst (v := (0 : Int32)) hx hb dL_refusesOne_653 (by decide) ?_
                refine lv_bipush (v := (25 : Int32)) hx hb dL_refusesOne_654 (by decide) ?_
                refine lv_iload_n hx hb dL_refusesOne_656 rfl (lv_at hl 1 rfl) ?_
                refine lv_iconst (v := (2 : Int32)) hx hb dL_refusesOne_657 (by decide) ?_
                refine lv_icmp_ge (tgt := 668) hx hb dL_refusesOne_658 (by decide) (fun c181 => ?_) (fun c181 => ?_)
                · have hF := ite_t c181 hF
                  refine lv_ldc hx hb hown (hts _ wd_714) dL_refusesOne_668 ?_
                  exact W_670 st x2 x3 (-2147483648 : Int32)  _ _ _ _ (by omega) (by omega) hP hD hS ls (lv_sub hl [0, 2, 3] rfl) hF
                · have hF := ite_f c181 hF
                  refine lv_bipush (v := (-2 : Int32)) hx hb dL_refusesOne_661 (by decide) ?_
                  refine lv_iload_n hx hb dL_refusesOne_663 rfl (lv_at hl 1 rfl) ?_
                  refine lv_isub hx hb dL_refusesOne_664 ?_
                  refine lv_goto (tgt := 670) hx hb dL_refusesOne_665 (by decide) ?_
                  exact W_670 st x2 x3 ((-2 : Int32) - x1)  _ _ _ _ (by omega) (by omega) hP hD hS ls (lv_sub hl [0, 2, 3] rfl) hF
          · have hF := ite_f c174 hF
            refine lv_iconst (v := (0 : Int32)) hx hb dL_refusesOne_618 (by decide) ?_
            cases hF
            exact vretz (by omega) (by omega) (by decide) hx hb hr hlocks hP hS dL_refusesOne_619
  have W_461 : ∀ (st : ST) (x1 : Int32) (x2 : Int32) (x3 : Int32), ∀ (H : Heap) (locs : List Loc) (cl sl : Nat), cl + 42 ≤ 114 → sl + 252 ≤ 684 → va_P D vwCl (WS cI cZ cS a st) H → va_D A0 (WS cI cZ cS a st) → va_S A0 s.heap H locs → ∀ (ls : Array Slot), lv_has ls 4 [(0, .ref a.1), (1, .int x1), (2, .int x2), (3, .int x3)] → fL_refusesOne_j461 st x1 x2 x3 = some (r, z_st) → vW p l e wsL_refusesOne rmL_refusesOne s m args below meth c D (some (.int r)) A0 (WS cI cZ cS a z_st) 114 684 H locs cl sl (F0 m 461 ls []) := by
    intro st x1 x2 x3  H locs cl sl hc1 hc2 hP hD hS ls hl hF
    rw [fL_refusesOne_j461] at hF
    refine lv_aload_n hx hb dL_refusesOne_461 rfl (lv_at hl 0 rfl) ?_
    refine lv_bipush (v := (16 : Int32)) hx hb dL_refusesOne_462 (by decide) ?_
    refine lv_iload_n hx hb dL_refusesOne_464 rfl (lv_at hl 2 rfl) ?_
    refine lv_bipush (v := (9 : Int32)) hx hb dL_refusesOne_465 (by decide) ?_
    refine lv_iconst (v := (0 : Int32)) hx hb dL_refusesOne_467 (by decide) ?_
    obtain ⟨q136, h137, hF⟩ := bd1_at hF
    refine scalli (X' := WS cI cZ cS a st) (vx_runSW (As := [.ref a.1, .int (16 : Int32), .int x2, .int (9 : Int32), .int (0 : Int32)]) (rest := []) S (KT_missed l hfl D cI cZ cS cJ a st x2 (9 : Int32) (0 : Int32) q136 h137) (vx_cwSW 5 hts (gd_SW wd_448 wd_449 wd_21 cwL_call) rfl rfl rfl hdL_call ⟨Nat.le_of_ble_eq_true rfl, Nat.le_of_ble_eq_true rfl⟩) (wPreS hK hX hZ hY hS hP hD) rfl rfl hl.1 rfl (lv_room (Nat.le_of_ble_eq_true rfl)) dL_refusesOne_468 ⟨(by show cl + 3 ≤ 114; omega), (by show sl + 18 ≤ 684; omega)⟩) hS hD (fun H locs hP hS => ?_)
    have hP : va_P D vwCl (WS cI cZ cS a st) H := hP
    refine lv_bipush (v := (-11 : Int32)) hx hb dL_refusesOne_471 (by decide) ?_
    refine lv_icmp_ne (tgt := 618) hx hb dL_refusesOne_473 (by decide) (fun c138 => ?_) (fun c138 => ?_)
    · have hF := ite_f c138 hF
      refine lv_iconst (v := (0 : Int32)) hx hb dL_refusesOne_618 (by decide) ?_
      cases hF
      exact vretz (by omega) (by omega) (by decide) hx hb hr hlocks hP hS dL_refusesOne_619
    · have hF := ite_t c138 hF
      refine lv_aload_n hx hb dL_refusesOne_476 rfl (lv_at hl 0 rfl) ?_
      refine lv_bipush (v := (16 : Int32)) hx hb dL_refusesOne_477 (by decide) ?_
      refine lv_iconst (v := (0 : Int32)) hx hb dL_refusesOne_479 (by decide) ?_
      refine lv_iload_n hx hb dL_refusesOne_480 rfl (lv_at hl 1 rfl) ?_
      refine lv_iconst (v := (0 : Int32)) hx hb dL_refusesOne_481 (by decide) ?_
      refine lv_iconst (v := (2 : Int32)) hx hb dL_refusesOne_482 (by decide) ?_
      obtain ⟨q139, h140, hF⟩ := bd1_at hF
      refine rcall (va_runS (As := [.int x1, .int (0 : Int32), .int (2 : Int32)]) (rest := [.int (0 : Int32), .int (16 : Int32), .ref a.1]) S (KL_far l D cI cZ cS cJ x1 (0 : Int32) (2 : Int32) q139 h140) (va_cwS 3 hts (gd_S wd_711 wd_712 wd_21 wd_713) rfl rfl rfl hdnL_far ⟨Nat.le_of_ble_eq_true rfl, Nat.le_of_ble_eq_true rfl⟩) (rPreS hK (hP.sub (ws' := ([] : va_W)) [] rfl)) rfl rfl hl.1 rfl (lv_room (Nat.le_of_ble_eq_true rfl)) dL_refusesOne_483 ⟨(by show cl + 3 ≤ 114; omega), (by show sl + 18 ≤ 684; omega)⟩) ?_
      refine lv_iconst (v := (0 : Int32)) hx hb dL_refusesOne_486 (by decide) ?_
      obtain ⟨q141, h142, hF⟩ := bd1_at hF
      refine scalli (X' := WS cI cZ cS a st) (vx_runSW (As := [.ref a.1, .int (16 : Int32), .int (0 : Int32), .int q139, .int (0 : Int32)]) (rest := []) S (KT_missed l hfl D cI cZ cS cJ a st (0 : Int32) q139 (0 : Int32) q141 h142) (vx_cwSW 5 hts (gd_SW wd_448 wd_449 wd_21 cwL_call) rfl rfl rfl hdL_call ⟨Nat.le_of_ble_eq_true rfl, Nat.le_of_ble_eq_true rfl⟩) (wPreS hK hX hZ hY hS hP hD) rfl rfl hl.1 rfl (lv_room (Nat.le_of_ble_eq_true rfl)) dL_refusesOne_487 ⟨(by show cl + 6 ≤ 114; omega), (by show sl + 36 ≤ 684; omega)⟩) hS hD (fun H locs hP hS => ?_)
      have hP : va_P D vwCl (WS cI cZ cS a st) H := hP
      refine lv_bipush (v := (-12 : Int32)) hx hb dL_refusesOne_490 (by decide) ?_
      refine lv_icmp_ne (tgt := 618) hx hb dL_refusesOne_492 (by decide) (fun c143 => ?_) (fun c143 => ?_)
      · have hF := ite_f c143 hF
        refine lv_iconst (v := (0 : Int32)) hx hb dL_refusesOne_618 (by decide) ?_
        cases hF
        exact vretz (by omega) (by omega) (by decide) hx hb hr hlocks hP hS dL_refusesOne_619
      · have hF := ite_t c143 hF
        refine lv_aload_n hx hb dL_refusesOne_495 rfl (lv_at hl 0 rfl) ?_
        refine lv_bipush (v := (17 : Int32)) hx hb dL_refusesOne_496 (by decide) ?_
        refine lv_iload_n hx hb dL_refusesOne_498 rfl (lv_at hl 1 rfl) ?_
        refine lv_iconst (v := (0 : Int32)) hx hb dL_refusesOne_499 (by decide) ?_
        refine lv_iconst (v := (5 : Int32)) hx hb dL_refusesOne_500 (by decide) ?_
        obtain ⟨q144, h145, hF⟩ := bd1_at hF
        refine rcall (va_runS (As := [.int x1, .int (0 : Int32), .int (5 : Int32)]) (rest := [.int (17 : Int32), .ref a.1]) S (KL_far l D cI cZ cS cJ x1 (0 : Int32) (5 : Int32) q144 h145) (va_cwS 3 hts (gd_S wd_711 wd_712 wd_21 wd_713) rfl rfl rfl hdnL_far ⟨Nat.le_of_ble_eq_true rfl, Nat.le_of_ble_eq_true rfl⟩) (rPreS hK (hP.sub (ws' := ([] : va_W)) [] rfl)) rfl rfl hl.1 rfl (lv_room (Nat.le_of_ble_eq_true rfl)) dL_refusesOne_501 ⟨(by show cl + 6 ≤ 114; omega), (by show sl + 36 ≤ 684; omega)⟩) ?_
        refine lv_iconst (v := (0 : Int32)) hx hb dL_refusesOne_504 (by decide) ?_
        refine lv_iconst (v := (0 : Int32)) hx hb dL_refusesOne_505 (by decide) ?_
        obtain ⟨q146, h147, hF⟩ := bd1_at hF
        refine scalli (X' := WS cI cZ cS a st) (vx_runSW (As := [.ref a.1, .int (17 : Int32), .int q144, .int (0 : Int32), .int (0 : Int32)]) (rest := []) S (KT_weak l hfl D cI cZ cS cJ a st q144 (0 : Int32) (0 : Int32) q146 h147) (vx_cwSW 5 hts (gd_SW wd_448 wd_449 wd_21 cwL_call) rfl rfl rfl hdL_call ⟨Nat.le_of_ble_eq_true rfl, Nat.le_of_ble_eq_true rfl⟩) (wPreS hK hX hZ hY hS hP hD) rfl rfl hl.1 rfl (lv_room (Nat.le_of_ble_eq_true rfl)) dL_refusesOne_506 ⟨(by show cl + 9 ≤ 114; omega), (by show sl + 54 ≤ 684; omega)⟩) hS hD (fun H locs hP hS => ?_)
        have hP : va_P D vwCl (WS cI cZ cS a st) H := hP
        refine lv_bipush (v := (-11 : Int32)) hx hb dL_refusesOne_509 (by decide) ?_
        refine lv_icmp_ne (tgt := 618) hx hb dL_refusesOne_511 (by decide) (fun c148 => ?_) (fun c148 => ?_)
        · have hF := ite_f c148 hF
          refine lv_iconst (v := (0 : Int32)) hx hb dL_refusesOne_618 (by decide) ?_
          cases hF
          exact vretz (by omega) (by omega) (by decide) hx hb hr hlocks hP hS dL_refusesOne_619
        · have hF := ite_t c148 hF
          refine lv_aload_n hx hb dL_refusesOne_514 rfl (lv_at hl 0 rfl) ?_
          refine lv_bipush (v := (17 : Int32)) hx hb dL_refusesOne_515 (by decide) ?_
          refine lv_iload_n hx hb dL_refusesOne_517 rfl (lv_at hl 1 rfl) ?_
          refine lv_iconst (v := (0 : Int32)) hx hb dL_refusesOne_518 (by decide) ?_
          refine lv_iconst (v := (4 : Int32)) hx hb dL_refusesOne_519 (by decide) ?_
          obtain ⟨q149, h150, hF⟩ := bd1_at hF
          refine rcall (va_runS (As := [.int x1, .int (0 : Int32), .int (4 : Int32)]) (rest := [.int (17 : Int32), .ref a.1]) S (KL_far l D cI cZ cS cJ x1 (0 : Int32) (4 : Int32) q149 h150) (va_cwS 3 hts (gd_S wd_711 wd_712 wd_21 wd_713) rfl rfl rfl hdnL_far ⟨Nat.le_of_ble_eq_true rfl, Nat.le_of_ble_eq_true rfl⟩) (rPreS hK (hP.sub (ws' := ([] : va_W)) [] rfl)) rfl rfl hl.1 rfl (lv_room (Nat.le_of_ble_eq_true rfl)) dL_refusesOne_520 ⟨(by show cl + 9 ≤ 114; omega), (by show sl + 54 ≤ 684; omega)⟩) ?_
          refine lv_iconst (v := (1 : Int32)) hx hb dL_refusesOne_523 (by decide) ?_
          refine lv_bipush (v := (9 : Int32)) hx hb dL_refusesOne_524 (by decide) ?_
          obtain ⟨q151, h152, hF⟩ := bd1_at hF
          refine scalli (X' := WS cI cZ cS a st) (vx_runSW (As := [.ref a.1, .int (17 : Int32), .int q149, .int (1 : Int32), .int (9 : Int32)]) (rest := []) S (KT_weak l hfl D cI cZ cS cJ a st q149 (1 : Int32) (9 : Int32) q151 h152) (vx_cwSW 5 hts (gd_SW wd_448 wd_449 wd_21 cwL_call) rfl rfl rfl hdL_call ⟨Nat.le_of_ble_eq_true rfl, Nat.le_of_ble_eq_true rfl⟩) (wPreS hK hX hZ hY hS hP hD) rfl rfl hl.1 rfl (lv_room (Nat.le_of_ble_eq_true rfl)) dL_refusesOne_526 ⟨(by show cl + 12 ≤ 114; omega), (by show sl + 72 ≤ 684; omega)⟩) hS hD (fun H locs hP hS => ?_)
          have hP : va_P D vwCl (WS cI cZ cS a st) H := hP
          refine lv_bipush (v := (-11 : Int32)) hx hb dL_refusesOne_529 (by decide) ?_
          refine lv_icmp_ne (tgt := 618) hx hb dL_refusesOne_531 (by decide) (fun c153 => ?_) (fun c153 => ?_)
          · have hF := ite_f c153 hF
            refine lv_iconst (v := (0 : Int32)) hx hb dL_refusesOne_618 (by decide) ?_
            cases hF
            exact vretz (by omega) (by omega) (by decide) hx hb hr hlocks hP hS dL_refusesOne_619
          · have hF := ite_t c153 hF
            refine lv_aload_n hx hb dL_refusesOne_534 rfl (lv_at hl 0 rfl) ?_
            refine lv_bipush (v := (17 : Int32)) hx hb dL_refusesOne_535 (by decide) ?_
            refine lv_iconst (v := (5 : Int32)) hx hb dL_refusesOne_537 (by decide) ?_
            refine lv_iload_n hx hb dL_refusesOne_538 rfl (lv_at hl 1 rfl) ?_
            refine lv_if_ne (tgt := 546) hx hb dL_refusesOne_539 (by decide) (fun c154 => ?_) (fun c154 => ?_)
            · have hF := ite_f c154 hF
              refine lv_iload_n hx hb dL_refusesOne_546 rfl (lv_at hl 1 rfl) ?_
              refine lv_iconst (v := (2 : Int32)) hx hb dL_refusesOne_547 (by decide) ?_
              refine lv_iconst (v := (3 : Int32)) hx hb dL_refusesOne_548 (by decide) ?_
              obtain ⟨q155, h156, hF⟩ := bd1_at hF
              refine rcall (va_runS (As := [.int x1, .int (2 : Int32), .int (3 : Int32)]) (rest := [.int (5 : Int32), .int (17 : Int32), .ref a.1]) S (KL_far l D cI cZ cS cJ x1 (2 : Int32) (3 : Int32) q155 h156) (va_cwS 3 hts (gd_S wd_711 wd_712 wd_21 wd_713) rfl rfl rfl hdnL_far ⟨Nat.le_of_ble_eq_true rfl, Nat.le_of_ble_eq_true rfl⟩) (rPreS hK (hP.sub (ws' := ([] : va_W)) [] rfl)) rfl rfl hl.1 rfl (lv_room (Nat.le_of_ble_eq_true rfl)) dL_refusesOne_549 ⟨(by show cl + 12 ≤ 114; omega), (by show sl + 72 ≤ 684; omega)⟩) ?_
              exact W_552 st x1 x2 x3 q155  _ _ _ _ (by omega) (by omega) hP hD hS ls (lv_sub hl [0, 1, 2, 3] rfl) hF
            · have hF := ite_t c154 hF
              refine lv_iconst (v := (-1 : Int32)) hx hb dL_refusesOne_542 (by decide) ?_
              refine lv_goto (tgt := 552) hx hb dL_refusesOne_543 (by decide) ?_
              exact W_552 st x1 x2 x3 (-1 : Int32)  _ _ _ _ (by omega) (by omega) hP hD hS ls (lv_sub hl [0, 1, 2, 3] rfl) hF
  have W_372 : ∀ (st : ST) (x1 : Int32) (x2 : Int32) (x3 : Int32) (s0 : Int32), ∀ (H : Heap) (locs : List Loc) (cl sl : Nat), cl + 54 ≤ 114 → sl + 324 ≤ 684 → va_P D vwCl (WS cI cZ cS a st) H → va_D A0 (WS cI cZ cS a st) → va_S A0 s.heap H locs → ∀ (ls : Array Slot), lv_has ls 4 [(0, .ref a.1), (1, .int x1), (2, .int x2), (3, .int x3)] → fL_refusesOne_j372 st x1 x2 x3 s0 = some (r, z_st) → vW p l e wsL_refusesOne rmL_refusesOne s m args below meth c D (some (.int r)) A0 (WS cI cZ cS a z_st) 114 684 H locs cl sl (F0 m 372 ls [.int s0, .int (15 : Int32), .ref a.1]) := by
    intro st x1 x2 x3 s0  H locs cl sl hc1 hc2 hP hD hS ls hl hF
    rw [fL_refusesOne_j372] at hF
    refine lv_iconst (v := (0 : Int32)) hx hb dL_refusesOne_372 (by decide) ?_
    refine lv_iconst (v := (0 : Int32)) hx hb dL_refusesOne_373 (by decide) ?_
    obtain ⟨q104, h105, hF⟩ := bd1_at hF
    refine scalli (X' := WS cI cZ cS a st) (vx_runSW (As := [.ref a.1, .int (15 : Int32), .int s0, .int (0 : Int32), .int (0 : Int32)]) (rest := []) S (KT_ranked l hfl D cI cZ cS cJ a st s0 (0 : Int32) (0 : Int32) q104 h105) (vx_cwSW 5 hts (gd_SW wd_448 wd_449 wd_21 cwL_call) rfl rfl rfl hdL_call ⟨Nat.le_of_ble_eq_true rfl, Nat.le_of_ble_eq_true rfl⟩) (wPreS hK hX hZ hY hS hP hD) rfl rfl hl.1 rfl (lv_room (Nat.le_of_ble_eq_true rfl)) dL_refusesOne_374 ⟨(by show cl + 3 ≤ 114; omega), (by show sl + 18 ≤ 684; omega)⟩) hS hD (fun H locs hP hS => ?_)
    have hP : va_P D vwCl (WS cI cZ cS a st) H := hP
    refine lv_bipush (v := (-12 : Int32)) hx hb dL_refusesOne_377 (by decide) ?_
    refine lv_icmp_eq (tgt := 384) hx hb dL_refusesOne_379 (by decide) (fun c106 => ?_) (fun c106 => ?_)
    · have hF := ite_t c106 hF
      refine lv_aload_n hx hb dL_refusesOne_384 rfl (lv_at hl 0 rfl) ?_
      refine lv_iconst (v := (0 : Int32)) hx hb dL_refusesOne_385 (by decide) ?_
      obtain ⟨k107, q108, h109, hF⟩ := bd2_at hF
      obtain ⟨g110, hF⟩ := gd_at hF
      rw [g110] at h109
      refine rcall (va_runV (As := [.int (0 : Int32)]) (rest := []) S (NS_count l D cI cZ cS cJ a st (0 : Int32) q108 h109) (cwV 1 hts (gd_V wd_413 wd_414 wd_415 wd_22 wd_416) rfl rfl rfl hd5_count ⟨Nat.le_of_ble_eq_true rfl, Nat.le_of_ble_eq_true rfl⟩) (rPreV hK hP (ci := 5) (q := (RX5, TX5, 3)) (WS_0 cI cZ cS a st) rfl) rfl rfl hl.1 rfl (lv_room (Nat.le_of_ble_eq_true rfl)) dL_refusesOne_386 ⟨(by show cl + 3 ≤ 114; omega), (by show sl + 18 ≤ 684; omega)⟩) ?_
      refine lv_if_le (tgt := 461) hx hb dL_refusesOne_389 (by decide) (fun c111 => ?_) (fun c111 => ?_)
      · have hF := ite_t c111 hF
        exact W_461 st x1 x2 x3  _ _ _ _ (by omega) (by omega) hP hD hS ls (lv_sub hl [0, 1, 2, 3] rfl) hF
      · have hF := ite_f c111 hF
        refine lv_aload_n hx hb dL_refusesOne_392 rfl (lv_at hl 0 rfl) ?_
        refine lv_bipush (v := (12 : Int32)) hx hb dL_refusesOne_393 (by decide) ?_
        refine lv_aload_n hx hb dL_refusesOne_395 rfl (lv_at hl 0 rfl) ?_
        refine lv_iconst (v := (0 : Int32)) hx hb dL_refusesOne_396 (by decide) ?_
        obtain ⟨k112, q113, h114, hF⟩ := bd2_at hF
        obtain ⟨g115, hF⟩ := gd_at hF
        rw [g115] at h114
        refine rcall (va_runV (As := [.int (0 : Int32)]) (rest := [.int (12 : Int32), .ref a.1]) S (NS_ranked l D cI cZ cS cJ a st (0 : Int32) q113 h114) (cwV 1 hts (gd_V wd_590 wd_591 wd_592 wd_22 wd_593) rfl rfl rfl hd5_ranked ⟨Nat.le_of_ble_eq_true rfl, Nat.le_of_ble_eq_true rfl⟩) (rPreV hK hP (ci := 5) (q := (RX5, TX5, 3)) (WS_0 cI cZ cS a st) rfl) rfl rfl hl.1 rfl (lv_room (Nat.le_of_ble_eq_true rfl)) dL_refusesOne_397 ⟨(by show cl + 3 ≤ 114; omega), (by show sl + 18 ≤ 684; omega)⟩) ?_
        refine lv_iload_n hx hb dL_refusesOne_400 rfl (lv_at hl 1 rfl) ?_
        refine lv_iconst (v := (0 : Int32)) hx hb dL_refusesOne_401 (by decide) ?_
        refine lv_iconst (v := (4 : Int32)) hx hb dL_refusesOne_402 (by decide) ?_
        obtain ⟨q116, h117, hF⟩ := bd1_at hF
        refine rcall (va_runS (As := [.int x1, .int (0 : Int32), .int (4 : Int32)]) (rest := [.int q113, .int (12 : Int32), .ref a.1]) S (KL_far l D cI cZ cS cJ x1 (0 : Int32) (4 : Int32) q116 h117) (va_cwS 3 hts (gd_S wd_711 wd_712 wd_21 wd_713) rfl rfl rfl hdnL_far ⟨Nat.le_of_ble_eq_true rfl, Nat.le_of_ble_eq_true rfl⟩) (rPreS hK (hP.sub (ws' := ([] : va_W)) [] rfl)) rfl rfl hl.1 rfl (lv_room (Nat.le_of_ble_eq_true rfl)) dL_refusesOne_403 ⟨(by show cl + 3 ≤ 114; omega), (by show sl + 18 ≤ 684; omega)⟩) ?_
        refine lv_iconst (v := (0 : Int32)) hx hb dL_refusesOne_406 (by decide) ?_
        obtain ⟨q118, h119, hF⟩ := bd1_at hF
        refine scalli (X' := WS cI cZ cS a st) (vx_runSW (As := [.ref a.1, .int (12 : Int32), .int q113, .int q116, .int (0 : Int32)]) (rest := []) S (KT_cheque l hfl D cI cZ cS cJ a st q113 q116 (0 : Int32) q118 h119) (vx_cwSW 5 hts (gd_SW wd_448 wd_449 wd_21 cwL_call) rfl rfl rfl hdL_call ⟨Nat.le_of_ble_eq_true rfl, Nat.le_of_ble_eq_true rfl⟩) (wPreS hK hX hZ hY hS hP hD) rfl rfl hl.1 rfl (lv_room (Nat.le_of_ble_eq_true rfl)) dL_refusesOne_407 ⟨(by show cl + 6 ≤ 114; omega), (by show sl + 36 ≤ 684; omega)⟩) hS hD (fun H locs hP hS => ?_)
        have hP : va_P D vwCl (WS cI cZ cS a st) H := hP
        refine lv_bipush (v := (-12 : Int32)) hx hb dL_refusesOne_410 (by decide) ?_
        refine lv_icmp_ne (tgt := 459) hx hb dL_refusesOne_412 (by decide) (fun c120 => ?_) (fun c120 => ?_)
        · have hF := ite_f c120 hF
          refine lv_iconst (v := (0 : Int32)) hx hb dL_refusesOne_459 (by decide) ?_
          cases hF
          exact vretz (by omega) (by omega) (by decide) hx hb hr hlocks hP hS dL_refusesOne_460
        · have hF := ite_t c120 hF
          refine lv_aload_n hx hb dL_refusesOne_415 rfl (lv_at hl 0 rfl) ?_
          refine lv_bipush (v := (13 : Int32)) hx hb dL_refusesOne_416 (by decide) ?_
          refine lv_iconst (v := (0 : Int32)) hx hb dL_refusesOne_418 (by decide) ?_
          refine lv_iload_n hx hb dL_refusesOne_419 rfl (lv_at hl 1 rfl) ?_
          refine lv_iconst (v := (0 : Int32)) hx hb dL_refusesOne_420 (by decide) ?_
          refine lv_bipush (v := (8 : Int32)) hx hb dL_refusesOne_421 (by decide) ?_
          obtain ⟨q121, h122, hF⟩ := bd1_at hF
          refine rcall (va_runS (As := [.int x1, .int (0 : Int32), .int (8 : Int32)]) (rest := [.int (0 : Int32), .int (13 : Int32), .ref a.1]) S (KL_far l D cI cZ cS cJ x1 (0 : Int32) (8 : Int32) q121 h122) (va_cwS 3 hts (gd_S wd_711 wd_712 wd_21 wd_713) rfl rfl rfl hdnL_far ⟨Nat.le_of_ble_eq_true rfl, Nat.le_of_ble_eq_true rfl⟩) (rPreS hK (hP.sub (ws' := ([] : va_W)) [] rfl)) rfl rfl hl.1 rfl (lv_room (Nat.le_of_ble_eq_true rfl)) dL_refusesOne_423 ⟨(by show cl + 6 ≤ 114; omega), (by show sl + 36 ≤ 684; omega)⟩) ?_
          refine lv_iconst (v := (0 : Int32)) hx hb dL_refusesOne_426 (by decide) ?_
          obtain ⟨q123, h124, hF⟩ := bd1_at hF
          refine scalli (X' := WS cI cZ cS a st) (vx_runSW (As := [.ref a.1, .int (13 : Int32), .int (0 : Int32), .int q121, .int (0 : Int32)]) (rest := []) S (KT_bookOf l hfl D cI cZ cS cJ a st (0 : Int32) q121 (0 : Int32) q123 h124) (vx_cwSW 5 hts (gd_SW wd_448 wd_449 wd_21 cwL_call) rfl rfl rfl hdL_call ⟨Nat.le_of_ble_eq_true rfl, Nat.le_of_ble_eq_true rfl⟩) (wPreS hK hX hZ hY hS hP hD) rfl rfl hl.1 rfl (lv_room (Nat.le_of_ble_eq_true rfl)) dL_refusesOne_427 ⟨(by show cl + 9 ≤ 114; omega), (by show sl + 54 ≤ 684; omega)⟩) hS hD (fun H locs hP hS => ?_)
          have hP : va_P D vwCl (WS cI cZ cS a st) H := hP
          refine lv_bipush (v := (-12 : Int32)) hx hb dL_refusesOne_430 (by decide) ?_
          refine lv_icmp_ne (tgt := 459) hx hb dL_refusesOne_432 (by decide) (fun c125 => ?_) (fun c125 => ?_)
          · have hF := ite_f c125 hF
            refine lv_iconst (v := (0 : Int32)) hx hb dL_refusesOne_459 (by decide) ?_
            cases hF
            exact vretz (by omega) (by omega) (by decide) hx hb hr hlocks hP hS dL_refusesOne_460
          · have hF := ite_t c125 hF
            refine lv_aload_n hx hb dL_refusesOne_435 rfl (lv_at hl 0 rfl) ?_
            refine lv_iconst (v := (3 : Int32)) hx hb dL_refusesOne_436 (by decide) ?_
            refine lv_aload_n hx hb dL_refusesOne_437 rfl (lv_at hl 0 rfl) ?_
            refine lv_iconst (v := (0 : Int32)) hx hb dL_refusesOne_438 (by decide) ?_
            obtain ⟨k126, q127, h128, hF⟩ := bd2_at hF
            obtain ⟨g129, hF⟩ := gd_at hF
            rw [g129] at h128
            refine rcall (va_runV (As := [.int (0 : Int32)]) (rest := [.int (3 : Int32), .ref a.1]) S (NS_ranked l D cI cZ cS cJ a st (0 : Int32) q127 h128) (cwV 1 hts (gd_V wd_590 wd_591 wd_592 wd_22 wd_593) rfl rfl rfl hd5_ranked ⟨Nat.le_of_ble_eq_true rfl, Nat.le_of_ble_eq_true rfl⟩) (rPreV hK hP (ci := 5) (q := (RX5, TX5, 3)) (WS_0 cI cZ cS a st) rfl) rfl rfl hl.1 rfl (lv_room (Nat.le_of_ble_eq_true rfl)) dL_refusesOne_439 ⟨(by show cl + 9 ≤ 114; omega), (by show sl + 54 ≤ 684; omega)⟩) ?_
            refine lv_iload_n hx hb dL_refusesOne_442 rfl (lv_at hl 1 rfl) ?_
            refine lv_iconst (v := (1 : Int32)) hx hb dL_refusesOne_443 (by decide) ?_
            refine lv_sipush (v := (999 : Int32)) hx hb dL_refusesOne_444 (by decide) ?_
            obtain ⟨q130, h131, hF⟩ := bd1_at hF
            refine rcall (va_runS (As := [.int x1, .int (1 : Int32), .int (999 : Int32)]) (rest := [.int q127, .int (3 : Int32), .ref a.1]) S (KL_far l D cI cZ cS cJ x1 (1 : Int32) (999 : Int32) q130 h131) (va_cwS 3 hts (gd_S wd_711 wd_712 wd_21 wd_713) rfl rfl rfl hdnL_far ⟨Nat.le_of_ble_eq_true rfl, Nat.le_of_ble_eq_true rfl⟩) (rPreS hK (hP.sub (ws' := ([] : va_W)) [] rfl)) rfl rfl hl.1 rfl (lv_room (Nat.le_of_ble_eq_true rfl)) dL_refusesOne_447 ⟨(by show cl + 9 ≤ 114; omega), (by show sl + 54 ≤ 684; omega)⟩) ?_
            refine lv_iconst (v := (0 : Int32)) hx hb dL_refusesOne_450 (by decide) ?_
            obtain ⟨q132, u133, h134, hF⟩ := bd2_at hF
            refine scalli (X' := WS cI cZ cS a u133) (vx_runSW (As := [.ref a.1, .int (3 : Int32), .int q127, .int q130, .int (0 : Int32)]) (rest := []) S (KT_write l hfl D cI cZ cS cJ a st q127 q130 (0 : Int32) q132 u133 h134) (vx_cwSW 5 hts (gd_SW wd_448 wd_449 wd_21 cwL_call) rfl rfl rfl hdL_call ⟨Nat.le_of_ble_eq_true rfl, Nat.le_of_ble_eq_true rfl⟩) (wPreS hK hX hZ hY hS hP hD) rfl rfl hl.1 rfl (lv_room (Nat.le_of_ble_eq_true rfl)) dL_refusesOne_451 ⟨(by show cl + 12 ≤ 114; omega), (by show sl + 72 ≤ 684; omega)⟩) hS hD (fun H locs hP hS => ?_)
            have hD : va_D A0 (WS cI cZ cS a u133) := WS_D u133 hD
            have hP : va_P D vwCl (WS cI cZ cS a u133) H := hP
            refine lv_bipush (v := (-12 : Int32)) hx hb dL_refusesOne_454 (by decide) ?_
            refine lv_icmp_eq (tgt := 461) hx hb dL_refusesOne_456 (by decide) (fun c135 => ?_) (fun c135 => ?_)
            · have hF := ite_t c135 hF
              exact W_461 u133 x1 x2 x3  _ _ _ _ (by omega) (by omega) hP hD hS ls (lv_sub hl [0, 1, 2, 3] rfl) hF
            · have hF := ite_f c135 hF
              refine lv_iconst (v := (0 : Int32)) hx hb dL_refusesOne_459 (by decide) ?_
              cases hF
              exact vretz (by omega) (by omega) (by decide) hx hb hr hlocks hP hS dL_refusesOne_460
    · have hF := ite_f c106 hF
      refine lv_iconst (v := (0 : Int32)) hx hb dL_refusesOne_382 (by decide) ?_
      cases hF
      exact vretz (by omega) (by omega) (by decide) hx hb hr hlocks hP hS dL_refusesOne_383
  rw [fL_refusesOne] at hF
  show vW p l e wsL_refusesOne rmL_refusesOne s m args below meth c D (some (.int r)) A0 (WS cI cZ cS a z_st) 114 684 s.heap [] 0 0 (F0 m 0 ls [])
  refine lv_iload_n hx hb dL_refusesOne_0 rfl (lv_at hl 1 rfl) ?_
  refine lv_iconst (v := (0 : Int32)) hx hb dL_refusesOne_1 (by decide) ?_
  refine lv_ldc hx hb hown (hts _ wd_710) dL_refusesOne_2 ?_
  obtain ⟨q1, h2, hF⟩ := bd1_at hF
  refine rcall (va_runS (As := [.int x1, .int (0 : Int32), .int (999999 : Int32)]) (rest := []) S (KL_far l D cI cZ cS cJ x1 (0 : Int32) (999999 : Int32) q1 h2) (va_cwS 3 hts (gd_S wd_711 wd_712 wd_21 wd_713) rfl rfl rfl hdnL_far ⟨Nat.le_of_ble_eq_true rfl, Nat.le_of_ble_eq_true rfl⟩) (rPreS hK (hP.sub (ws' := ([] : va_W)) [] rfl)) rfl rfl hl.1 rfl (lv_room (Nat.le_of_ble_eq_true rfl)) dL_refusesOne_4 ⟨(Nat.le_of_ble_eq_true rfl), (Nat.le_of_ble_eq_true rfl)⟩) ?_
  refine lv_istore_n (lv' := [(2, .int q1), (0, .ref a.1), (1, .int x1)]) hx hb dL_refusesOne_7 rfl hl (by decide) rfl (fun ls hl => ?_)
  refine lv_iload_n hx hb dL_refusesOne_8 rfl (lv_at hl 2 rfl) ?_
  refine lv_iconst (v := (0 : Int32)) hx hb dL_refusesOne_9 (by decide) ?_
  refine lv_bipush (v := (25 : Int32)) hx hb dL_refusesOne_10 (by decide) ?_
  obtain ⟨q3, h4, hF⟩ := bd1_at hF
  refine rcall (va_runS (As := [.int x1, .int (0 : Int32), .int (25 : Int32)]) (rest := []) S (KL_far l D cI cZ cS cJ x1 (0 : Int32) (25 : Int32) q3 h4) (va_cwS 3 hts (gd_S wd_711 wd_712 wd_21 wd_713) rfl rfl rfl hdnL_far ⟨Nat.le_of_ble_eq_true rfl, Nat.le_of_ble_eq_true rfl⟩) (rPreS hK (hP.sub (ws' := ([] : va_W)) [] rfl)) rfl rfl hl.1 rfl (lv_room (Nat.le_of_ble_eq_true rfl)) dL_refusesOne_12 ⟨(Nat.le_of_ble_eq_true rfl), (Nat.le_of_ble_eq_true rfl)⟩) ?_
  refine lv_istore_n (lv' := [(3, .int q3), (2, .int q1), (0, .ref a.1), (1, .int x1)]) hx hb dL_refusesOne_15 rfl hl (by decide) rfl (fun ls hl => ?_)
  refine lv_aload_n hx hb dL_refusesOne_16 rfl (lv_at hl 2 rfl) ?_
  refine lv_iconst (v := (0 : Int32)) hx hb dL_refusesOne_17 (by decide) ?_
  refine lv_iload_n hx hb dL_refusesOne_18 rfl (lv_at hl 3 rfl) ?_
  refine lv_iconst (v := (0 : Int32)) hx hb dL_refusesOne_19 (by decide) ?_
  refine lv_iconst (v := (5 : Int32)) hx hb dL_refusesOne_20 (by decide) ?_
  obtain ⟨q5, h6, hF⟩ := bd1_at hF
  refine rcall (va_runS (As := [.int x1, .int (0 : Int32), .int (5 : Int32)]) (rest := [.int (0 : Int32), .ref a.1]) S (KL_far l D cI cZ cS cJ x1 (0 : Int32) (5 : Int32) q5 h6) (va_cwS 3 hts (gd_S wd_711 wd_712 wd_21 wd_713) rfl rfl rfl hdnL_far ⟨Nat.le_of_ble_eq_true rfl, Nat.le_of_ble_eq_true rfl⟩) (rPreS hK (hP.sub (ws' := ([] : va_W)) [] rfl)) rfl rfl hl.1 rfl (lv_room (Nat.le_of_ble_eq_true rfl)) dL_refusesOne_21 ⟨(Nat.le_of_ble_eq_true rfl), (Nat.le_of_ble_eq_true rfl)⟩) ?_
  refine lv_iconst (v := (0 : Int32)) hx hb dL_refusesOne_24 (by decide) ?_
  refine lv_iconst (v := (0 : Int32)) hx hb dL_refusesOne_25 (by decide) ?_
  obtain ⟨q7, u8, h9, hF⟩ := bd2_at hF
  refine scalli (X' := WS cI cZ cS a u8) (vx_runSW (As := [.ref a.1, .int (0 : Int32), .int q5, .int (0 : Int32), .int (0 : Int32)]) (rest := []) S (KT_weight l hfl D cI cZ cS cJ a st q5 (0 : Int32) (0 : Int32) q7 u8 h9) (vx_cwSW 5 hts (gd_SW wd_448 wd_449 wd_21 cwL_call) rfl rfl rfl hdL_call ⟨Nat.le_of_ble_eq_true rfl, Nat.le_of_ble_eq_true rfl⟩) (wPreS hK hX hZ hY hS hP hD) rfl rfl hl.1 rfl (lv_room (Nat.le_of_ble_eq_true rfl)) dL_refusesOne_26 ⟨(Nat.le_of_ble_eq_true rfl), (Nat.le_of_ble_eq_true rfl)⟩) hS hD (fun H locs hP hS => ?_)
  have hD : va_D A0 (WS cI cZ cS a u8) := WS_D u8 hD
  have hP : va_P D vwCl (WS cI cZ cS a u8) H := hP
  refine lv_bipush (v := (-11 : Int32)) hx hb dL_refusesOne_29 (by decide) ?_
  refine lv_icmp_ne (tgt := 382) hx hb dL_refusesOne_31 (by decide) (fun c10 => ?_) (fun c10 => ?_)
  · have hF := ite_f c10 hF
    refine lv_iconst (v := (0 : Int32)) hx hb dL_refusesOne_382 (by decide) ?_
    cases hF
    exact vretz (Nat.le_of_ble_eq_true rfl) (Nat.le_of_ble_eq_true rfl) (by decide) hx hb hr hlocks hP hS dL_refusesOne_383
  · have hF := ite_t c10 hF
    refine lv_aload_n hx hb dL_refusesOne_34 rfl (lv_at hl 2 rfl) ?_
    refine lv_iconst (v := (0 : Int32)) hx hb dL_refusesOne_35 (by decide) ?_
    refine lv_iconst (v := (5 : Int32)) hx hb dL_refusesOne_36 (by decide) ?_
    refine lv_iload_n hx hb dL_refusesOne_37 rfl (lv_at hl 3 rfl) ?_
    refine lv_iconst (v := (1 : Int32)) hx hb dL_refusesOne_38 (by decide) ?_
    refine lv_bipush (v := (9 : Int32)) hx hb dL_refusesOne_39 (by decide) ?_
    obtain ⟨q11, h12, hF⟩ := bd1_at hF
    refine rcall (va_runS (As := [.int x1, .int (1 : Int32), .int (9 : Int32)]) (rest := [.int (5 : Int32), .int (0 : Int32), .ref a.1]) S (KL_far l D cI cZ cS cJ x1 (1 : Int32) (9 : Int32) q11 h12) (va_cwS 3 hts (gd_S wd_711 wd_712 wd_21 wd_713) rfl rfl rfl hdnL_far ⟨Nat.le_of_ble_eq_true rfl, Nat.le_of_ble_eq_true rfl⟩) (rPreS hK (hP.sub (ws' := ([] : va_W)) [] rfl)) rfl rfl hl.1 rfl (lv_room (Nat.le_of_ble_eq_true rfl)) dL_refusesOne_41 ⟨(Nat.le_of_ble_eq_true rfl), (Nat.le_of_ble_eq_true rfl)⟩) ?_
    refine lv_iconst (v := (0 : Int32)) hx hb dL_refusesOne_44 (by decide) ?_
    obtain ⟨q13, u14, h15, hF⟩ := bd2_at hF
    refine scalli (X' := WS cI cZ cS a u14) (vx_runSW (As := [.ref a.1, .int (0 : Int32), .int (5 : Int32), .int q11, .int (0 : Int32)]) (rest := []) S (KT_weight l hfl D cI cZ cS cJ a u8 (5 : Int32) q11 (0 : Int32) q13 u14 h15) (vx_cwSW 5 hts (gd_SW wd_448 wd_449 wd_21 cwL_call) rfl rfl rfl hdL_call ⟨Nat.le_of_ble_eq_true rfl, Nat.le_of_ble_eq_true rfl⟩) (wPreS hK hX hZ hY hS hP hD) rfl rfl hl.1 rfl (lv_room (Nat.le_of_ble_eq_true rfl)) dL_refusesOne_45 ⟨(Nat.le_of_ble_eq_true rfl), (Nat.le_of_ble_eq_true rfl)⟩) hS hD (fun H locs hP hS => ?_)
    have hD : va_D A0 (WS cI cZ cS a u14) := WS_D u14 hD
    have hP : va_P D vwCl (WS cI cZ cS a u14) H := hP
    refine lv_bipush (v := (-12 : Int32)) hx hb dL_refusesOne_48 (by decide) ?_
    refine lv_icmp_ne (tgt := 382) hx hb dL_refusesOne_50 (by decide) (fun c16 => ?_) (fun c16 => ?_)
    · have hF := ite_f c16 hF
      refine lv_iconst (v := (0 : Int32)) hx hb dL_refusesOne_382 (by decide) ?_
      cases hF
      exact vretz (Nat.le_of_ble_eq_true rfl) (Nat.le_of_ble_eq_true rfl) (by decide) hx hb hr hlocks hP hS dL_refusesOne_383
    · have hF := ite_t c16 hF
      refine lv_aload_n hx hb dL_refusesOne_53 rfl (lv_at hl 2 rfl) ?_
      refine lv_iconst (v := (1 : Int32)) hx hb dL_refusesOne_54 (by decide) ?_
      refine lv_iload_n hx hb dL_refusesOne_55 rfl (lv_at hl 3 rfl) ?_
      refine lv_bipush (v := (7 : Int32)) hx hb dL_refusesOne_56 (by decide) ?_
      refine lv_bipush (v := (26 : Int32)) hx hb dL_refusesOne_58 (by decide) ?_
      obtain ⟨q17, h18, hF⟩ := bd1_at hF
      refine rcall (va_runS (As := [.int x1, .int (7 : Int32), .int (26 : Int32)]) (rest := [.int (1 : Int32), .ref a.1]) S (KL_far l D cI cZ cS cJ x1 (7 : Int32) (26 : Int32) q17 h18) (va_cwS 3 hts (gd_S wd_711 wd_712 wd_21 wd_713) rfl rfl rfl hdnL_far ⟨Nat.le_of_ble_eq_true rfl, Nat.le_of_ble_eq_true rfl⟩) (rPreS hK (hP.sub (ws' := ([] : va_W)) [] rfl)) rfl rfl hl.1 rfl (lv_room (Nat.le_of_ble_eq_true rfl)) dL_refusesOne_60 ⟨(Nat.le_of_ble_eq_true rfl), (Nat.le_of_ble_eq_true rfl)⟩) ?_
      refine lv_iconst (v := (0 : Int32)) hx hb dL_refusesOne_63 (by decide) ?_
      refine lv_iconst (v := (0 : Int32)) hx hb dL_refusesOne_64 (by decide) ?_
      obtain ⟨q19, u20, h21, hF⟩ := bd2_at hF
      refine scalli (X' := WS cI cZ cS a u20) (vx_runSW (As := [.ref a.1, .int (1 : Int32), .int q17, .int (0 : Int32), .int (0 : Int32)]) (rest := []) S (KT_modulus l hfl D cI cZ cS cJ a u14 q17 (0 : Int32) (0 : Int32) q19 u20 h21) (vx_cwSW 5 hts (gd_SW wd_448 wd_449 wd_21 cwL_call) rfl rfl rfl hdL_call ⟨Nat.le_of_ble_eq_true rfl, Nat.le_of_ble_eq_true rfl⟩) (wPreS hK hX hZ hY hS hP hD) rfl rfl hl.1 rfl (lv_room (Nat.le_of_ble_eq_true rfl)) dL_refusesOne_65 ⟨(Nat.le_of_ble_eq_true rfl), (Nat.le_of_ble_eq_true rfl)⟩) hS hD (fun H locs hP hS => ?_)
      have hD : va_D A0 (WS cI cZ cS a u20) := WS_D u20 hD
      have hP : va_P D vwCl (WS cI cZ cS a u20) H := hP
      refine lv_bipush (v := (-12 : Int32)) hx hb dL_refusesOne_68 (by decide) ?_
      refine lv_icmp_ne (tgt := 382) hx hb dL_refusesOne_70 (by decide) (fun c22 => ?_) (fun c22 => ?_)
      · have hF := ite_f c22 hF
        refine lv_iconst (v := (0 : Int32)) hx hb dL_refusesOne_382 (by decide) ?_
        cases hF
        exact vretz (Nat.le_of_ble_eq_true rfl) (Nat.le_of_ble_eq_true rfl) (by decide) hx hb hr hlocks hP hS dL_refusesOne_383
      · have hF := ite_t c22 hF
        refine lv_aload_n hx hb dL_refusesOne_73 rfl (lv_at hl 2 rfl) ?_
        refine lv_iconst (v := (2 : Int32)) hx hb dL_refusesOne_74 (by decide) ?_
        refine lv_iload_n hx hb dL_refusesOne_75 rfl (lv_at hl 1 rfl) ?_
        refine lv_iconst (v := (0 : Int32)) hx hb dL_refusesOne_76 (by decide) ?_
        refine lv_iconst (v := (0 : Int32)) hx hb dL_refusesOne_77 (by decide) ?_
        obtain ⟨q23, u24, h25, hF⟩ := bd2_at hF
        refine scalli (X' := WS cI cZ cS a u24) (vx_runSW (As := [.ref a.1, .int (2 : Int32), .int q1, .int (0 : Int32), .int (0 : Int32)]) (rest := []) S (KT_book l hfl D cI cZ cS cJ a u20 q1 (0 : Int32) (0 : Int32) q23 u24 h25) (vx_cwSW 5 hts (gd_SW wd_448 wd_449 wd_21 cwL_call) rfl rfl rfl hdL_call ⟨Nat.le_of_ble_eq_true rfl, Nat.le_of_ble_eq_true rfl⟩) (wPreS hK hX hZ hY hS hP hD) rfl rfl hl.1 rfl (lv_room (Nat.le_of_ble_eq_true rfl)) dL_refusesOne_78 ⟨(Nat.le_of_ble_eq_true rfl), (Nat.le_of_ble_eq_true rfl)⟩) hS hD (fun H locs hP hS => ?_)
        have hD : va_D A0 (WS cI cZ cS a u24) := WS_D u24 hD
        have hP : va_P D vwCl (WS cI cZ cS a u24) H := hP
        refine lv_bipush (v := (-11 : Int32)) hx hb dL_refusesOne_81 (by decide) ?_
        refine lv_icmp_ne (tgt := 382) hx hb dL_refusesOne_83 (by decide) (fun c26 => ?_) (fun c26 => ?_)
        · have hF := ite_f c26 hF
          refine lv_iconst (v := (0 : Int32)) hx hb dL_refusesOne_382 (by decide) ?_
          cases hF
          exact vretz (Nat.le_of_ble_eq_true rfl) (Nat.le_of_ble_eq_true rfl) (by decide) hx hb hr hlocks hP hS dL_refusesOne_383
        · have hF := ite_t c26 hF
          refine lv_aload_n hx hb dL_refusesOne_86 rfl (lv_at hl 2 rfl) ?_
          refine lv_iconst (v := (2 : Int32)) hx hb dL_refusesOne_87 (by decide) ?_
          refine lv_ldc hx hb hown (hts _ wd_710) dL_refusesOne_88 ?_
          refine lv_iload_n hx hb dL_refusesOne_90 rfl (lv_at hl 3 rfl) ?_
          refine lv_iconst (v := (1 : Int32)) hx hb dL_refusesOne_91 (by decide) ?_
          refine lv_bipush (v := (40 : Int32)) hx hb dL_refusesOne_92 (by decide) ?_
          obtain ⟨q27, h28, hF⟩ := bd1_at hF
          refine rcall (va_runS (As := [.int x1, .int (1 : Int32), .int (40 : Int32)]) (rest := [.int (999999 : Int32), .int (2 : Int32), .ref a.1]) S (KL_far l D cI cZ cS cJ x1 (1 : Int32) (40 : Int32) q27 h28) (va_cwS 3 hts (gd_S wd_711 wd_712 wd_21 wd_713) rfl rfl rfl hdnL_far ⟨Nat.le_of_ble_eq_true rfl, Nat.le_of_ble_eq_true rfl⟩) (rPreS hK (hP.sub (ws' := ([] : va_W)) [] rfl)) rfl rfl hl.1 rfl (lv_room (Nat.le_of_ble_eq_true rfl)) dL_refusesOne_94 ⟨(Nat.le_of_ble_eq_true rfl), (Nat.le_of_ble_eq_true rfl)⟩) ?_
          refine lv_iconst (v := (0 : Int32)) hx hb dL_refusesOne_97 (by decide) ?_
          obtain ⟨q29, u30, h31, hF⟩ := bd2_at hF
          refine scalli (X' := WS cI cZ cS a u30) (vx_runSW (As := [.ref a.1, .int (2 : Int32), .int (999999 : Int32), .int q27, .int (0 : Int32)]) (rest := []) S (KT_book l hfl D cI cZ cS cJ a u24 (999999 : Int32) q27 (0 : Int32) q29 u30 h31) (vx_cwSW 5 hts (gd_SW wd_448 wd_449 wd_21 cwL_call) rfl rfl rfl hdL_call ⟨Nat.le_of_ble_eq_true rfl, Nat.le_of_ble_eq_true rfl⟩) (wPreS hK hX hZ hY hS hP hD) rfl rfl hl.1 rfl (lv_room (Nat.le_of_ble_eq_true rfl)) dL_refusesOne_98 ⟨(Nat.le_of_ble_eq_true rfl), (Nat.le_of_ble_eq_true rfl)⟩) hS hD (fun H locs hP hS => ?_)
          have hD : va_D A0 (WS cI cZ cS a u30) := WS_D u30 hD
          have hP : va_P D vwCl (WS cI cZ cS a u30) H := hP
          refine lv_bipush (v := (-12 : Int32)) hx hb dL_refusesOne_101 (by decide) ?_
          refine lv_icmp_ne (tgt := 382) hx hb dL_refusesOne_103 (by decide) (fun c32 => ?_) (fun c32 => ?_)
          · have hF := ite_f c32 hF
            refine lv_iconst (v := (0 : Int32)) hx hb dL_refusesOne_382 (by decide) ?_
            cases hF
            exact vretz (Nat.le_of_ble_eq_true rfl) (Nat.le_of_ble_eq_true rfl) (by decide) hx hb hr hlocks hP hS dL_refusesOne_383
          · have hF := ite_t c32 hF
            refine lv_aload_n hx hb dL_refusesOne_106 rfl (lv_at hl 2 rfl) ?_
            refine lv_iconst (v := (2 : Int32)) hx hb dL_refusesOne_107 (by decide) ?_
            refine lv_ldc hx hb hown (hts _ wd_710) dL_refusesOne_108 ?_
            refine lv_iload_n hx hb dL_refusesOne_110 rfl (lv_at hl 3 rfl) ?_
            refine lv_isub hx hb dL_refusesOne_111 ?_
            refine lv_iconst (v := (2 : Int32)) hx hb dL_refusesOne_112 (by decide) ?_
            refine lv_iload_n hx hb dL_refusesOne_113 rfl (lv_at hl 3 rfl) ?_
            refine lv_iadd hx hb dL_refusesOne_114 ?_
            refine lv_iconst (v := (0 : Int32)) hx hb dL_refusesOne_115 (by decide) ?_
            obtain ⟨q33, u34, h35, hF⟩ := bd2_at hF
            refine scalli (X' := WS cI cZ cS a u34) (vx_runSW (As := [.ref a.1, .int (2 : Int32), .int ((999999 : Int32) - x1), .int ((2 : Int32) + x1), .int (0 : Int32)]) (rest := []) S (KT_book l hfl D cI cZ cS cJ a u30 ((999999 : Int32) - x1) ((2 : Int32) + x1) (0 : Int32) q33 u34 h35) (vx_cwSW 5 hts (gd_SW wd_448 wd_449 wd_21 cwL_call) rfl rfl rfl hdL_call ⟨Nat.le_of_ble_eq_true rfl, Nat.le_of_ble_eq_true rfl⟩) (wPreS hK hX hZ hY hS hP hD) rfl rfl hl.1 rfl (lv_room (Nat.le_of_ble_eq_true rfl)) dL_refusesOne_116 ⟨(Nat.le_of_ble_eq_true rfl), (Nat.le_of_ble_eq_true rfl)⟩) hS hD (fun H locs hP hS => ?_)
            have hD : va_D A0 (WS cI cZ cS a u34) := WS_D u34 hD
            have hP : va_P D vwCl (WS cI cZ cS a u34) H := hP
            refine lv_bipush (v := (-11 : Int32)) hx hb dL_refusesOne_119 (by decide) ?_
            refine lv_icmp_ne (tgt := 382) hx hb dL_refusesOne_121 (by decide) (fun c36 => ?_) (fun c36 => ?_)
            · have hF := ite_f c36 hF
              refine lv_iconst (v := (0 : Int32)) hx hb dL_refusesOne_382 (by decide) ?_
              cases hF
              exact vretz (Nat.le_of_ble_eq_true rfl) (Nat.le_of_ble_eq_true rfl) (by decide) hx hb hr hlocks hP hS dL_refusesOne_383
            · have hF := ite_t c36 hF
              refine lv_aload_n hx hb dL_refusesOne_124 rfl (lv_at hl 2 rfl) ?_
              refine lv_iconst (v := (3 : Int32)) hx hb dL_refusesOne_125 (by decide) ?_
              refine lv_iload_n hx hb dL_refusesOne_126 rfl (lv_at hl 1 rfl) ?_
              refine lv_iconst (v := (0 : Int32)) hx hb dL_refusesOne_127 (by decide) ?_
              refine lv_iconst (v := (0 : Int32)) hx hb dL_refusesOne_128 (by decide) ?_
              obtain ⟨q37, u38, h39, hF⟩ := bd2_at hF
              refine scalli (X' := WS cI cZ cS a u38) (vx_runSW (As := [.ref a.1, .int (3 : Int32), .int q1, .int (0 : Int32), .int (0 : Int32)]) (rest := []) S (KT_write l hfl D cI cZ cS cJ a u34 q1 (0 : Int32) (0 : Int32) q37 u38 h39) (vx_cwSW 5 hts (gd_SW wd_448 wd_449 wd_21 cwL_call) rfl rfl rfl hdL_call ⟨Nat.le_of_ble_eq_true rfl, Nat.le_of_ble_eq_true rfl⟩) (wPreS hK hX hZ hY hS hP hD) rfl rfl hl.1 rfl (lv_room (Nat.le_of_ble_eq_true rfl)) dL_refusesOne_129 ⟨(Nat.le_of_ble_eq_true rfl), (Nat.le_of_ble_eq_true rfl)⟩) hS hD (fun H locs hP hS => ?_)
              have hD : va_D A0 (WS cI cZ cS a u38) := WS_D u38 hD
              have hP : va_P D vwCl (WS cI cZ cS a u38) H := hP
              refine lv_bipush (v := (-11 : Int32)) hx hb dL_refusesOne_132 (by decide) ?_
              refine lv_icmp_ne (tgt := 382) hx hb dL_refusesOne_134 (by decide) (fun c40 => ?_) (fun c40 => ?_)
              · have hF := ite_f c40 hF
                refine lv_iconst (v := (0 : Int32)) hx hb dL_refusesOne_382 (by decide) ?_
                cases hF
                exact vretz (Nat.le_of_ble_eq_true rfl) (Nat.le_of_ble_eq_true rfl) (by decide) hx hb hr hlocks hP hS dL_refusesOne_383
              · have hF := ite_t c40 hF
                refine lv_aload_n hx hb dL_refusesOne_137 rfl (lv_at hl 2 rfl) ?_
                refine lv_iconst (v := (4 : Int32)) hx hb dL_refusesOne_138 (by decide) ?_
                refine lv_iload_n hx hb dL_refusesOne_139 rfl (lv_at hl 1 rfl) ?_
                refine lv_bipush (v := (99 : Int32)) hx hb dL_refusesOne_140 (by decide) ?_
                refine lv_iconst (v := (0 : Int32)) hx hb dL_refusesOne_142 (by decide) ?_
                obtain ⟨q41, u42, h43, hF⟩ := bd2_at hF
                refine scalli (X' := WS cI cZ cS a u42) (vx_runSW (As := [.ref a.1, .int (4 : Int32), .int q1, .int (99 : Int32), .int (0 : Int32)]) (rest := []) S (KT_cash l hfl D cI cZ cS cJ a u38 q1 (99 : Int32) (0 : Int32) q41 u42 h43) (vx_cwSW 5 hts (gd_SW wd_448 wd_449 wd_21 cwL_call) rfl rfl rfl hdL_call ⟨Nat.le_of_ble_eq_true rfl, Nat.le_of_ble_eq_true rfl⟩) (wPreS hK hX hZ hY hS hP hD) rfl rfl hl.1 rfl (lv_room (Nat.le_of_ble_eq_true rfl)) dL_refusesOne_143 ⟨(Nat.le_of_ble_eq_true rfl), (Nat.le_of_ble_eq_true rfl)⟩) hS hD (fun H locs hP hS => ?_)
                have hD : va_D A0 (WS cI cZ cS a u42) := WS_D u42 hD
                have hP : va_P D vwCl (WS cI cZ cS a u42) H := hP
                refine lv_bipush (v := (-11 : Int32)) hx hb dL_refusesOne_146 (by decide) ?_
                refine lv_icmp_ne (tgt := 382) hx hb dL_refusesOne_148 (by decide) (fun c44 => ?_) (fun c44 => ?_)
                · have hF := ite_f c44 hF
                  refine lv_iconst (v := (0 : Int32)) hx hb dL_refusesOne_382 (by decide) ?_
                  cases hF
                  exact vretz (Nat.le_of_ble_eq_true rfl) (Nat.le_of_ble_eq_true rfl) (by decide) hx hb hr hlocks hP hS dL_refusesOne_383
                · have hF := ite_t c44 hF
                  refine lv_aload_n hx hb dL_refusesOne_151 rfl (lv_at hl 2 rfl) ?_
                  refine lv_iconst (v := (4 : Int32)) hx hb dL_refusesOne_152 (by decide) ?_
                  refine lv_iconst (v := (0 : Int32)) hx hb dL_refusesOne_153 (by decide) ?_
                  refine lv_iload_n hx hb dL_refusesOne_154 rfl (lv_at hl 0 rfl) ?_
                  refine lv_iconst (v := (0 : Int32)) hx hb dL_refusesOne_155 (by decide) ?_
                  obtain ⟨q45, u46, h47, hF⟩ := bd2_at hF
                  refine scalli (X' := WS cI cZ cS a u46) (vx_runSW (As := [.ref a.1, .int (4 : Int32), .int (0 : Int32), .int q3, .int (0 : Int32)]) (rest := []) S (KT_cash l hfl D cI cZ cS cJ a u42 (0 : Int32) q3 (0 : Int32) q45 u46 h47) (vx_cwSW 5 hts (gd_SW wd_448 wd_449 wd_21 cwL_call) rfl rfl rfl hdL_call ⟨Nat.le_of_ble_eq_true rfl, Nat.le_of_ble_eq_true rfl⟩) (wPreS hK hX hZ hY hS hP hD) rfl rfl hl.1 rfl (lv_room (Nat.le_of_ble_eq_true rfl)) dL_refusesOne_156 ⟨(Nat.le_of_ble_eq_true rfl), (Nat.le_of_ble_eq_true rfl)⟩) hS hD (fun H locs hP hS => ?_)
                  have hD : va_D A0 (WS cI cZ cS a u46) := WS_D u46 hD
                  have hP : va_P D vwCl (WS cI cZ cS a u46) H := hP
                  refine lv_bipush (v := (-12 : Int32)) hx hb dL_refusesOne_159 (by decide) ?_
                  refine lv_icmp_ne (tgt := 382) hx hb dL_refusesOne_161 (by decide) (fun c48 => ?_) (fun c48 => ?_)
                  · have hF := ite_f c48 hF
                    refine lv_iconst (v := (0 : Int32)) hx hb dL_refusesOne_382 (by decide) ?_
                    cases hF
                    exact vretz (Nat.le_of_ble_eq_true rfl) (Nat.le_of_ble_eq_true rfl) (by decide) hx hb hr hlocks hP hS dL_refusesOne_383
                  · have hF := ite_t c48 hF
                    refine lv_aload_n hx hb dL_refusesOne_164 rfl (lv_at hl 2 rfl) ?_
                    refine lv_iconst (v := (5 : Int32)) hx hb dL_refusesOne_165 (by decide) ?_
                    refine lv_iload_n hx hb dL_refusesOne_166 rfl (lv_at hl 1 rfl) ?_
                    refine lv_iconst (v := (0 : Int32)) hx hb dL_refusesOne_167 (by decide) ?_
                    refine lv_iconst (v := (0 : Int32)) hx hb dL_refusesOne_168 (by decide) ?_
                    obtain ⟨q49, u50, h51, hF⟩ := bd2_at hF
                    refine scalli (X' := WS cI cZ cS a u50) (vx_runSW (As := [.ref a.1, .int (5 : Int32), .int q1, .int (0 : Int32), .int (0 : Int32)]) (rest := []) S (KT_voidRun l hfl D cI cZ cS cJ a u46 q1 (0 : Int32) (0 : Int32) q49 u50 h51) (vx_cwSW 5 hts (gd_SW wd_448 wd_449 wd_21 cwL_call) rfl rfl rfl hdL_call ⟨Nat.le_of_ble_eq_true rfl, Nat.le_of_ble_eq_true rfl⟩) (wPreS hK hX hZ hY hS hP hD) rfl rfl hl.1 rfl (lv_room (Nat.le_of_ble_eq_true rfl)) dL_refusesOne_169 ⟨(Nat.le_of_ble_eq_true rfl), (Nat.le_of_ble_eq_true rfl)⟩) hS hD (fun H locs hP hS => ?_)
                    have hD : va_D A0 (WS cI cZ cS a u50) := WS_D u50 hD
                    have hP : va_P D vwCl (WS cI cZ cS a u50) H := hP
                    refine lv_bipush (v := (-11 : Int32)) hx hb dL_refusesOne_172 (by decide) ?_
                    refine lv_icmp_ne (tgt := 382) hx hb dL_refusesOne_174 (by decide) (fun c52 => ?_) (fun c52 => ?_)
                    · have hF := ite_f c52 hF
                      refine lv_iconst (v := (0 : Int32)) hx hb dL_refusesOne_382 (by decide) ?_
                      cases hF
                      exact vretz (Nat.le_of_ble_eq_true rfl) (Nat.le_of_ble_eq_true rfl) (by decide) hx hb hr hlocks hP hS dL_refusesOne_383
                    · have hF := ite_t c52 hF
                      refine lv_aload_n hx hb dL_refusesOne_177 rfl (lv_at hl 2 rfl) ?_
                      refine lv_iconst (v := (5 : Int32)) hx hb dL_refusesOne_178 (by decide) ?_
                      refine lv_ldc hx hb hown (hts _ wd_710) dL_refusesOne_179 ?_
                      refine lv_iload_n hx hb dL_refusesOne_181 rfl (lv_at hl 1 rfl) ?_
                      refine lv_iconst (v := (0 : Int32)) hx hb dL_refusesOne_182 (by decide) ?_
                      obtain ⟨q53, u54, h55, hF⟩ := bd2_at hF
                      refine scalli (X' := WS cI cZ cS a u54) (vx_runSW (As := [.ref a.1, .int (5 : Int32), .int (999999 : Int32), .int q1, .int (0 : Int32)]) (rest := []) S (KT_voidRun l hfl D cI cZ cS cJ a u50 (999999 : Int32) q1 (0 : Int32) q53 u54 h55) (vx_cwSW 5 hts (gd_SW wd_448 wd_449 wd_21 cwL_call) rfl rfl rfl hdL_call ⟨Nat.le_of_ble_eq_true rfl, Nat.le_of_ble_eq_true rfl⟩) (wPreS hK hX hZ hY hS hP hD) rfl rfl hl.1 rfl (lv_room (Nat.le_of_ble_eq_true rfl)) dL_refusesOne_183 ⟨(Nat.le_of_ble_eq_true rfl), (Nat.le_of_ble_eq_true rfl)⟩) hS hD (fun H locs hP hS => ?_)
                      have hD : va_D A0 (WS cI cZ cS a u54) := WS_D u54 hD
                      have hP : va_P D vwCl (WS cI cZ cS a u54) H := hP
                      refine lv_bipush (v := (-11 : Int32)) hx hb dL_refusesOne_186 (by decide) ?_
                      refine lv_icmp_ne (tgt := 382) hx hb dL_refusesOne_188 (by decide) (fun c56 => ?_) (fun c56 => ?_)
                      · have hF := ite_f c56 hF
                        refine lv_iconst (v := (0 : Int32)) hx hb dL_refusesOne_382 (by decide) ?_
                        cases hF
                        exact vretz (Nat.le_of_ble_eq_true rfl) (Nat.le_of_ble_eq_true rfl) (by decide) hx hb hr hlocks hP hS dL_refusesOne_383
                      · have hF := ite_t c56 hF
                        refine lv_aload_n hx hb dL_refusesOne_191 rfl (lv_at hl 2 rfl) ?_
                        refine lv_iconst (v := (5 : Int32)) hx hb dL_refusesOne_192 (by decide) ?_
                        refine lv_ldc hx hb hown (hts _ wd_710) dL_refusesOne_193 ?_
                        refine lv_ldc hx hb hown (hts _ wd_715) dL_refusesOne_195 ?_
                        refine lv_iload_n hx hb dL_refusesOne_197 rfl (lv_at hl 3 rfl) ?_
                        refine lv_isub hx hb dL_refusesOne_198 ?_
                        refine lv_iconst (v := (0 : Int32)) hx hb dL_refusesOne_199 (by decide) ?_
                        obtain ⟨q57, u58, h59, hF⟩ := bd2_at hF
                        refine scalli (X' := WS cI cZ cS a u58) (vx_runSW (As := [.ref a.1, .int (5 : Int32), .int (999999 : Int32), .int ((999998 : Int32) - x1), .int (0 : Int32)]) (rest := []) S (KT_voidRun l hfl D cI cZ cS cJ a u54 (999999 : Int32) ((999998 : Int32) - x1) (0 : Int32) q57 u58 h59) (vx_cwSW 5 hts (gd_SW wd_448 wd_449 wd_21 cwL_call) rfl rfl rfl hdL_call ⟨Nat.le_of_ble_eq_true rfl, Nat.le_of_ble_eq_true rfl⟩) (wPreS hK hX hZ hY hS hP hD) rfl rfl hl.1 rfl (lv_room (Nat.le_of_ble_eq_true rfl)) dL_refusesOne_200 ⟨(Nat.le_of_ble_eq_true rfl), (Nat.le_of_ble_eq_true rfl)⟩) hS hD (fun H locs hP hS => ?_)
                        have hD : va_D A0 (WS cI cZ cS a u58) := WS_D u58 hD
                        have hP : va_P D vwCl (WS cI cZ cS a u58) H := hP
                        refine lv_bipush (v := (-12 : Int32)) hx hb dL_refusesOne_203 (by decide) ?_
                        refine lv_icmp_ne (tgt := 382) hx hb dL_refusesOne_205 (by decide) (fun c60 => ?_) (fun c60 => ?_)
                        · have hF := ite_f c60 hF
                          refine lv_iconst (v := (0 : Int32)) hx hb dL_refusesOne_382 (by decide) ?_
                          cases hF
                          exact vretz (Nat.le_of_ble_eq_true rfl) (Nat.le_of_ble_eq_true rfl) (by decide) hx hb hr hlocks hP hS dL_refusesOne_383
                        · have hF := ite_t c60 hF
                          refine lv_aload_n hx hb dL_refusesOne_208 rfl (lv_at hl 2 rfl) ?_
                          refine lv_bipush (v := (6 : Int32)) hx hb dL_refusesOne_209 (by decide) ?_
                          refine lv_iload_n hx hb dL_refusesOne_211 rfl (lv_at hl 3 rfl) ?_
                          refine lv_bipush (v := (33 : Int32)) hx hb dL_refusesOne_212 (by decide) ?_
                          refine lv_bipush (v := (126 : Int32)) hx hb dL_refusesOne_214 (by decide) ?_
                          obtain ⟨q61, h62, hF⟩ := bd1_at hF
                          refine rcall (va_runS (As := [.int x1, .int (33 : Int32), .int (126 : Int32)]) (rest := [.int (6 : Int32), .ref a.1]) S (KL_far l D cI cZ cS cJ x1 (33 : Int32) (126 : Int32) q61 h62) (va_cwS 3 hts (gd_S wd_711 wd_712 wd_21 wd_713) rfl rfl rfl hdnL_far ⟨Nat.le_of_ble_eq_true rfl, Nat.le_of_ble_eq_true rfl⟩) (rPreS hK (hP.sub (ws' := ([] : va_W)) [] rfl)) rfl rfl hl.1 rfl (lv_room (Nat.le_of_ble_eq_true rfl)) dL_refusesOne_216 ⟨(Nat.le_of_ble_eq_true rfl), (Nat.le_of_ble_eq_true rfl)⟩) ?_
                          refine lv_iconst (v := (0 : Int32)) hx hb dL_refusesOne_219 (by decide) ?_
                          refine lv_iconst (v := (0 : Int32)) hx hb dL_refusesOne_220 (by decide) ?_
                          obtain ⟨q63, u64, h65, hF⟩ := bd2_at hF
                          refine scalli (X' := WS cI cZ cS a u64) (vx_runSW (As := [.ref a.1, .int (6 : Int32), .int q61, .int (0 : Int32), .int (0 : Int32)]) (rest := []) S (KT_append l hfl D cI cZ cS cJ a u58 q61 (0 : Int32) (0 : Int32) q63 u64 h65) (vx_cwSW 5 hts (gd_SW wd_448 wd_449 wd_21 cwL_call) rfl rfl rfl hdL_call ⟨Nat.le_of_ble_eq_true rfl, Nat.le_of_ble_eq_true rfl⟩) (wPreS hK hX hZ hY hS hP hD) rfl rfl hl.1 rfl (lv_room (Nat.le_of_ble_eq_true rfl)) dL_refusesOne_221 ⟨(Nat.le_of_ble_eq_true rfl), (Nat.le_of_ble_eq_true rfl)⟩) hS hD (fun H locs hP hS => ?_)
                          have hD : va_D A0 (WS cI cZ cS a u64) := WS_D u64 hD
                          have hP : va_P D vwCl (WS cI cZ cS a u64) H := hP
                          refine lv_bipush (v := (-12 : Int32)) hx hb dL_refusesOne_224 (by decide) ?_
                          refine lv_icmp_ne (tgt := 382) hx hb dL_refusesOne_226 (by decide) (fun c66 => ?_) (fun c66 => ?_)
                          · have hF := ite_f c66 hF
                            refine lv_iconst (v := (0 : Int32)) hx hb dL_refusesOne_382 (by decide) ?_
                            cases hF
                            exact vretz (Nat.le_of_ble_eq_true rfl) (Nat.le_of_ble_eq_true rfl) (by decide) hx hb hr hlocks hP hS dL_refusesOne_383
                          · have hF := ite_t c66 hF
                            refine lv_aload_n hx hb dL_refusesOne_229 rfl (lv_at hl 2 rfl) ?_
                            refine lv_bipush (v := (7 : Int32)) hx hb dL_refusesOne_230 (by decide) ?_
                            refine lv_iconst (v := (0 : Int32)) hx hb dL_refusesOne_232 (by decide) ?_
                            refine lv_iconst (v := (0 : Int32)) hx hb dL_refusesOne_233 (by decide) ?_
                            refine lv_iconst (v := (0 : Int32)) hx hb dL_refusesOne_234 (by decide) ?_
                            obtain ⟨q67, u68, h69, hF⟩ := bd2_at hF
                            refine scalli (X' := WS cI cZ cS a u68) (vx_runSW (As := [.ref a.1, .int (7 : Int32), .int (0 : Int32), .int (0 : Int32), .int (0 : Int32)]) (rest := []) S (KT_execute l hfl D cI cZ cS cJ a u64 (0 : Int32) (0 : Int32) (0 : Int32) q67 u68 h69) (vx_cwSW 5 hts (gd_SW wd_448 wd_449 wd_21 cwL_call) rfl rfl rfl hdL_call ⟨Nat.le_of_ble_eq_true rfl, Nat.le_of_ble_eq_true rfl⟩) (wPreS hK hX hZ hY hS hP hD) rfl rfl hl.1 rfl (lv_room (Nat.le_of_ble_eq_true rfl)) dL_refusesOne_235 ⟨(Nat.le_of_ble_eq_true rfl), (Nat.le_of_ble_eq_true rfl)⟩) hS hD (fun H locs hP hS => ?_)
                            have hD : va_D A0 (WS cI cZ cS a u68) := WS_D u68 hD
                            have hP : va_P D vwCl (WS cI cZ cS a u68) H := hP
                            refine lv_bipush (v := (-12 : Int32)) hx hb dL_refusesOne_238 (by decide) ?_
                            refine lv_icmp_ne (tgt := 382) hx hb dL_refusesOne_240 (by decide) (fun c70 => ?_) (fun c70 => ?_)
                            · have hF := ite_f c70 hF
                              refine lv_iconst (v := (0 : Int32)) hx hb dL_refusesOne_382 (by decide) ?_
                              cases hF
                              exact vretz (Nat.le_of_ble_eq_true rfl) (Nat.le_of_ble_eq_true rfl) (by decide) hx hb hr hlocks hP hS dL_refusesOne_383
                            · have hF := ite_t c70 hF
                              refine lv_aload_n hx hb dL_refusesOne_243 rfl (lv_at hl 2 rfl) ?_
                              refine lv_bipush (v := (9 : Int32)) hx hb dL_refusesOne_244 (by decide) ?_
                              refine lv_iload_n hx hb dL_refusesOne_246 rfl (lv_at hl 3 rfl) ?_
                              refine lv_iconst (v := (0 : Int32)) hx hb dL_refusesOne_247 (by decide) ?_
                              refine lv_iconst (v := (1 : Int32)) hx hb dL_refusesOne_248 (by decide) ?_
                              obtain ⟨q71, h72, hF⟩ := bd1_at hF
                              refine rcall (va_runS (As := [.int x1, .int (0 : Int32), .int (1 : Int32)]) (rest := [.int (9 : Int32), .ref a.1]) S (KL_far l D cI cZ cS cJ x1 (0 : Int32) (1 : Int32) q71 h72) (va_cwS 3 hts (gd_S wd_711 wd_712 wd_21 wd_713) rfl rfl rfl hdnL_far ⟨Nat.le_of_ble_eq_true rfl, Nat.le_of_ble_eq_true rfl⟩) (rPreS hK (hP.sub (ws' := ([] : va_W)) [] rfl)) rfl rfl hl.1 rfl (lv_room (Nat.le_of_ble_eq_true rfl)) dL_refusesOne_249 ⟨(Nat.le_of_ble_eq_true rfl), (Nat.le_of_ble_eq_true rfl)⟩) ?_
                              refine lv_iconst (v := (0 : Int32)) hx hb dL_refusesOne_252 (by decide) ?_
                              refine lv_iconst (v := (0 : Int32)) hx hb dL_refusesOne_253 (by decide) ?_
                              obtain ⟨q73, u74, h75, hF⟩ := bd2_at hF
                              refine scalli (X' := WS cI cZ cS a u74) (vx_runSW (As := [.ref a.1, .int (9 : Int32), .int q71, .int (0 : Int32), .int (0 : Int32)]) (rest := []) S (KT_keep l hfl D cI cZ cS cJ a u68 q71 (0 : Int32) (0 : Int32) q73 u74 h75) (vx_cwSW 5 hts (gd_SW wd_448 wd_449 wd_21 cwL_call) rfl rfl rfl hdL_call ⟨Nat.le_of_ble_eq_true rfl, Nat.le_of_ble_eq_true rfl⟩) (wPreS hK hX hZ hY hS hP hD) rfl rfl hl.1 rfl (lv_room (Nat.le_of_ble_eq_true rfl)) dL_refusesOne_254 ⟨(Nat.le_of_ble_eq_true rfl), (Nat.le_of_ble_eq_true rfl)⟩) hS hD (fun H locs hP hS => ?_)
                              have hD : va_D A0 (WS cI cZ cS a u74) := WS_D u74 hD
                              have hP : va_P D vwCl (WS cI cZ cS a u74) H := hP
                              refine lv_bipush (v := (-12 : Int32)) hx hb dL_refusesOne_257 (by decide) ?_
                              refine lv_icmp_ne (tgt := 382) hx hb dL_refusesOne_259 (by decide) (fun c76 => ?_) (fun c76 => ?_)
                              · have hF := ite_f c76 hF
                                refine lv_iconst (v := (0 : Int32)) hx hb dL_refusesOne_382 (by decide) ?_
                                cases hF
                                exact vretz (Nat.le_of_ble_eq_true rfl) (Nat.le_of_ble_eq_true rfl) (by decide) hx hb hr hlocks hP hS dL_refusesOne_383
                              · have hF := ite_t c76 hF
                                refine lv_aload_n hx hb dL_refusesOne_262 rfl (lv_at hl 2 rfl) ?_
                                refine lv_bipush (v := (10 : Int32)) hx hb dL_refusesOne_263 (by decide) ?_
                                refine lv_iload_n hx hb dL_refusesOne_265 rfl (lv_at hl 3 rfl) ?_
                                refine lv_iconst (v := (0 : Int32)) hx hb dL_refusesOne_266 (by decide) ?_
                                refine lv_iconst (v := (1 : Int32)) hx hb dL_refusesOne_267 (by decide) ?_
                                obtain ⟨q77, h78, hF⟩ := bd1_at hF
                                refine rcall (va_runS (As := [.int x1, .int (0 : Int32), .int (1 : Int32)]) (rest := [.int (10 : Int32), .ref a.1]) S (KL_far l D cI cZ cS cJ x1 (0 : Int32) (1 : Int32) q77 h78) (va_cwS 3 hts (gd_S wd_711 wd_712 wd_21 wd_713) rfl rfl rfl hdnL_far ⟨Nat.le_of_ble_eq_true rfl, Nat.le_of_ble_eq_true rfl⟩) (rPreS hK (hP.sub (ws' := ([] : va_W)) [] rfl)) rfl rfl hl.1 rfl (lv_room (Nat.le_of_ble_eq_true rfl)) dL_refusesOne_268 ⟨(Nat.le_of_ble_eq_true rfl), (Nat.le_of_ble_eq_true rfl)⟩) ?_
                                refine lv_iconst (v := (0 : Int32)) hx hb dL_refusesOne_271 (by decide) ?_
                                refine lv_iconst (v := (0 : Int32)) hx hb dL_refusesOne_272 (by decide) ?_
                                obtain ⟨q79, u80, h81, hF⟩ := bd2_at hF
                                refine scalli (X' := WS cI cZ cS a u80) (vx_runSW (As := [.ref a.1, .int (10 : Int32), .int q77, .int (0 : Int32), .int (0 : Int32)]) (rest := []) S (KT_goBack l hfl D cI cZ cS cJ a u74 q77 (0 : Int32) (0 : Int32) q79 u80 h81) (vx_cwSW 5 hts (gd_SW wd_448 wd_449 wd_21 cwL_call) rfl rfl rfl hdL_call ⟨Nat.le_of_ble_eq_true rfl, Nat.le_of_ble_eq_true rfl⟩) (wPreS hK hX hZ hY hS hP hD) rfl rfl hl.1 rfl (lv_room (Nat.le_of_ble_eq_true rfl)) dL_refusesOne_273 ⟨(Nat.le_of_ble_eq_true rfl), (Nat.le_of_ble_eq_true rfl)⟩) hS hD (fun H locs hP hS => ?_)
                                have hD : va_D A0 (WS cI cZ cS a u80) := WS_D u80 hD
                                have hP : va_P D vwCl (WS cI cZ cS a u80) H := hP
                                refine lv_bipush (v := (-12 : Int32)) hx hb dL_refusesOne_276 (by decide) ?_
                                refine lv_icmp_ne (tgt := 382) hx hb dL_refusesOne_278 (by decide) (fun c82 => ?_) (fun c82 => ?_)
                                · have hF := ite_f c82 hF
                                  refine lv_iconst (v := (0 : Int32)) hx hb dL_refusesOne_382 (by decide) ?_
                                  cases hF
                                  exact vretz (Nat.le_of_ble_eq_true rfl) (Nat.le_of_ble_eq_true rfl) (by decide) hx hb hr hlocks hP hS dL_refusesOne_383
                                · have hF := ite_t c82 hF
                                  refine lv_aload_n hx hb dL_refusesOne_281 rfl (lv_at hl 2 rfl) ?_
                                  refine lv_bipush (v := (11 : Int32)) hx hb dL_refusesOne_282 (by decide) ?_
                                  refine lv_iload_n hx hb dL_refusesOne_284 rfl (lv_at hl 1 rfl) ?_
                                  refine lv_iconst (v := (0 : Int32)) hx hb dL_refusesOne_285 (by decide) ?_
                                  refine lv_iconst (v := (0 : Int32)) hx hb dL_refusesOne_286 (by decide) ?_
                                  obtain ⟨q83, h84, hF⟩ := bd1_at hF
                                  refine scalli (X' := WS cI cZ cS a u80) (vx_runSW (As := [.ref a.1, .int (11 : Int32), .int q1, .int (0 : Int32), .int (0 : Int32)]) (rest := []) S (KT_letter l hfl D cI cZ cS cJ a u80 q1 (0 : Int32) (0 : Int32) q83 h84) (vx_cwSW 5 hts (gd_SW wd_448 wd_449 wd_21 cwL_call) rfl rfl rfl hdL_call ⟨Nat.le_of_ble_eq_true rfl, Nat.le_of_ble_eq_true rfl⟩) (wPreS hK hX hZ hY hS hP hD) rfl rfl hl.1 rfl (lv_room (Nat.le_of_ble_eq_true rfl)) dL_refusesOne_287 ⟨(Nat.le_of_ble_eq_true rfl), (Nat.le_of_ble_eq_true rfl)⟩) hS hD (fun H locs hP hS => ?_)
                                  have hP : va_P D vwCl (WS cI cZ cS a u80) H := hP
                                  refine lv_bipush (v := (-11 : Int32)) hx hb dL_refusesOne_290 (by decide) ?_
                                  refine lv_icmp_ne (tgt := 382) hx hb dL_refusesOne_292 (by decide) (fun c85 => ?_) (fun c85 => ?_)
                                  · have hF := ite_f c85 hF
                                    refine lv_iconst (v := (0 : Int32)) hx hb dL_refusesOne_382 (by decide) ?_
                                    cases hF
                                    exact vretz (Nat.le_of_ble_eq_true rfl) (Nat.le_of_ble_eq_true rfl) (by decide) hx hb hr hlocks hP hS dL_refusesOne_383
                                  · have hF := ite_t c85 hF
                                    refine lv_aload_n hx hb dL_refusesOne_295 rfl (lv_at hl 2 rfl) ?_
                                    refine lv_bipush (v := (12 : Int32)) hx hb dL_refusesOne_296 (by decide) ?_
                                    refine lv_iload_n hx hb dL_refusesOne_298 rfl (lv_at hl 1 rfl) ?_
                                    refine lv_bipush (v := (9 : Int32)) hx hb dL_refusesOne_299 (by decide) ?_
                                    refine lv_iconst (v := (0 : Int32)) hx hb dL_refusesOne_301 (by decide) ?_
                                    obtain ⟨q86, h87, hF⟩ := bd1_at hF
                                    refine scalli (X' := WS cI cZ cS a u80) (vx_runSW (As := [.ref a.1, .int (12 : Int32), .int q1, .int (9 : Int32), .int (0 : Int32)]) (rest := []) S (KT_cheque l hfl D cI cZ cS cJ a u80 q1 (9 : Int32) (0 : Int32) q86 h87) (vx_cwSW 5 hts (gd_SW wd_448 wd_449 wd_21 cwL_call) rfl rfl rfl hdL_call ⟨Nat.le_of_ble_eq_true rfl, Nat.le_of_ble_eq_true rfl⟩) (wPreS hK hX hZ hY hS hP hD) rfl rfl hl.1 rfl (lv_room (Nat.le_of_ble_eq_true rfl)) dL_refusesOne_302 ⟨(Nat.le_of_ble_eq_true rfl), (Nat.le_of_ble_eq_true rfl)⟩) hS hD (fun H locs hP hS => ?_)
                                    have hP : va_P D vwCl (WS cI cZ cS a u80) H := hP
                                    refine lv_bipush (v := (-11 : Int32)) hx hb dL_refusesOne_305 (by decide) ?_
                                    refine lv_icmp_ne (tgt := 382) hx hb dL_refusesOne_307 (by decide) (fun c88 => ?_) (fun c88 => ?_)
                                    · have hF := ite_f c88 hF
                                      refine lv_iconst (v := (0 : Int32)) hx hb dL_refusesOne_382 (by decide) ?_
                                      cases hF
                                      exact vretz (Nat.le_of_ble_eq_true rfl) (Nat.le_of_ble_eq_true rfl) (by decide) hx hb hr hlocks hP hS dL_refusesOne_383
                                    · have hF := ite_t c88 hF
                                      refine lv_aload_n hx hb dL_refusesOne_310 rfl (lv_at hl 2 rfl) ?_
                                      refine lv_bipush (v := (13 : Int32)) hx hb dL_refusesOne_311 (by decide) ?_
                                      refine lv_iload_n hx hb dL_refusesOne_313 rfl (lv_at hl 3 rfl) ?_
                                      refine lv_iconst (v := (0 : Int32)) hx hb dL_refusesOne_314 (by decide) ?_
                                      refine lv_aload_n hx hb dL_refusesOne_315 rfl (lv_at hl 2 rfl) ?_
                                      refine lv_iconst (v := (0 : Int32)) hx hb dL_refusesOne_316 (by decide) ?_
                                      obtain ⟨k89, q90, h91, hF⟩ := bd2_at hF
                                      obtain ⟨g92, hF⟩ := gd_at hF
                                      rw [g92] at h91
                                      refine rcall (va_runV (As := [.int (0 : Int32)]) (rest := [.int (0 : Int32), .int x1, .int (13 : Int32), .ref a.1]) S (NS_count l D cI cZ cS cJ a u80 (0 : Int32) q90 h91) (cwV 1 hts (gd_V wd_413 wd_414 wd_415 wd_22 wd_416) rfl rfl rfl hd5_count ⟨Nat.le_of_ble_eq_true rfl, Nat.le_of_ble_eq_true rfl⟩) (rPreV hK hP (ci := 5) (q := (RX5, TX5, 3)) (WS_0 cI cZ cS a u80) rfl) rfl rfl hl.1 rfl (lv_room (Nat.le_of_ble_eq_true rfl)) dL_refusesOne_317 ⟨(Nat.le_of_ble_eq_true rfl), (Nat.le_of_ble_eq_true rfl)⟩) ?_
                                      refine lv_iconst (v := (1 : Int32)) hx hb dL_refusesOne_320 (by decide) ?_
                                      refine lv_isub hx hb dL_refusesOne_321 ?_
                                      obtain ⟨q93, h94, hF⟩ := bd1_at hF
                                      refine rcall (va_runS (As := [.int x1, .int (0 : Int32), .int (q90 - (1 : Int32))]) (rest := [.int (13 : Int32), .ref a.1]) S (KL_far l D cI cZ cS cJ x1 (0 : Int32) (q90 - (1 : Int32)) q93 h94) (va_cwS 3 hts (gd_S wd_711 wd_712 wd_21 wd_713) rfl rfl rfl hdnL_far ⟨Nat.le_of_ble_eq_true rfl, Nat.le_of_ble_eq_true rfl⟩) (rPreS hK (hP.sub (ws' := ([] : va_W)) [] rfl)) rfl rfl hl.1 rfl (lv_room (Nat.le_of_ble_eq_true rfl)) dL_refusesOne_322 ⟨(Nat.le_of_ble_eq_true rfl), (Nat.le_of_ble_eq_true rfl)⟩) ?_
                                      refine lv_bipush (v := (9 : Int32)) hx hb dL_refusesOne_325 (by decide) ?_
                                      refine lv_iconst (v := (0 : Int32)) hx hb dL_refusesOne_327 (by decide) ?_
                                      obtain ⟨q95, h96, hF⟩ := bd1_at hF
                                      refine scalli (X' := WS cI cZ cS a u80) (vx_runSW (As := [.ref a.1, .int (13 : Int32), .int q93, .int (9 : Int32), .int (0 : Int32)]) (rest := []) S (KT_bookOf l hfl D cI cZ cS cJ a u80 q93 (9 : Int32) (0 : Int32) q95 h96) (vx_cwSW 5 hts (gd_SW wd_448 wd_449 wd_21 cwL_call) rfl rfl rfl hdL_call ⟨Nat.le_of_ble_eq_true rfl, Nat.le_of_ble_eq_true rfl⟩) (wPreS hK hX hZ hY hS hP hD) rfl rfl hl.1 rfl (lv_room (Nat.le_of_ble_eq_true rfl)) dL_refusesOne_328 ⟨(Nat.le_of_ble_eq_true rfl), (Nat.le_of_ble_eq_true rfl)⟩) hS hD (fun H locs hP hS => ?_)
                                      have hP : va_P D vwCl (WS cI cZ cS a u80) H := hP
                                      refine lv_bipush (v := (-11 : Int32)) hx hb dL_refusesOne_331 (by decide) ?_
                                      refine lv_icmp_ne (tgt := 382) hx hb dL_refusesOne_333 (by decide) (fun c97 => ?_) (fun c97 => ?_)
                                      · have hF := ite_f c97 hF
                                        refine lv_iconst (v := (0 : Int32)) hx hb dL_refusesOne_382 (by decide) ?_
                                        cases hF
                                        exact vretz (Nat.le_of_ble_eq_true rfl) (Nat.le_of_ble_eq_true rfl) (by decide) hx hb hr hlocks hP hS dL_refusesOne_383
                                      · have hF := ite_t c97 hF
                                        refine lv_aload_n hx hb dL_refusesOne_336 rfl (lv_at hl 2 rfl) ?_
                                        refine lv_bipush (v := (14 : Int32)) hx hb dL_refusesOne_337 (by decide) ?_
                                        refine lv_iload_n hx hb dL_refusesOne_339 rfl (lv_at hl 3 rfl) ?_
                                        refine lv_iconst (v := (0 : Int32)) hx hb dL_refusesOne_340 (by decide) ?_
                                        refine lv_bipush (v := (17 : Int32)) hx hb dL_refusesOne_341 (by decide) ?_
                                        obtain ⟨q98, h99, hF⟩ := bd1_at hF
                                        refine rcall (va_runS (As := [.int x1, .int (0 : Int32), .int (17 : Int32)]) (rest := [.int (14 : Int32), .ref a.1]) S (KL_far l D cI cZ cS cJ x1 (0 : Int32) (17 : Int32) q98 h99) (va_cwS 3 hts (gd_S wd_711 wd_712 wd_21 wd_713) rfl rfl rfl hdnL_far ⟨Nat.le_of_ble_eq_true rfl, Nat.le_of_ble_eq_true rfl⟩) (rPreS hK (hP.sub (ws' := ([] : va_W)) [] rfl)) rfl rfl hl.1 rfl (lv_room (Nat.le_of_ble_eq_true rfl)) dL_refusesOne_343 ⟨(Nat.le_of_ble_eq_true rfl), (Nat.le_of_ble_eq_true rfl)⟩) ?_
                                        refine lv_iconst (v := (0 : Int32)) hx hb dL_refusesOne_346 (by decide) ?_
                                        refine lv_iconst (v := (0 : Int32)) hx hb dL_refusesOne_347 (by decide) ?_
                                        obtain ⟨q100, h101, hF⟩ := bd1_at hF
                                        refine scalli (X' := WS cI cZ cS a u80) (vx_runSW (As := [.ref a.1, .int (14 : Int32), .int q98, .int (0 : Int32), .int (0 : Int32)]) (rest := []) S (KT_count l hfl D cI cZ cS cJ a u80 q98 (0 : Int32) (0 : Int32) q100 h101) (vx_cwSW 5 hts (gd_SW wd_448 wd_449 wd_21 cwL_call) rfl rfl rfl hdL_call ⟨Nat.le_of_ble_eq_true rfl, Nat.le_of_ble_eq_true rfl⟩) (wPreS hK hX hZ hY hS hP hD) rfl rfl hl.1 rfl (lv_room (Nat.le_of_ble_eq_true rfl)) dL_refusesOne_348 ⟨(Nat.le_of_ble_eq_true rfl), (Nat.le_of_ble_eq_true rfl)⟩) hS hD (fun H locs hP hS => ?_)
                                        have hP : va_P D vwCl (WS cI cZ cS a u80) H := hP
                                        refine lv_bipush (v := (-12 : Int32)) hx hb dL_refusesOne_351 (by decide) ?_
                                        refine lv_icmp_ne (tgt := 382) hx hb dL_refusesOne_353 (by decide) (fun c102 => ?_) (fun c102 => ?_)
                                        · have hF := ite_f c102 hF
                                          refine lv_iconst (v := (0 : Int32)) hx hb dL_refusesOne_382 (by decide) ?_
                                          cases hF
                                          exact vretz (Nat.le_of_ble_eq_true rfl) (Nat.le_of_ble_eq_true rfl) (by decide) hx hb hr hlocks hP hS dL_refusesOne_383
                                        · have hF := ite_t c102 hF
                                          refine lv_aload_n hx hb dL_refusesOne_356 rfl (lv_at hl 2 rfl) ?_
                                          refine lv_bipush (v := (15 : Int32)) hx hb dL_refusesOne_357 (by decide) ?_
                                          refine lv_iload_n hx hb dL_refusesOne_359 rfl (lv_at hl 3 rfl) ?_
                                          refine lv_iconst (v := (2 : Int32)) hx hb dL_refusesOne_360 (by decide) ?_
                                          refine lv_icmp_ge (tgt := 370) hx hb dL_refusesOne_361 (by decide) (fun c103 => ?_) (fun c103 => ?_)
                                          · have hF := ite_t c103 hF
                                            refine lv_ldc hx hb hown (hts _ wd_714) dL_refusesOne_370 ?_
                                            exact W_372 u80 x1 q1 q3 (-2147483648 : Int32)  _ _ _ _ (by omega) (by omega) hP hD hS ls (lv_sub hl [2, 3, 1, 0] rfl) hF
                                          · have hF := ite_f c103 hF
                                            refine lv_iconst (v := (-1 : Int32)) hx hb dL_refusesOne_364 (by decide) ?_
                                            refine lv_iload_n hx hb dL_refusesOne_365 rfl (lv_at hl 3 rfl) ?_
                                            refine lv_isub hx hb dL_refusesOne_366 ?_
                                            refine lv_goto (tgt := 372) hx hb dL_refusesOne_367 (by decide) ?_
                                            exact W_372 u80 x1 q1 q3 ((-1 : Int32) - x1)  _ _ _ _ (by omega) (by omega) hP hD hS ls (lv_sub hl [2, 3, 1, 0] rfl) hF
abbrev rmL_refused : Room := { frames := 10, cells := 684, slots := 4104, locals := 211 }
theorem hdnL_refused : yL_refused.cls ≠ "java/lang/invoke/MethodHandle" ∧ yL_refused.cls ≠ "java/lang/invoke/VarHandle" ∧ (parseMethodDescriptor yL_refused.desc).map (fun d => d.parameters.length) = some 1 := by decide +kernel
set_option maxHeartbeats 8000000 in
set_option maxRecDepth 100000 in
theorem KL_refused (l : Launch) (hfl : l.stackTraces = false) (D : va_G) (cI cZ cS cJ : ClassId) (a : AD) (st : ST) (r : Int32) (z_st : ST) (hF : fL_refused st = some (r, z_st)) : Met l yL_refused wsL_refused rmL_refused (wP D (gT cI cZ cS cJ) (WS cI cZ cS a st) [.ref a.1]) (uQ D (some (.int r)) (uA (WS cI cZ cS a st)) (WS cI cZ cS a z_st)) 684 4104 (uA (WS cI cZ cS a st)) := by
  refine Met.ofW (cc := cL_refused) (maxL := 5) (ret := (some .boolean)) (by decide) rfl ?_
  intro p e s m args below meth c s₁ B hml hv
  obtain ⟨⟨ha, hK, hP, hD0, hX, hZ⟩, hY⟩ := hv
  have hx := B.exec
  have hb := B.bytes
  have hr := B.returns
  have hlocks := B.notSynchronized
  have hts : ∀ w ∈ lw_all, w.before args s = true := fun w h => atoms_spec (ws := wsL_refused) B.pre w (List.mem_cons_of_mem _ h)
  have hown : s.vm.findClass RL = some m.cls := findClass_of_methodNamed B.named
  have S : CallFix p m c cL_refused 5 s args lw_all RL := ⟨hx, hb, hml, hown, hts⟩
  have hD := hD0.own
  generalize uA (WS cI cZ cS a st) = A0 at hD hZ ⊢
  have hS : va_S A0 s.heap s.heap [] := va_S.rf
  have hl := lv_entry ([.ref a.1] : List Value) (n := 5) (Nat.le_of_ble_eq_true rfl)
  refine W.eq (g2 := F0 m 0 ((lg_sl ([.ref a.1] : List Value) ++ List.replicate (5 - (lg_sl ([.ref a.1] : List Value)).length) Slot.unset).toArray) []) (by rw [ha]; exact lg_entry_eq _ _ _) ?_
  generalize (lg_sl ([.ref a.1] : List Value) ++ List.replicate (5 - (lg_sl ([.ref a.1] : List Value)).length) Slot.unset).toArray = ls at hl ⊢
  have hl : lv_has ls 5 [(0, .ref a.1)] := hl
  have W_15 : ∀ (x1 : Int64) (x3 : Int32) (n : Nat) (x4 : Int32) (st : ST), ∀ (H : Heap) (locs : List Loc) (cl sl : Nat), cl + n * 114 + 114 ≤ 684 → sl + n * 684 + 684 ≤ 4104 → va_P D vwCl (WS cI cZ cS a st) H → va_D A0 (WS cI cZ cS a st) → va_S A0 s.heap H locs → ∀ (ls : Array Slot), lv_has ls 5 [(0, .ref a.1), (1, .long x1), (3, .int x3), (4, .int x4)] → fL_refused_l15 x1 x3 n x4 st = some (r, z_st) → vW p l e wsL_refused rmL_refused s m args below meth c D (some (.int r)) A0 (WS cI cZ cS a z_st) 684 4104 H locs cl sl (F0 m 15 ls []) := by
    intro x1 x3  n
    induction n with
    | zero =>
      intro x4 st H locs cl sl hc1 hc2 hP hD hS ls hl hF
      rw [fL_refused_l15] at hF
      cases hF
    | succ n ih =>
      intro x4 st H locs cl sl hc1 hc2 hP hD hS ls hl hF
      rw [fL_refused_l15] at hF
      refine lv_iload hx hb dL_refused_15 (lv_at hl 3 rfl) ?_
      refine lv_iconst (v := (4 : Int32)) hx hb dL_refused_17 (by decide) ?_
      refine lv_icmp_ge (tgt := 38) hx hb dL_refused_18 (by decide) (fun c7 => ?_) (fun c7 => ?_)
      · have hF := ite_t c7 hF
        refine lv_aload_n hx hb dL_refused_38 rfl (lv_at hl 0 rfl) ?_
        obtain ⟨q8, h9, hF⟩ := bd1_at hF
        refine rcall (va_runS (As := [.ref a.1]) (rest := []) S (KL_seen l D cI cZ cS cJ a st q8 h9) (va_cwS 1 hts (gd_S wd_697 wd_698 wd_21 wd_699) rfl rfl rfl hdnL_seen ⟨Nat.le_of_ble_eq_true rfl, Nat.le_of_ble_eq_true rfl⟩) (rPreS hK hP) rfl rfl hl.1 rfl (lv_room (Nat.le_of_ble_eq_true rfl)) dL_refused_39 ⟨(by show cl + 0 ≤ 684; omega), (by show sl + 0 ≤ 4104; omega)⟩) ?_
        refine lv_lload_n hx hb dL_refused_42 rfl (lv_at hl 1 rfl) ?_
        refine W.lcmp hx hb dL_refused_43 ?_
        refine lv_if_ne (tgt := 61) hx hb dL_refused_44 (by decide) (fun c10 => ?_) (fun c10 => ?_)
        · have hF := ite_f c10 hF
          refine lv_iconst (v := (0 : Int32)) hx hb dL_refused_61 (by decide) ?_
          cases hF
          exact vretz (by omega) (by omega) (by decide) hx hb hr hlocks hP hS dL_refused_62
        · have hF := ite_t c10 hF
          refine lv_aload_n hx hb dL_refused_47 rfl (lv_at hl 0 rfl) ?_
          refine lv_bipush (v := (10 : Int32)) hx hb dL_refused_48 (by decide) ?_
          obtain ⟨k11, q12, h13, hF⟩ := bd2_at hF
          obtain ⟨g14, hF⟩ := gd_at hF
          rw [g14] at h13
          refine rcall (va_runV (As := [.int (10 : Int32)]) (rest := []) S (NS_count l D cI cZ cS cJ a st (10 : Int32) q12 h13) (cwV 1 hts (gd_V wd_413 wd_414 wd_415 wd_22 wd_416) rfl rfl rfl hd5_count ⟨Nat.le_of_ble_eq_true rfl, Nat.le_of_ble_eq_true rfl⟩) (rPreV hK hP (ci := 5) (q := (RX5, TX5, 3)) (WS_0 cI cZ cS a st) rfl) rfl rfl hl.1 rfl (lv_room (Nat.le_of_ble_eq_true rfl)) dL_refused_50 ⟨(by show cl + 0 ≤ 684; omega), (by show sl + 0 ≤ 4104; omega)⟩) ?_
          refine lv_iload_n hx hb dL_refused_53 rfl (lv_at hl 2 rfl) ?_
          refine lv_icmp_ne (tgt := 61) hx hb dL_refused_54 (by decide) (fun c15 => ?_) (fun c15 => ?_)
          · have hF := ite_f c15 hF
            refine lv_iconst (v := (0 : Int32)) hx hb dL_refused_61 (by decide) ?_
            cases hF
            exact vretz (by omega) (by omega) (by decide) hx hb hr hlocks hP hS dL_refused_62
          · have hF := ite_t c15 hF
            refine lv_iconst (v := (1 : Int32)) hx hb dL_refused_57 (by decide) ?_
            refine lv_goto (tgt := 62) hx hb dL_refused_58 (by decide) ?_
            cases hF
            exact vretz (by omega) (by omega) (by decide) hx hb hr hlocks hP hS dL_refused_62
      · have hF := ite_f c7 hF
        refine lv_aload_n hx hb dL_refused_21 rfl (lv_at hl 0 rfl) ?_
        refine lv_iload hx hb dL_refused_22 (lv_at hl 3 rfl) ?_
        obtain ⟨q16, u18, h17, hF⟩ := bd2_at hF
        refine scalli (X' := WS cI cZ cS a u18) (va_runS (As := [.ref a.1, .int x4]) (rest := []) S (KL_refusesOne l hfl D cI cZ cS cJ a st x4 q16 u18 h17) (va_cwS 2 hts (gd_S wd_707 wd_708 wd_21 wd_709) rfl rfl rfl hdnL_refusesOne ⟨Nat.le_of_ble_eq_true rfl, Nat.le_of_ble_eq_true rfl⟩) (wPreS hK hX hZ hY hS hP hD) rfl rfl hl.1 rfl (lv_room (Nat.le_of_ble_eq_true rfl)) dL_refused_24 ⟨(by show cl + 114 ≤ 684; omega), (by show sl + 684 ≤ 4104; omega)⟩) hS hD (fun H locs hP hS => ?_)
        have hD : va_D A0 (WS cI cZ cS a u18) := WS_D u18 hD
        have hP : va_P D vwCl (WS cI cZ cS a u18) H := hP
        refine lv_if_ne (tgt := 32) hx hb dL_refused_27 (by decide) (fun c19 => ?_) (fun c19 => ?_)
        · have hF := ite_f c19 hF
          refine lv_iinc (v := (x4 + 1)) (lv' := [(4, .int (x4 + 1)), (0, .ref a.1), (1, .long x1), (3, .int x3)]) hx hb dL_refused_32 hl (k := 3) rfl rfl (by decide) rfl (fun ls hl => ?_)
          refine lv_goto (tgt := 15) hx hb dL_refused_35 (by decide) ?_
          exact ih (x4 + 1) u18 _ _ _ _ (by omega) (by omega) hP hD hS ls (lv_sub hl [1, 2, 3, 0] rfl) hF
        · have hF := ite_t c19 hF
          refine lv_iconst (v := (0 : Int32)) hx hb dL_refused_30 (by decide) ?_
          cases hF
          exact vretz (by omega) (by omega) (by decide) hx hb hr hlocks hP hS dL_refused_31
  rw [fL_refused] at hF
  show vW p l e wsL_refused rmL_refused s m args below meth c D (some (.int r)) A0 (WS cI cZ cS a z_st) 684 4104 s.heap [] 0 0 (F0 m 0 ls [])
  refine lv_aload_n hx hb dL_refused_0 rfl (lv_at hl 0 rfl) ?_
  obtain ⟨q1, h2, hF⟩ := bd1_at hF
  refine rcall (va_runS (As := [.ref a.1]) (rest := []) S (KL_seen l D cI cZ cS cJ a st q1 h2) (va_cwS 1 hts (gd_S wd_697 wd_698 wd_21 wd_699) rfl rfl rfl hdnL_seen ⟨Nat.le_of_ble_eq_true rfl, Nat.le_of_ble_eq_true rfl⟩) (rPreS hK hP) rfl rfl hl.1 rfl (lv_room (Nat.le_of_ble_eq_true rfl)) dL_refused_1 ⟨(Nat.le_of_ble_eq_true rfl), (Nat.le_of_ble_eq_true rfl)⟩) ?_
  refine lv_lstore_n (lv' := [(1, .long q1), (0, .ref a.1)]) hx hb dL_refused_4 rfl hl (by decide) rfl (fun ls hl => ?_)
  refine lv_aload_n hx hb dL_refused_5 rfl (lv_at hl 1 rfl) ?_
  refine lv_bipush (v := (10 : Int32)) hx hb dL_refused_6 (by decide) ?_
  obtain ⟨k3, q4, h5, hF⟩ := bd2_at hF
  obtain ⟨g6, hF⟩ := gd_at hF
  rw [g6] at h5
  refine rcall (va_runV (As := [.int (10 : Int32)]) (rest := []) S (NS_count l D cI cZ cS cJ a st (10 : Int32) q4 h5) (cwV 1 hts (gd_V wd_413 wd_414 wd_415 wd_22 wd_416) rfl rfl rfl hd5_count ⟨Nat.le_of_ble_eq_true rfl, Nat.le_of_ble_eq_true rfl⟩) (rPreV hK hP (ci := 5) (q := (RX5, TX5, 3)) (WS_0 cI cZ cS a st) rfl) rfl rfl hl.1 rfl (lv_room (Nat.le_of_ble_eq_true rfl)) dL_refused_8 ⟨(Nat.le_of_ble_eq_true rfl), (Nat.le_of_ble_eq_true rfl)⟩) ?_
  refine lv_istore_n (lv' := [(3, .int q4), (1, .long q1), (0, .ref a.1)]) hx hb dL_refused_11 rfl hl (by decide) rfl (fun ls hl => ?_)
  refine lv_iconst (v := (0 : Int32)) hx hb dL_refused_12 (by decide) ?_
  refine lv_istore (lv' := [(4, .int (0 : Int32)), (3, .int q4), (1, .long q1), (0, .ref a.1)]) hx hb dL_refused_13 hl (by decide) rfl (fun ls hl => ?_)
  exact W_15 q1 q4  5 (0 : Int32) st _ _ _ _ (by omega) (by omega) hP hD hS ls (lv_sub hl [3, 2, 1, 0] rfl) hF
abbrev rmL_types : Room := { frames := 2, cells := 0, slots := 0, locals := 42 }
theorem hdnL_types : yL_types.cls ≠ "java/lang/invoke/MethodHandle" ∧ yL_types.cls ≠ "java/lang/invoke/VarHandle" ∧ (parseMethodDescriptor yL_types.desc).map (fun d => d.parameters.length) = some 2 := by decide +kernel
set_option maxHeartbeats 8000000 in
set_option maxRecDepth 100000 in
theorem KL_types (l : Launch) (hfl : l.stackTraces = false) (D : va_G) (cI cZ cS cJ : ClassId) (a : AD) (st : ST) (x1 : Int64) (r : Int32) (z_st : ST) (hF : fL_types st x1 = some (r, z_st)) : Met l yL_types wsL_types rmL_types (wP D (gT cI cZ cS cJ) (WS cI cZ cS a st) [.ref a.1, .long x1]) (uQ D (some (.int r)) (uA (WS cI cZ cS a st)) (WS cI cZ cS a z_st)) 0 0 (uA (WS cI cZ cS a st)) := by
  refine Met.ofW (cc := cL_types) (maxL := 6) (ret := (some .boolean)) (by decide) rfl ?_
  intro p e s m args below meth c s₁ B hml hv
  obtain ⟨⟨ha, hK, hP, hD0, hX, hZ⟩, hY⟩ := hv
  have hx := B.exec
  have hb := B.bytes
  have hr := B.returns
  have hlocks := B.notSynchronized
  have hts : ∀ w ∈ lw_all, w.before args s = true := fun w h => atoms_spec (ws := wsL_types) B.pre w (List.mem_cons_of_mem _ h)
  have hown : s.vm.findClass RL = some m.cls := findClass_of_methodNamed B.named
  have S : CallFix p m c cL_types 6 s args lw_all RL := ⟨hx, hb, hml, hown, hts⟩
  have hD := hD0.own
  generalize uA (WS cI cZ cS a st) = A0 at hD hZ ⊢
  have hS : va_S A0 s.heap s.heap [] := va_S.rf
  have hl := lv_entry ([.ref a.1, .long x1] : List Value) (n := 6) (Nat.le_of_ble_eq_true rfl)
  refine W.eq (g2 := F0 m 0 ((lg_sl ([.ref a.1, .long x1] : List Value) ++ List.replicate (6 - (lg_sl ([.ref a.1, .long x1] : List Value)).length) Slot.unset).toArray) []) (by rw [ha]; exact lg_entry_eq _ _ _) ?_
  generalize (lg_sl ([.ref a.1, .long x1] : List Value) ++ List.replicate (6 - (lg_sl ([.ref a.1, .long x1] : List Value)).length) Slot.unset).toArray = ls at hl ⊢
  have hl : lv_has ls 6 [(0, .ref a.1), (1, .long x1)] := hl
  have W_40 : ∀ (st : ST) (x1 : Int64) (x4 : Int32) (k6 : Int32 → Int32 → ST → Option (Int32 × ST)) (n6 : Nat) (hk6 : ∀ (x3 : Int32) (x4 : Int32) (st : ST), ∀ (H : Heap) (locs : List Loc) (cl sl : Nat), cl + 0 ≤ 0 → sl + 0 ≤ 0 → va_P D vwCl (WS cI cZ cS a st) H → va_D A0 (WS cI cZ cS a st) → va_S A0 s.heap H locs → ∀ (ls : Array Slot), lv_has ls 6 [(0, .ref a.1), (1, .long x1), (3, .int x3), (4, .int x4)] → k6 x3 x4 st = some (r, z_st) → vW p l e wsL_types rmL_types s m args below meth c D (some (.int r)) A0 (WS cI cZ cS a z_st) 0 0 H locs cl sl (F0 m 6 ls [])), ∀ (H : Heap) (locs : List Loc) (cl sl : Nat), cl + 0 ≤ 0 → sl + 0 ≤ 0 → va_P D vwCl (WS cI cZ cS a st) H → va_D A0 (WS cI cZ cS a st) → va_S A0 s.heap H locs → ∀ (ls : Array Slot), lv_has ls 6 [(0, .ref a.1), (1, .long x1), (4, .int x4)] → fL_types_j40 k6 st x1 x4 = some (r, z_st) → vW p l e wsL_types rmL_types s m args below meth c D (some (.int r)) A0 (WS cI cZ cS a z_st) 0 0 H locs cl sl (F0 m 40 ls []) := by
    intro st x1 x4 k6 n6 hk6 H locs cl sl hc1 hc2 hP hD hS ls hl hF
    rw [fL_types_j40] at hF
    refine lv_iconst (v := (1 : Int32)) hx hb dL_types_40 (by decide) ?_
    refine lv_goto (tgt := 45) hx hb dL_types_41 (by decide) ?_
    refine lv_istore_n (lv' := [(3, .int (1 : Int32)), (0, .ref a.1), (1, .long x1), (4, .int x4)]) hx hb dL_types_45 rfl hl (by decide) rfl (fun ls hl => ?_)
    refine lv_iinc (v := (x4 + (-8))) (lv' := [(4, .int (x4 + (-8))), (3, .int (1 : Int32)), (0, .ref a.1), (1, .long x1)]) hx hb dL_types_46 hl (k := 3) rfl rfl (by decide) rfl (fun ls hl => ?_)
    refine lv_goto (tgt := 6) hx hb dL_types_49 (by decide) ?_
    exact hk6 (1 : Int32) (x4 + (-8)) st _ _ _ _ (by omega) (by omega) hP hD hS ls (lv_sub hl [2, 3, 1, 0] rfl) hF
  have W_44 : ∀ (st : ST) (x1 : Int64) (x4 : Int32) (k6 : Int32 → Int32 → ST → Option (Int32 × ST)) (n6 : Nat) (hk6 : ∀ (x3 : Int32) (x4 : Int32) (st : ST), ∀ (H : Heap) (locs : List Loc) (cl sl : Nat), cl + 0 ≤ 0 → sl + 0 ≤ 0 → va_P D vwCl (WS cI cZ cS a st) H → va_D A0 (WS cI cZ cS a st) → va_S A0 s.heap H locs → ∀ (ls : Array Slot), lv_has ls 6 [(0, .ref a.1), (1, .long x1), (3, .int x3), (4, .int x4)] → k6 x3 x4 st = some (r, z_st) → vW p l e wsL_types rmL_types s m args below meth c D (some (.int r)) A0 (WS cI cZ cS a z_st) 0 0 H locs cl sl (F0 m 6 ls [])), ∀ (H : Heap) (locs : List Loc) (cl sl : Nat), cl + 0 ≤ 0 → sl + 0 ≤ 0 → va_P D vwCl (WS cI cZ cS a st) H → va_D A0 (WS cI cZ cS a st) → va_S A0 s.heap H locs → ∀ (ls : Array Slot), lv_has ls 6 [(0, .ref a.1), (1, .long x1), (4, .int x4)] → fL_types_j44 k6 st x1 x4 = some (r, z_st) → vW p l e wsL_types rmL_types s m args below meth c D (some (.int r)) A0 (WS cI cZ cS a z_st) 0 0 H locs cl sl (F0 m 44 ls []) := by
    intro st x1 x4 k6 n6 hk6 H locs cl sl hc1 hc2 hP hD hS ls hl hF
    rw [fL_types_j44] at hF
    refine lv_iconst (v := (0 : Int32)) hx hb dL_types_44 (by decide) ?_
    refine lv_istore_n (lv' := [(3, .int (0 : Int32)), (0, .ref a.1), (1, .long x1), (4, .int x4)]) hx hb dL_types_45 rfl hl (by decide) rfl (fun ls hl => ?_)
    refine lv_iinc (v := (x4 + (-8))) (lv' := [(4, .int (x4 + (-8))), (3, .int (0 : Int32)), (0, .ref a.1), (1, .long x1)]) hx hb dL_types_46 hl (k := 3) rfl rfl (by decide) rfl (fun ls hl => ?_)
    refine lv_goto (tgt := 6) hx hb dL_types_49 (by decide) ?_
    exact hk6 (0 : Int32) (x4 + (-8)) st _ _ _ _ (by omega) (by omega) hP hD hS ls (lv_sub hl [2, 3, 1, 0] rfl) hF
  have W_6 : ∀ (x1 : Int64) (n : Nat) (x3 : Int32) (x4 : Int32) (st : ST), ∀ (H : Heap) (locs : List Loc) (cl sl : Nat), cl + 0 ≤ 0 → sl + 0 ≤ 0 → va_P D vwCl (WS cI cZ cS a st) H → va_D A0 (WS cI cZ cS a st) → va_S A0 s.heap H locs → ∀ (ls : Array Slot), lv_has ls 6 [(0, .ref a.1), (1, .long x1), (3, .int x3), (4, .int x4)] → fL_types_l6 x1 n x3 x4 st = some (r, z_st) → vW p l e wsL_types rmL_types s m args below meth c D (some (.int r)) A0 (WS cI cZ cS a z_st) 0 0 H locs cl sl (F0 m 6 ls []) := by
    intro x1  n
    induction n with
    | zero =>
      intro x3 x4 st H locs cl sl hc1 hc2 hP hD hS ls hl hF
      rw [fL_types_l6] at hF
      cases hF
    | succ n ih =>
      intro x3 x4 st H locs cl sl hc1 hc2 hP hD hS ls hl hF
      rw [fL_types_l6] at hF
      refine lv_iload hx hb dL_types_6 (lv_at hl 3 rfl) ?_
      refine lv_if_lt (tgt := 52) hx hb dL_types_8 (by decide) (fun c1 => ?_) (fun c1 => ?_)
      · have hF := ite_t c1 hF
        refine lv_iload_n hx hb dL_types_52 rfl (lv_at hl 2 rfl) ?_
        obtain ⟨hz, hF⟩ := gd_at hF
        cases hF
        exact vretz (by omega) (by omega) hz hx hb hr hlocks hP hS dL_types_53
      · have hF := ite_f c1 hF
        refine lv_lload_n hx hb dL_types_11 rfl (lv_at hl 1 rfl) ?_
        refine lv_iload hx hb dL_types_12 (lv_at hl 3 rfl) ?_
        refine lv_lshr hx hb dL_types_14 rfl ?_
        refine lv_ldc2 hx hb hown (hts _ wk_129) dL_types_15 ?_
        refine lv_land hx hb dL_types_18 ?_
        refine lv_l2i hx hb dL_types_19 rfl ?_
        refine lv_topi (fun t2 e3 => ?_)
        have hF := lt_at e3 hF
        refine lv_istore (lv' := [(5, .int t2), (0, .ref a.1), (1, .long x1), (3, .int x3), (4, .int x4)]) hx hb dL_types_20 hl (by decide) rfl (fun ls hl => ?_)
        refine lv_iload_n hx hb dL_types_22 rfl (lv_at hl 3 rfl) ?_
        refine lv_if_eq (tgt := 44) hx hb dL_types_23 (by decide) (fun c4 => ?_) (fun c4 => ?_)
        · have hF := ite_t c4 hF
          exact W_44 st x1 x4 (fL_types_l6 x1 n) n ih _ _ _ _ (by omega) (by omega) hP hD hS ls (lv_sub hl [1, 2, 4] rfl) hF
        · have hF := ite_f c4 hF
          refine lv_iload hx hb dL_types_26 (lv_at hl 0 rfl) ?_
          refine lv_if_eq (tgt := 40) hx hb dL_types_28 (by decide) (fun c5 => ?_) (fun c5 => ?_)
          · have hF := ite_t c5 hF
            exact W_40 st x1 x4 (fL_types_l6 x1 n) n ih _ _ _ _ (by omega) (by omega) hP hD hS ls (lv_sub hl [1, 2, 4] rfl) hF
          · have hF := ite_f c5 hF
            refine lv_aload_n hx hb dL_types_31 rfl (lv_at hl 1 rfl) ?_
            refine lv_iload hx hb dL_types_32 (lv_at hl 0 rfl) ?_
            obtain ⟨k6, q7, u8, h9, hF⟩ := bd3_at hF
            obtain ⟨g10, hF⟩ := gd_at hF
            rw [g10] at h9
            refine scalli (X' := WS cI cZ cS a u8) (va_runV (As := [.int t2]) (rest := []) S (NS_append l D cI cZ cS cJ a st t2 q7 u8 h9) (cwV 1 hts (gd_V wd_493 wd_494 wd_495 wd_22 wd_496) rfl rfl rfl hd5_append ⟨Nat.le_of_ble_eq_true rfl, Nat.le_of_ble_eq_true rfl⟩) (uPreV hK hP hD (ci := 5) (q := (RX5, TX5, 3)) (WS_0 cI cZ cS a st) rfl) rfl rfl hl.1 rfl (lv_room (Nat.le_of_ble_eq_true rfl)) dL_types_34 ⟨(by show cl + 0 ≤ 0; omega), (by show sl + 0 ≤ 0; omega)⟩) hS hD (fun H locs hP hS => ?_)
            have hD : va_D A0 (WS cI cZ cS a u8) := WS_D u8 hD
            have hP : va_P D vwCl (WS cI cZ cS a u8) H := hP
            refine lv_if_le (tgt := 44) hx hb dL_types_37 (by decide) (fun c11 => ?_) (fun c11 => ?_)
            · have hF := ite_t c11 hF
              exact W_44 u8 x1 x4 (fL_types_l6 x1 n) n ih _ _ _ _ (by omega) (by omega) hP hD hS ls (lv_sub hl [1, 2, 4] rfl) hF
            · have hF := ite_f c11 hF
              exact W_40 u8 x1 x4 (fL_types_l6 x1 n) n ih _ _ _ _ (by omega) (by omega) hP hD hS ls (lv_sub hl [1, 2, 4] rfl) hF
  rw [fL_types] at hF
  show vW p l e wsL_types rmL_types s m args below meth c D (some (.int r)) A0 (WS cI cZ cS a z_st) 0 0 s.heap [] 0 0 (F0 m 0 ls [])
  refine lv_iconst (v := (1 : Int32)) hx hb dL_types_0 (by decide) ?_
  refine lv_istore_n (lv' := [(3, .int (1 : Int32)), (0, .ref a.1), (1, .long x1)]) hx hb dL_types_1 rfl hl (by decide) rfl (fun ls hl => ?_)
  refine lv_bipush (v := (56 : Int32)) hx hb dL_types_2 (by decide) ?_
  refine lv_istore (lv' := [(4, .int (56 : Int32)), (3, .int (1 : Int32)), (0, .ref a.1), (1, .long x1)]) hx hb dL_types_4 hl (by decide) rfl (fun ls hl => ?_)
  exact W_6 x1  9 (1 : Int32) (56 : Int32) st _ _ _ _ (by omega) (by omega) hP hD hS ls (lv_sub hl [2, 3, 1, 0] rfl) hF
abbrev rmL_isError : Room := { frames := 6, cells := 0, slots := 0, locals := 134 }
theorem hdnL_isError : yL_isError.cls ≠ "java/lang/invoke/MethodHandle" ∧ yL_isError.cls ≠ "java/lang/invoke/VarHandle" ∧ (parseMethodDescriptor yL_isError.desc).map (fun d => d.parameters.length) = some 4 := by decide +kernel
set_option maxHeartbeats 8000000 in
set_option maxRecDepth 100000 in
theorem KL_isError (l : Launch) (hfl : l.stackTraces = false) (D : va_G) (cI cZ cS cJ : ClassId) (a : AD) (st : ST) (x1 : Int64) (x3 : Int64) (x5 : Int32) (r : Int32) (z_st : ST) (hF : fL_isError st x1 x3 x5 = some (r, z_st)) : Met l yL_isError wsL_isError rmL_isError (wP D (gT cI cZ cS cJ) (WS cI cZ cS a st) [.ref a.1, .long x1, .long x3, .int x5]) (uQ D (some (.int r)) (uA (WS cI cZ cS a st)) (WS cI cZ cS a z_st)) 0 0 (uA (WS cI cZ cS a st)) := by
  refine Met.ofW (cc := cL_isError) (maxL := 6) (ret := (some .boolean)) (by decide) rfl ?_
  intro p e s m args below meth c s₁ B hml hv
  obtain ⟨⟨ha, hK, hP, hD0, hX, hZ⟩, hY⟩ := hv
  have hx := B.exec
  have hb := B.bytes
  have hr := B.returns
  have hlocks := B.notSynchronized
  have hts : ∀ w ∈ lw_all, w.before args s = true := fun w h => atoms_spec (ws := wsL_isError) B.pre w (List.mem_cons_of_mem _ h)
  have hown : s.vm.findClass RL = some m.cls := findClass_of_methodNamed B.named
  have S : CallFix p m c cL_isError 6 s args lw_all RL := ⟨hx, hb, hml, hown, hts⟩
  have hD := hD0.own
  generalize uA (WS cI cZ cS a st) = A0 at hD hZ ⊢
  have hS : va_S A0 s.heap s.heap [] := va_S.rf
  have hl := lv_entry ([.ref a.1, .long x1, .long x3, .int x5] : List Value) (n := 6) (Nat.le_of_ble_eq_true rfl)
  refine W.eq (g2 := F0 m 0 ((lg_sl ([.ref a.1, .long x1, .long x3, .int x5] : List Value) ++ List.replicate (6 - (lg_sl ([.ref a.1, .long x1, .long x3, .int x5] : List Value)).length) Slot.unset).toArray) []) (by rw [ha]; exact lg_entry_eq _ _ _) ?_
  generalize (lg_sl ([.ref a.1, .long x1, .long x3, .int x5] : List Value) ++ List.replicate (6 - (lg_sl ([.ref a.1, .long x1, .long x3, .int x5] : List Value)).length) Slot.unset).toArray = ls at hl ⊢
  have hl : lv_has ls 6 [(0, .ref a.1), (1, .long x1), (3, .long x3), (5, .int x5)] := hl
  rw [fL_isError] at hF
  show vW p l e wsL_isError rmL_isError s m args below meth c D (some (.int r)) A0 (WS cI cZ cS a z_st) 0 0 s.heap [] 0 0 (F0 m 0 ls [])
  refine lv_aload_n hx hb dL_isError_0 rfl (lv_at hl 0 rfl) ?_
  obtain ⟨q1, u2, h3, hF⟩ := bd2_at hF
  refine scalli (X' := WS cI cZ cS a u2) (va_runV (As := []) (rest := []) S (NS_clearBuffer l D cI cZ cS cJ a st q1 u2 h3) (cwV 0 hts (gd_V wd_736 wd_737 wd_738 wd_22 wd_739) rfl rfl rfl hd5_clearBuffer ⟨Nat.le_of_ble_eq_true rfl, Nat.le_of_ble_eq_true rfl⟩) (uPreV hK hP hD (ci := 5) (q := (RX5, TX5, 3)) (WS_0 cI cZ cS a st) rfl) rfl rfl hl.1 rfl (lv_room (Nat.le_of_ble_eq_true rfl)) dL_isError_1 ⟨(Nat.le_of_ble_eq_true rfl), (Nat.le_of_ble_eq_true rfl)⟩) hS hD (fun H locs hP hS => ?_)
  have hD : va_D A0 (WS cI cZ cS a u2) := WS_D u2 hD
  have hP : va_P D vwCl (WS cI cZ cS a u2) H := hP
  refine lv_if_lt (tgt := 36) hx hb dL_isError_4 (by decide) (fun c4 => ?_) (fun c4 => ?_)
  · have hF := ite_t c4 hF
    refine lv_iconst (v := (0 : Int32)) hx hb dL_isError_36 (by decide) ?_
    cases hF
    exact vretz (Nat.le_of_ble_eq_true rfl) (Nat.le_of_ble_eq_true rfl) (by decide) hx hb hr hlocks hP hS dL_isError_37
  · have hF := ite_f c4 hF
    refine lv_aload_n hx hb dL_isError_7 rfl (lv_at hl 0 rfl) ?_
    refine lv_lload_n hx hb dL_isError_8 rfl (lv_at hl 1 rfl) ?_
    obtain ⟨q5, u7, h6, hF⟩ := bd2_at hF
    refine scalli (X' := WS cI cZ cS a u7) (va_runS (As := [.ref a.1, .long x1]) (rest := []) S (KL_types l hfl D cI cZ cS cJ a u2 x1 q5 u7 h6) (va_cwS 2 hts (gd_S wd_740 wd_741 wd_21 wd_742) rfl rfl rfl hdnL_types ⟨Nat.le_of_ble_eq_true rfl, Nat.le_of_ble_eq_true rfl⟩) (wPreS hK hX hZ hY hS hP hD) rfl rfl hl.1 rfl (lv_room (Nat.le_of_ble_eq_true rfl)) dL_isError_9 ⟨(Nat.le_of_ble_eq_true rfl), (Nat.le_of_ble_eq_true rfl)⟩) hS hD (fun H locs hP hS => ?_)
    have hD : va_D A0 (WS cI cZ cS a u7) := WS_D u7 hD
    have hP : va_P D vwCl (WS cI cZ cS a u7) H := hP
    refine lv_if_eq (tgt := 36) hx hb dL_isError_12 (by decide) (fun c8 => ?_) (fun c8 => ?_)
    · have hF := ite_t c8 hF
      refine lv_iconst (v := (0 : Int32)) hx hb dL_isError_36 (by decide) ?_
      cases hF
      exact vretz (Nat.le_of_ble_eq_true rfl) (Nat.le_of_ble_eq_true rfl) (by decide) hx hb hr hlocks hP hS dL_isError_37
    · have hF := ite_f c8 hF
      refine lv_aload_n hx hb dL_isError_15 rfl (lv_at hl 0 rfl) ?_
      refine lv_lload_n hx hb dL_isError_16 rfl (lv_at hl 2 rfl) ?_
      obtain ⟨q9, u11, h10, hF⟩ := bd2_at hF
      refine scalli (X' := WS cI cZ cS a u11) (va_runS (As := [.ref a.1, .long x3]) (rest := []) S (KL_types l hfl D cI cZ cS cJ a u7 x3 q9 u11 h10) (va_cwS 2 hts (gd_S wd_740 wd_741 wd_21 wd_742) rfl rfl rfl hdnL_types ⟨Nat.le_of_ble_eq_true rfl, Nat.le_of_ble_eq_true rfl⟩) (wPreS hK hX hZ hY hS hP hD) rfl rfl hl.1 rfl (lv_room (Nat.le_of_ble_eq_true rfl)) dL_isError_17 ⟨(Nat.le_of_ble_eq_true rfl), (Nat.le_of_ble_eq_true rfl)⟩) hS hD (fun H locs hP hS => ?_)
      have hD : va_D A0 (WS cI cZ cS a u11) := WS_D u11 hD
      have hP : va_P D vwCl (WS cI cZ cS a u11) H := hP
      refine lv_if_eq (tgt := 36) hx hb dL_isError_20 (by decide) (fun c12 => ?_) (fun c12 => ?_)
      · have hF := ite_t c12 hF
        refine lv_iconst (v := (0 : Int32)) hx hb dL_isError_36 (by decide) ?_
        cases hF
        exact vretz (Nat.le_of_ble_eq_true rfl) (Nat.le_of_ble_eq_true rfl) (by decide) hx hb hr hlocks hP hS dL_isError_37
      · have hF := ite_f c12 hF
        refine lv_aload_n hx hb dL_isError_23 rfl (lv_at hl 0 rfl) ?_
        obtain ⟨q13, h14, hF⟩ := bd1_at hF
        refine rcall (va_runV (As := []) (rest := []) S (NS_firstError l D cI cZ cS cJ a u11 q13 h14) (cwV 0 hts (gd_V wd_744 wd_745 wd_746 wd_22 wd_747) rfl rfl rfl hd5_firstError ⟨Nat.le_of_ble_eq_true rfl, Nat.le_of_ble_eq_true rfl⟩) (rPreV hK hP (ci := 5) (q := (RX5, TX5, 3)) (WS_0 cI cZ cS a u11) rfl) rfl rfl hl.1 rfl (lv_room (Nat.le_of_ble_eq_true rfl)) dL_isError_24 ⟨(Nat.le_of_ble_eq_true rfl), (Nat.le_of_ble_eq_true rfl)⟩) ?_
        refine lv_iload hx hb dL_isError_27 (lv_at hl 3 rfl) ?_
        refine lv_icmp_ne (tgt := 36) hx hb dL_isError_29 (by decide) (fun c15 => ?_) (fun c15 => ?_)
        · have hF := ite_f c15 hF
          refine lv_iconst (v := (0 : Int32)) hx hb dL_isError_36 (by decide) ?_
          cases hF
          exact vretz (Nat.le_of_ble_eq_true rfl) (Nat.le_of_ble_eq_true rfl) (by decide) hx hb hr hlocks hP hS dL_isError_37
        · have hF := ite_t c15 hF
          refine lv_iconst (v := (1 : Int32)) hx hb dL_isError_32 (by decide) ?_
          refine lv_goto (tgt := 37) hx hb dL_isError_33 (by decide) ?_
          cases hF
          exact vretz (Nat.le_of_ble_eq_true rfl) (Nat.le_of_ble_eq_true rfl) (by decide) hx hb hr hlocks hP hS dL_isError_37
