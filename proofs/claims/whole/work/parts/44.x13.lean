/-! the class: type; counts and the digest -/
theorem i8_ascii {c : Int32} (h : dayP c 128) : c.toInt8.toInt32 = c := by
  obtain ⟨j, hj, rfl⟩ := dayP_nI h
  revert j
  intro j hj _
  have : ∀ j : Fin 128, (nI j.val).toInt8.toInt32 = nI j.val := by decide +kernel
  exact this ⟨j, hj⟩
theorem c_X9_take (α : Nat → Nat) (I : fdI) (L : fdL) (c : Int32) {b : Nat} (hb : I 54 0 = nI b) (hb150 : b ≤ 150) : Con fd_SX α yX9_take mX9_take [.ref (α 54), .int c] I L (fd_is (some (.int (if dayP c 128 then (if b = 150 then -4 else nI (b + 1)) else -2))) (if dayP c 128 ∧ ¬ b = 150 then fd_up (fd_up I 56 b c) 54 0 (nI (b + 1)) else I) L) := by
  refine Con.of (by decide) rfl (Nat.le_of_ble_eq_true rfl) ?_
  by_cases hok : dayP c 128
  · rw [if_pos hok]
    have g0 := dayP_n0 hok
    have g1 : c ≤ 127 := Int32.le_iff_toInt_le.mpr (Int.le_of_lt_add_one hok.2)
    by_cases h150 : b = 150
    · rw [if_pos h150, if_neg (fun q => q.2 h150)]
      subst h150
      refine r_iload_n dX9_take_0 rfl ?_
      refine r_if_lt 10 dX9_take_1 (by decide) (fun h1 => absurd h1 g0) (fun h1 => ?_)
      refine r_iload_n dX9_take_4 rfl ?_
      refine r_bipush (v := 127) dX9_take_5 rfl ?_
      refine r_icmp_le 13 dX9_take_7 (by decide) (fun h7 => ?_) (fun h7 => absurd h7 (not_not_intro g1))
      refine r_aload_n dX9_take_13 rfl ?_
      refine r_getV rfl rfl fl_9_9 dX9_take_14 hb ?_
      refine r_sipush (v := 150) dX9_take_17 rfl ?_
      refine r_icmp_lt 26 dX9_take_20 (by decide) (fun h20 => absurd h20 (by decide)) (fun h20 => ?_)
      refine r_bipush (v := (-4)) dX9_take_23 rfl ?_
      refine r_iret rfl dX9_take_25 ?_
      exact fd_isI rfl rfl rfl
    · rw [if_neg h150, if_pos ⟨hok, h150⟩]
      refine r_iload_n dX9_take_0 rfl ?_
      refine r_if_lt 10 dX9_take_1 (by decide) (fun h1 => absurd h1 g0) (fun h1 => ?_)
      refine r_iload_n dX9_take_4 rfl ?_
      refine r_bipush (v := 127) dX9_take_5 rfl ?_
      refine r_icmp_le 13 dX9_take_7 (by decide) (fun h7 => ?_) (fun h7 => absurd h7 (not_not_intro g1))
      refine r_aload_n dX9_take_13 rfl ?_
      refine r_getV rfl rfl fl_9_9 dX9_take_14 hb ?_
      refine r_sipush (v := 150) dX9_take_17 rfl ?_
      refine r_icmp_lt 26 dX9_take_20 (by decide) (fun h20 => ?_) (fun h20 => absurd h20 (not_not_intro ((nI_ltI (b := 150) (by omega) (by decide)).mpr (by omega))))
      refine r_aload_n dX9_take_26 rfl ?_
      refine r_getR rfl rfl fl_9_22 dX9_take_27 ?_
      refine r_aload_n dX9_take_30 rfl ?_
      refine r_getV rfl rfl fl_9_9 dX9_take_31 hb ?_
      refine r_iload_n dX9_take_34 rfl ?_
      refine r_i2b dX9_take_35 rfl ?_
      rw [i8_ascii hok]
      refine r_bastN rfl (i8_ascii hok) dX9_take_36 (by omega) (by omega) ?_
      refine r_aload_n dX9_take_37 rfl ?_
      refine r_dup dX9_take_38 rfl ?_
      refine r_getV rfl rfl fl_9_9 dX9_take_39 hb ?_
      refine r_iconst (v := 1) dX9_take_42 rfl ?_
      refine r_iadd dX9_take_43 ?_
      rw [nI_1]
      refine r_putI rfl rfl fl_9_9 fw_9_0 dX9_take_44 ?_
      refine r_aload_n dX9_take_47 rfl ?_
      refine r_getV rfl rfl fl_9_9 dX9_take_48 fd_up_same ?_
      refine r_iret rfl dX9_take_51 ?_
      exact fd_isI rfl rfl rfl
  · rw [if_neg hok, if_neg (fun q => hok q.1)]
    refine r_iload_n dX9_take_0 rfl ?_
    refine r_if_lt 10 dX9_take_1 (by decide) (fun h1 => ?_) (fun h1 => ?_)
    · refine r_bipush (v := (-2)) dX9_take_10 rfl ?_
      refine r_iret rfl dX9_take_12 ?_
      exact fd_isI rfl rfl rfl
    · refine r_iload_n dX9_take_4 rfl ?_
      refine r_bipush (v := 127) dX9_take_5 rfl ?_
      refine r_icmp_le 13 dX9_take_7 (by decide) (fun h7 => absurd h7 (fun q => hok ⟨Int.not_lt.mp (fun z => h1 (i_lt0.mpr z)), Int.lt_of_le_of_lt (Int32.le_iff_toInt_le.mp q) (by decide)⟩)) (fun h7 => ?_)
      refine r_bipush (v := (-2)) dX9_take_10 rfl ?_
      refine r_iret rfl dX9_take_12 ?_
      exact fd_isI rfl rfl rfl
theorem c_X10_type (α : Nat → Nat) (I : fdI) (L : fdL) (c : Int32) {b : Nat} (hb : I 54 0 = nI b) (hb150 : b ≤ 150) : Con fd_SX α yX10_type mX10_type [.ref (α 0), .int c] I L (fd_is (some (.int (if dayP c 128 then (if b = 150 then -4 else nI (b + 1)) else -2))) (if dayP c 128 then (if b = 150 then xFull I else fd_up (fd_up I 56 b c) 54 0 (nI (b + 1))) else xBad I) L) := by
  refine Con.of (by decide) rfl (Nat.le_of_ble_eq_true rfl) ?_
  by_cases hok : dayP c 128
  · by_cases h150 : b = 150
    · rw [if_pos hok, if_pos h150, if_pos hok, if_pos h150]
      refine r_aload_n dX10_type_0 rfl ?_
      refine r_aload_n dX10_type_1 rfl ?_
      refine r_getR rfl rfl fl_10_36 dX10_type_2 ?_
      refine r_iload_n dX10_type_5 rfl ?_
      refine r_cVr (As := [_]) (c_X9_take α _ _ _ hb hb150) lk_10_120 rfl rfl (by decide) (by decide) rfl rfl (Nat.le_of_ble_eq_true rfl) dX10_type_6 ?_
      rw [if_pos hok, if_pos h150, if_neg (fun q => q.2 h150)]
      refine r_cVr (As := [_]) (c_X10_counted α _ _ _) lk_10_91 rfl rfl (by decide) (by decide) rfl rfl (Nat.le_of_ble_eq_true rfl) dX10_type_9 ?_
      refine r_iret rfl dX10_type_12 ?_
      exact fd_isI rfl rfl rfl
    · rw [if_pos hok, if_neg h150, if_pos hok, if_neg h150]
      refine r_aload_n dX10_type_0 rfl ?_
      refine r_aload_n dX10_type_1 rfl ?_
      refine r_getR rfl rfl fl_10_36 dX10_type_2 ?_
      refine r_iload_n dX10_type_5 rfl ?_
      refine r_cVr (As := [_]) (c_X9_take α _ _ _ hb hb150) lk_10_120 rfl rfl (by decide) (by decide) rfl rfl (Nat.le_of_ble_eq_true rfl) dX10_type_6 ?_
      rw [if_pos hok, if_neg h150, if_pos ⟨hok, h150⟩]
      refine r_cVr (As := [_]) (c_X10_counted α _ _ _) lk_10_91 rfl rfl (by decide) (by decide) rfl rfl (Nat.le_of_ble_eq_true rfl) dX10_type_9 ?_
      rw [cnX_nn (by rw [nI_toInt (by omega)]; omega)]
      refine r_iret rfl dX10_type_12 ?_
      exact fd_isI rfl rfl rfl
  · rw [if_neg hok, if_neg hok]
    refine r_aload_n dX10_type_0 rfl ?_
    refine r_aload_n dX10_type_1 rfl ?_
    refine r_getR rfl rfl fl_10_36 dX10_type_2 ?_
    refine r_iload_n dX10_type_5 rfl ?_
    refine r_cVr (As := [_]) (c_X9_take α _ _ _ hb hb150) lk_10_120 rfl rfl (by decide) (by decide) rfl rfl (Nat.le_of_ble_eq_true rfl) dX10_type_6 ?_
    rw [if_neg hok, if_neg (fun q => hok q.1)]
    refine r_cVr (As := [_]) (c_X10_counted α _ _ _) lk_10_91 rfl rfl (by decide) (by decide) rfl rfl (Nat.le_of_ble_eq_true rfl) dX10_type_9 ?_
    refine r_iret rfl dX10_type_12 ?_
    exact fd_isI rfl rfl rfl
theorem c_X5_digestOfDays (V : pV) (α : Nat → Nat) (I : fdI) (L : fdL) (h : Int64) {n : Nat} (hn : I 8 0 = nI n) (hn7 : 1 ≤ n ∧ n ≤ 7) (g : ∀ d, d < n → I 9 d = V 1 d ∧ I 10 d = V 2 d ∧ I 11 d = V 3 d ∧ I 12 d = V 4 d ∧ I 13 d = V 5 d) : Con fd_SX α yX5_digestOfDays mX5_digestOfDays [.ref (α 8), .long h] I L (fd_is (some (.long (dgD V h n))) I L) := by
  refine Con.of (by decide) rfl (Nat.le_of_ble_eq_true rfl) ?_
  have loop : ∀ k, k ≤ n → Rn fd_SX α mX5_digestOfDays 5 [(5, .int (nI k)), (3, .long (dgD V h k)), (0, .ref (α 8))] [] I L (fd_is (some (.long (dgD V h n))) I L) := by
    refine fd_down (fun k hk ih => ?_)
    by_cases hx : k = n
    · subst hx
      refine r_iload dX5_digestOfDays_5 rfl ?_
      refine r_aload_n dX5_digestOfDays_7 rfl ?_
      refine r_getV rfl rfl fl_5_46 dX5_digestOfDays_8 hn ?_
      refine r_icmp_ge 80 dX5_digestOfDays_11 (by decide) (fun h11 => ?_) (fun h11 => absurd h11 (not_not_intro (Int32.le_refl _)))
      refine r_lload_n dX5_digestOfDays_80 rfl ?_
      refine r_lret rfl dX5_digestOfDays_81 ?_
      exact fd_isI rfl rfl rfl
    · have e := g k (by omega)
      refine r_iload dX5_digestOfDays_5 rfl ?_
      refine r_aload_n dX5_digestOfDays_7 rfl ?_
      refine r_getV rfl rfl fl_5_46 dX5_digestOfDays_8 hn ?_
      refine r_icmp_ge 80 dX5_digestOfDays_11 (by decide) (fun h11 => absurd h11 (fun q => absurd ((nI_leI (by omega) (by omega)).mp q) (by omega))) (fun h11 => ?_)
      refine r_ldc2 (v := (31 : Int64)) (fd_in 919 (by decide +kernel) (by decide +kernel)) dX5_digestOfDays_14 ?_
      refine r_lload_n dX5_digestOfDays_17 rfl ?_
      refine r_lmul dX5_digestOfDays_18 ?_
      refine r_aload_n dX5_digestOfDays_19 rfl ?_
      refine r_getR rfl rfl fl_5_9 dX5_digestOfDays_20 ?_
      refine r_iload dX5_digestOfDays_23 rfl ?_
      refine r_ialdN rfl dX5_digestOfDays_25 (by omega) (by omega) e.1 ?_
      refine r_i2l dX5_digestOfDays_26 rfl ?_
      refine r_ladd dX5_digestOfDays_27 ?_
      refine r_lstore_n (lv' := [(3, _), (5, _), (0, _)]) dX5_digestOfDays_28 (Nat.le_of_ble_eq_true rfl) rfl ?_
      refine r_ldc2 (v := (31 : Int64)) (fd_in 919 (by decide +kernel) (by decide +kernel)) dX5_digestOfDays_29 ?_
      refine r_lload_n dX5_digestOfDays_32 rfl ?_
      refine r_lmul dX5_digestOfDays_33 ?_
      refine r_aload_n dX5_digestOfDays_34 rfl ?_
      refine r_getR rfl rfl fl_5_15 dX5_digestOfDays_35 ?_
      refine r_iload dX5_digestOfDays_38 rfl ?_
      refine r_ialdN rfl dX5_digestOfDays_40 (by omega) (by omega) e.2.1 ?_
      refine r_i2l dX5_digestOfDays_41 rfl ?_
      refine r_ladd dX5_digestOfDays_42 ?_
      refine r_lstore_n (lv' := [(3, _), (5, _), (0, _)]) dX5_digestOfDays_43 (Nat.le_of_ble_eq_true rfl) rfl ?_
      refine r_ldc2 (v := (31 : Int64)) (fd_in 919 (by decide +kernel) (by decide +kernel)) dX5_digestOfDays_44 ?_
      refine r_lload_n dX5_digestOfDays_47 rfl ?_
      refine r_lmul dX5_digestOfDays_48 ?_
      refine r_aload_n dX5_digestOfDays_49 rfl ?_
      refine r_getR rfl rfl fl_5_18 dX5_digestOfDays_50 ?_
      refine r_iload dX5_digestOfDays_53 rfl ?_
      refine r_ialdN rfl dX5_digestOfDays_55 (by omega) (by omega) e.2.2.1 ?_
      refine r_i2l dX5_digestOfDays_56 rfl ?_
      refine r_ladd dX5_digestOfDays_57 ?_
      refine r_lstore_n (lv' := [(3, _), (5, _), (0, _)]) dX5_digestOfDays_58 (Nat.le_of_ble_eq_true rfl) rfl ?_
      refine r_ldc2 (v := (31 : Int64)) (fd_in 919 (by decide +kernel) (by decide +kernel)) dX5_digestOfDays_59 ?_
      refine r_lload_n dX5_digestOfDays_62 rfl ?_
      refine r_lmul dX5_digestOfDays_63 ?_
      refine r_aload_n dX5_digestOfDays_64 rfl ?_
      refine r_getR rfl rfl fl_5_21 dX5_digestOfDays_65 ?_
      refine r_iload dX5_digestOfDays_68 rfl ?_
      refine r_ialdN rfl dX5_digestOfDays_70 (by omega) (by omega) e.2.2.2.1 ?_
      refine r_i2l dX5_digestOfDays_71 rfl ?_
      refine r_ladd dX5_digestOfDays_72 ?_
      refine r_lstore_n (lv' := [(3, _), (5, _), (0, _)]) dX5_digestOfDays_73 (Nat.le_of_ble_eq_true rfl) rfl ?_
      refine r_iinc (v := _ + 1) (lv' := [(5, _), (3, _), (0, _)]) dX5_digestOfDays_74 rfl rfl (Nat.le_of_ble_eq_true rfl) rfl ?_
      refine r_goto (tgt := 5) dX5_digestOfDays_77 (by decide) ?_
      rw [nI_1]
      exact r_keep [5, 3, 0] rfl (ih (by omega))
  refine r_lload_n dX5_digestOfDays_0 rfl ?_
  refine r_lstore_n (lv' := [(3, _), (0, _), (1, _)]) dX5_digestOfDays_1 (Nat.le_of_ble_eq_true rfl) rfl ?_
  refine r_iconst (v := 0) dX5_digestOfDays_2 rfl ?_
  refine r_istore (lv' := [(5, _), (3, _), (0, _), (1, _)]) dX5_digestOfDays_3 (Nat.le_of_ble_eq_true rfl) rfl ?_
  exact r_keep [5, 3, 0] rfl (loop 0 (by omega))
theorem c_X5_digestOfRows (V : pV) (α : Nat → Nat) (I : fdI) (L : fdL) (h : Int64) {n nn np nt : Nat} (hn : I 8 0 = nI n) (hn7 : 1 ≤ n ∧ n ≤ 7) (hnn : I 8 1 = nI nn) (hn6 : nn ≤ 6) (hnp : I 8 2 = nI np) (hp6 : np ≤ 6) (hnt : I 8 3 = nI nt) (ht3 : nt ≤ 3) (g : agr V (fun c => I (8 + c)) n nn np nt) : Con fd_SX α yX5_digestOfRows mX5_digestOfRows [.ref (α 8), .long h] I L (fd_is (some (.long (hsh (hsh (dg1 V 10 (dg1 V 5 (dg2 V 8 9 (dg2 V 6 7 h nn) np) n) nt) (I 8 5).toInt64) (I 8 6).toInt64))) I L) := by
  refine Con.of (by decide) rfl (Nat.le_of_ble_eq_true rfl) ?_
  have l4 : ∀ k, k ≤ nt → Rn fd_SX α mX5_digestOfRows 134 [(5, .int (nI k)), (3, .long (dg1 V 10 (dg1 V 5 (dg2 V 8 9 (dg2 V 6 7 h nn) np) n) k)), (0, .ref (α 8))] [] I L (fd_is (some (.long (hsh (hsh (dg1 V 10 (dg1 V 5 (dg2 V 8 9 (dg2 V 6 7 h nn) np) n) nt) (I 8 5).toInt64) (I 8 6).toInt64))) I L) := by
    refine fd_down (fun k hk ih => ?_)
    by_cases hx : k = nt
    · subst hx
      refine r_iload dX5_digestOfRows_134 rfl ?_
      refine r_aload_n dX5_digestOfRows_136 rfl ?_
      refine r_getV rfl rfl fl_5_56 dX5_digestOfRows_137 hnt ?_
      refine r_icmp_ge 164 dX5_digestOfRows_140 (by decide) (fun h140 => ?_) (fun h140 => absurd h140 (not_not_intro (Int32.le_refl _)))
      refine r_ldc2 (v := (31 : Int64)) (fd_in 919 (by decide +kernel) (by decide +kernel)) dX5_digestOfRows_164 ?_
      refine r_lload_n dX5_digestOfRows_167 rfl ?_
      refine r_lmul dX5_digestOfRows_168 ?_
      refine r_aload_n dX5_digestOfRows_169 rfl ?_
      refine r_getI rfl rfl fl_5_62 dX5_digestOfRows_170 ?_
      refine r_i2l dX5_digestOfRows_173 rfl ?_
      refine r_ladd dX5_digestOfRows_174 ?_
      refine r_lstore_n (lv' := [(3, _), (5, _), (0, _)]) dX5_digestOfRows_175 (Nat.le_of_ble_eq_true rfl) rfl ?_
      refine r_ldc2 (v := (31 : Int64)) (fd_in 919 (by decide +kernel) (by decide +kernel)) dX5_digestOfRows_176 ?_
      refine r_lload_n dX5_digestOfRows_179 rfl ?_
      refine r_lmul dX5_digestOfRows_180 ?_
      refine r_aload_n dX5_digestOfRows_181 rfl ?_
      refine r_getI rfl rfl fl_5_65 dX5_digestOfRows_182 ?_
      refine r_i2l dX5_digestOfRows_185 rfl ?_
      refine r_ladd dX5_digestOfRows_186 ?_
      refine r_lret rfl dX5_digestOfRows_187 ?_
      exact fd_isI rfl rfl rfl
    · refine r_iload dX5_digestOfRows_134 rfl ?_
      refine r_aload_n dX5_digestOfRows_136 rfl ?_
      refine r_getV rfl rfl fl_5_56 dX5_digestOfRows_137 hnt ?_
      refine r_icmp_ge 164 dX5_digestOfRows_140 (by decide) (fun h140 => absurd h140 (fun q => absurd ((nI_leI (by omega) (by omega)).mp q) (by omega))) (fun h140 => ?_)
      refine r_ldc2 (v := (31 : Int64)) (fd_in 919 (by decide +kernel) (by decide +kernel)) dX5_digestOfRows_143 ?_
      refine r_lload_n dX5_digestOfRows_146 rfl ?_
      refine r_lmul dX5_digestOfRows_147 ?_
      refine r_aload_n dX5_digestOfRows_148 rfl ?_
      refine r_getR rfl rfl fl_5_39 dX5_digestOfRows_149 ?_
      refine r_iload dX5_digestOfRows_152 rfl ?_
      refine r_ialdN rfl dX5_digestOfRows_154 (by omega) (by omega) (g.2.2.2 k (by omega)) ?_
      refine r_i2l dX5_digestOfRows_155 rfl ?_
      refine r_ladd dX5_digestOfRows_156 ?_
      refine r_lstore_n (lv' := [(3, _), (5, _), (0, _)]) dX5_digestOfRows_157 (Nat.le_of_ble_eq_true rfl) rfl ?_
      refine r_iinc (v := _ + 1) (lv' := [(5, _), (3, _), (0, _)]) dX5_digestOfRows_158 rfl rfl (Nat.le_of_ble_eq_true rfl) rfl ?_
      refine r_goto (tgt := 134) dX5_digestOfRows_161 (by decide) ?_
      rw [nI_1]
      exact r_keep [5, 3, 0] rfl (ih (by omega))
  have l3 : ∀ k, k ≤ n → Rn fd_SX α mX5_digestOfRows 101 [(5, .int (nI k)), (3, .long (dg1 V 5 (dg2 V 8 9 (dg2 V 6 7 h nn) np) k)), (0, .ref (α 8))] [] I L (fd_is (some (.long (hsh (hsh (dg1 V 10 (dg1 V 5 (dg2 V 8 9 (dg2 V 6 7 h nn) np) n) nt) (I 8 5).toInt64) (I 8 6).toInt64))) I L) := by
    refine fd_down (fun k hk ih => ?_)
    by_cases hx : k = n
    · subst hx
      refine r_iload dX5_digestOfRows_101 rfl ?_
      refine r_aload_n dX5_digestOfRows_103 rfl ?_
      refine r_getV rfl rfl fl_5_46 dX5_digestOfRows_104 hn ?_
      refine r_icmp_ge 131 dX5_digestOfRows_107 (by decide) (fun h107 => ?_) (fun h107 => absurd h107 (not_not_intro (Int32.le_refl _)))
      refine r_iconst (v := 0) dX5_digestOfRows_131 rfl ?_
      refine r_istore (lv' := [(5, _), (3, _), (0, _)]) dX5_digestOfRows_132 (Nat.le_of_ble_eq_true rfl) rfl ?_
      exact r_keep [5, 3, 0] rfl (l4 0 (by omega))
    · refine r_iload dX5_digestOfRows_101 rfl ?_
      refine r_aload_n dX5_digestOfRows_103 rfl ?_
      refine r_getV rfl rfl fl_5_46 dX5_digestOfRows_104 hn ?_
      refine r_icmp_ge 131 dX5_digestOfRows_107 (by decide) (fun h107 => absurd h107 (fun q => absurd ((nI_leI (by omega) (by omega)).mp q) (by omega))) (fun h107 => ?_)
      refine r_ldc2 (v := (31 : Int64)) (fd_in 919 (by decide +kernel) (by decide +kernel)) dX5_digestOfRows_110 ?_
      refine r_lload_n dX5_digestOfRows_113 rfl ?_
      refine r_lmul dX5_digestOfRows_114 ?_
      refine r_aload_n dX5_digestOfRows_115 rfl ?_
      refine r_getR rfl rfl fl_5_24 dX5_digestOfRows_116 ?_
      refine r_iload dX5_digestOfRows_119 rfl ?_
      refine r_ialdN rfl dX5_digestOfRows_121 (by omega) (by omega) (g.1 k (by omega)).2.2.2.2 ?_
      refine r_i2l dX5_digestOfRows_122 rfl ?_
      refine r_ladd dX5_digestOfRows_123 ?_
      refine r_lstore_n (lv' := [(3, _), (5, _), (0, _)]) dX5_digestOfRows_124 (Nat.le_of_ble_eq_true rfl) rfl ?_
      refine r_iinc (v := _ + 1) (lv' := [(5, _), (3, _), (0, _)]) dX5_digestOfRows_125 rfl rfl (Nat.le_of_ble_eq_true rfl) rfl ?_
      refine r_goto (tgt := 101) dX5_digestOfRows_128 (by decide) ?_
      rw [nI_1]
      exact r_keep [5, 3, 0] rfl (ih (by omega))
  have l2 : ∀ k, k ≤ np → Rn fd_SX α mX5_digestOfRows 53 [(5, .int (nI k)), (3, .long (dg2 V 8 9 (dg2 V 6 7 h nn) k)), (0, .ref (α 8))] [] I L (fd_is (some (.long (hsh (hsh (dg1 V 10 (dg1 V 5 (dg2 V 8 9 (dg2 V 6 7 h nn) np) n) nt) (I 8 5).toInt64) (I 8 6).toInt64))) I L) := by
    refine fd_down (fun k hk ih => ?_)
    by_cases hx : k = np
    · subst hx
      refine r_iload dX5_digestOfRows_53 rfl ?_
      refine r_aload_n dX5_digestOfRows_55 rfl ?_
      refine r_getV rfl rfl fl_5_53 dX5_digestOfRows_56 hnp ?_
      refine r_icmp_ge 98 dX5_digestOfRows_59 (by decide) (fun h59 => ?_) (fun h59 => absurd h59 (not_not_intro (Int32.le_refl _)))
      refine r_iconst (v := 0) dX5_digestOfRows_98 rfl ?_
      refine r_istore (lv' := [(5, _), (3, _), (0, _)]) dX5_digestOfRows_99 (Nat.le_of_ble_eq_true rfl) rfl ?_
      exact r_keep [5, 3, 0] rfl (l3 0 (by omega))
    · refine r_iload dX5_digestOfRows_53 rfl ?_
      refine r_aload_n dX5_digestOfRows_55 rfl ?_
      refine r_getV rfl rfl fl_5_53 dX5_digestOfRows_56 hnp ?_
      refine r_icmp_ge 98 dX5_digestOfRows_59 (by decide) (fun h59 => absurd h59 (fun q => absurd ((nI_leI (by omega) (by omega)).mp q) (by omega))) (fun h59 => ?_)
      refine r_ldc2 (v := (31 : Int64)) (fd_in 919 (by decide +kernel) (by decide +kernel)) dX5_digestOfRows_62 ?_
      refine r_lload_n dX5_digestOfRows_65 rfl ?_
      refine r_lmul dX5_digestOfRows_66 ?_
      refine r_aload_n dX5_digestOfRows_67 rfl ?_
      refine r_getR rfl rfl fl_5_33 dX5_digestOfRows_68 ?_
      refine r_iload dX5_digestOfRows_71 rfl ?_
      refine r_ialdN rfl dX5_digestOfRows_73 (by omega) (by omega) (g.2.2.1 k (by omega)).1 ?_
      refine r_i2l dX5_digestOfRows_74 rfl ?_
      refine r_ladd dX5_digestOfRows_75 ?_
      refine r_lstore_n (lv' := [(3, _), (5, _), (0, _)]) dX5_digestOfRows_76 (Nat.le_of_ble_eq_true rfl) rfl ?_
      refine r_ldc2 (v := (31 : Int64)) (fd_in 919 (by decide +kernel) (by decide +kernel)) dX5_digestOfRows_77 ?_
      refine r_lload_n dX5_digestOfRows_80 rfl ?_
      refine r_lmul dX5_digestOfRows_81 ?_
      refine r_aload_n dX5_digestOfRows_82 rfl ?_
      refine r_getR rfl rfl fl_5_36 dX5_digestOfRows_83 ?_
      refine r_iload dX5_digestOfRows_86 rfl ?_
      refine r_ialdN rfl dX5_digestOfRows_88 (by omega) (by omega) (g.2.2.1 k (by omega)).2 ?_
      refine r_i2l dX5_digestOfRows_89 rfl ?_
      refine r_ladd dX5_digestOfRows_90 ?_
      refine r_lstore_n (lv' := [(3, _), (5, _), (0, _)]) dX5_digestOfRows_91 (Nat.le_of_ble_eq_true rfl) rfl ?_
      refine r_iinc (v := _ + 1) (lv' := [(5, _), (3, _), (0, _)]) dX5_digestOfRows_92 rfl rfl (Nat.le_of_ble_eq_true rfl) rfl ?_
      refine r_goto (tgt := 53) dX5_digestOfRows_95 (by decide) ?_
      rw [nI_1]
      exact r_keep [5, 3, 0] rfl (ih (by omega))
  have l1 : ∀ k, k ≤ nn → Rn fd_SX α mX5_digestOfRows 5 [(5, .int (nI k)), (3, .long (dg2 V 6 7 h k)), (0, .ref (α 8))] [] I L (fd_is (some (.long (hsh (hsh (dg1 V 10 (dg1 V 5 (dg2 V 8 9 (dg2 V 6 7 h nn) np) n) nt) (I 8 5).toInt64) (I 8 6).toInt64))) I L) := by
    refine fd_down (fun k hk ih => ?_)
    by_cases hx : k = nn
    · subst hx
      refine r_iload dX5_digestOfRows_5 rfl ?_
      refine r_aload_n dX5_digestOfRows_7 rfl ?_
      refine r_getV rfl rfl fl_5_50 dX5_digestOfRows_8 hnn ?_
      refine r_icmp_ge 50 dX5_digestOfRows_11 (by decide) (fun h11 => ?_) (fun h11 => absurd h11 (not_not_intro (Int32.le_refl _)))
      refine r_iconst (v := 0) dX5_digestOfRows_50 rfl ?_
      refine r_istore (lv' := [(5, _), (3, _), (0, _)]) dX5_digestOfRows_51 (Nat.le_of_ble_eq_true rfl) rfl ?_
      exact r_keep [5, 3, 0] rfl (l2 0 (by omega))
    · refine r_iload dX5_digestOfRows_5 rfl ?_
      refine r_aload_n dX5_digestOfRows_7 rfl ?_
      refine r_getV rfl rfl fl_5_50 dX5_digestOfRows_8 hnn ?_
      refine r_icmp_ge 50 dX5_digestOfRows_11 (by decide) (fun h11 => absurd h11 (fun q => absurd ((nI_leI (by omega) (by omega)).mp q) (by omega))) (fun h11 => ?_)
      refine r_ldc2 (v := (31 : Int64)) (fd_in 919 (by decide +kernel) (by decide +kernel)) dX5_digestOfRows_14 ?_
      refine r_lload_n dX5_digestOfRows_17 rfl ?_
      refine r_lmul dX5_digestOfRows_18 ?_
      refine r_aload_n dX5_digestOfRows_19 rfl ?_
      refine r_getR rfl rfl fl_5_27 dX5_digestOfRows_20 ?_
      refine r_iload dX5_digestOfRows_23 rfl ?_
      refine r_ialdN rfl dX5_digestOfRows_25 (by omega) (by omega) (g.2.1 k (by omega)).1 ?_
      refine r_i2l dX5_digestOfRows_26 rfl ?_
      refine r_ladd dX5_digestOfRows_27 ?_
      refine r_lstore_n (lv' := [(3, _), (5, _), (0, _)]) dX5_digestOfRows_28 (Nat.le_of_ble_eq_true rfl) rfl ?_
      refine r_ldc2 (v := (31 : Int64)) (fd_in 919 (by decide +kernel) (by decide +kernel)) dX5_digestOfRows_29 ?_
      refine r_lload_n dX5_digestOfRows_32 rfl ?_
      refine r_lmul dX5_digestOfRows_33 ?_
      refine r_aload_n dX5_digestOfRows_34 rfl ?_
      refine r_getR rfl rfl fl_5_30 dX5_digestOfRows_35 ?_
      refine r_iload dX5_digestOfRows_38 rfl ?_
      refine r_ialdN rfl dX5_digestOfRows_40 (by omega) (by omega) (g.2.1 k (by omega)).2 ?_
      refine r_i2l dX5_digestOfRows_41 rfl ?_
      refine r_ladd dX5_digestOfRows_42 ?_
      refine r_lstore_n (lv' := [(3, _), (5, _), (0, _)]) dX5_digestOfRows_43 (Nat.le_of_ble_eq_true rfl) rfl ?_
      refine r_iinc (v := _ + 1) (lv' := [(5, _), (3, _), (0, _)]) dX5_digestOfRows_44 rfl rfl (Nat.le_of_ble_eq_true rfl) rfl ?_
      refine r_goto (tgt := 5) dX5_digestOfRows_47 (by decide) ?_
      rw [nI_1]
      exact r_keep [5, 3, 0] rfl (ih (by omega))
  refine r_lload_n dX5_digestOfRows_0 rfl ?_
  refine r_lstore_n (lv' := [(3, _), (0, _), (1, _)]) dX5_digestOfRows_1 (Nat.le_of_ble_eq_true rfl) rfl ?_
  refine r_iconst (v := 0) dX5_digestOfRows_2 rfl ?_
  refine r_istore (lv' := [(5, _), (3, _), (0, _), (1, _)]) dX5_digestOfRows_3 (Nat.le_of_ble_eq_true rfl) rfl ?_
  exact r_keep [5, 3, 0] rfl (l1 0 (by omega))
theorem c_X10_countOf (s : pS) (α : Nat → Nat) (I : fdI) (L : fdL) (k : Nat) (hk : k < 7) (hs : stOk s) (hx : xSt 8 s I) : Con fd_SX α yX10_countOf mX10_countOf [.ref (α 0), .int (nI k)] I L (fd_is (some (.int (ctV s.1 s.2.1 s.2.2.1 s.2.2.2.1 s.2.2.2.2.1 s.2.2.2.2.2.1 (I 54 0) k))) I L) := by
  refine Con.of (by decide) rfl (Nat.le_of_ble_eq_true rfl) ?_
  by_cases h5 : k = 5
  · subst h5
    refine r_iload_n dX10_countOf_0 rfl ?_
    refine r_iconst (v := 5) dX10_countOf_1 rfl ?_
    refine r_icmp_ne 15 dX10_countOf_2 (by decide) (fun h2 => absurd h2 (by decide)) (fun h2 => ?_)
    refine r_aload_n dX10_countOf_5 rfl ?_
    refine r_getR rfl rfl fl_10_36 dX10_countOf_6 ?_
    refine r_getI rfl rfl fl_10_123 dX10_countOf_9 ?_
    refine r_goto (tgt := 23) dX10_countOf_12 (by decide) ?_
    refine r_iret rfl dX10_countOf_23 ?_
    exact fd_isI rfl rfl rfl
  · have e : ctX I s.2.1 s.2.2.1 s.2.2.2.1 s.2.2.2.2.1 s.2.2.2.2.2.1 k = ctV s.1 s.2.1 s.2.2.1 s.2.2.2.1 s.2.2.2.2.1 s.2.2.2.2.2.1 (I 54 0) k := by
      unfold ctX ctV
      rw [dyN_x hx]
      rcases (show k = 0 ∨ k = 1 ∨ k = 2 ∨ k = 3 ∨ k = 4 ∨ k = 6 by omega) with rfl | rfl | rfl | rfl | rfl | rfl <;> rfl
    refine r_iload_n dX10_countOf_0 rfl ?_
    refine r_iconst (v := 5) dX10_countOf_1 rfl ?_
    refine r_icmp_ne 15 dX10_countOf_2 (by decide) (fun h2 => ?_) (fun h2 => absurd h2 (fun q => h5 ((nI_eq (b := 5) (by omega) (by decide)).mp q)))
    refine r_aload_n dX10_countOf_15 rfl ?_
    refine r_getR rfl rfl fl_10_18 dX10_countOf_16 ?_
    refine r_iload_n dX10_countOf_19 rfl ?_
    refine r_cVr (As := [_]) (c_X5_countOfRow α _ _ k hk hx.n hs.n7 hx.num.1 hx.num.2.1 hx.num.2.2.1 hx.num.2.2.2.1) lk_10_267 rfl rfl (by decide) (by decide) rfl rfl (Nat.le_of_ble_eq_true rfl) dX10_countOf_20 ?_
    rw [e]
    refine r_iret rfl dX10_countOf_23 ?_
    exact fd_isI rfl rfl rfl
