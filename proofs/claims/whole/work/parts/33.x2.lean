/-! the class: what is told to a life -/
theorem dayP_2 {d : Int32} {n : Nat} (hn : n < 2 ^ 31) (h0 : ¬ d < 0) (h1 : d < nI n) : dayP d n := ⟨Int.not_lt.mp (fun q => h0 (i_lt0.mpr q)), (i_ltN hn).mp h1⟩
theorem dayP_n0 {d : Int32} {n : Nat} (h : dayP d n) : ¬ d < 0 := fun q => absurd h.1 (by have := i_lt0.mp q; omega)
theorem dayP_lt {d : Int32} {n : Nat} (hn : n < 2 ^ 31) (h : dayP d n) : d < nI n := (i_ltN hn).mpr h.2
theorem dayP_nle {d : Int32} {n : Nat} (hn : n < 2 ^ 31) (h : dayP d n) : ¬ nI n ≤ d := fun q => absurd h.2 (by have := (i_leN hn).mp q; omega)
theorem c_X5_tellKind (α : Nat → Nat) (I : fdI) (L : fdL) (d kind : Int32) {n : Nat} (hn : I 8 0 = nI n) (hn7 : 1 ≤ n ∧ n ≤ 7) : Con fd_SX α yX5_tellKind mX5_tellKind [.ref (α 8), .int d, .int kind] I L (fd_is (some (.int (if dayP d n ∧ dayP kind 6 then I 9 d.toNatClampNeg else -2))) (if dayP d n ∧ dayP kind 6 then fd_up (fd_up I 9 d.toNatClampNeg kind) 8 6 0 else I) L) := by
  refine Con.of (by decide) rfl (Nat.le_of_ble_eq_true rfl) ?_
  by_cases hok : dayP d n ∧ dayP kind 6
  · rw [if_pos hok, if_pos hok]
    obtain ⟨j, hj, rfl⟩ := dayP_nI hok.1
    rw [nI_clamp (by omega)]
    refine r_aload_n dX5_tellKind_0 rfl ?_
    refine r_iload_n dX5_tellKind_1 rfl ?_
    refine r_cVr (As := [_]) (c_X5_hasDay α _ _ _ hn hn7) lk_5_81 rfl rfl (by decide) (by decide) rfl rfl (Nat.le_of_ble_eq_true rfl) dX5_tellKind_2 ?_
    refine r_if_eq 18 dX5_tellKind_5 (by decide) (fun h5 => absurd h5 (fd_bn.mpr hok.1)) (fun h5 => ?_)
    refine r_iload_n dX5_tellKind_8 rfl ?_
    refine r_if_lt 18 dX5_tellKind_9 (by decide) (fun h9 => absurd h9 (dayP_n0 hok.2)) (fun h9 => ?_)
    refine r_iload_n dX5_tellKind_12 rfl ?_
    refine r_bipush (v := 6) dX5_tellKind_13 rfl ?_
    refine r_icmp_lt 21 dX5_tellKind_15 (by decide) (fun h15 => ?_) (fun h15 => absurd h15 (not_not_intro (dayP_lt (n := 6) (by decide) hok.2)))
    refine r_aload_n dX5_tellKind_21 rfl ?_
    refine r_getR rfl rfl fl_5_9 dX5_tellKind_22 ?_
    refine r_iload_n dX5_tellKind_25 rfl ?_
    refine r_ialdN rfl dX5_tellKind_26 (by omega) (by omega) rfl ?_
    refine r_istore_n (lv' := [(3, _), (0, _), (1, _), (2, _)]) dX5_tellKind_27 (Nat.le_of_ble_eq_true rfl) rfl ?_
    refine r_aload_n dX5_tellKind_28 rfl ?_
    refine r_getR rfl rfl fl_5_9 dX5_tellKind_29 ?_
    refine r_iload_n dX5_tellKind_32 rfl ?_
    refine r_iload_n dX5_tellKind_33 rfl ?_
    refine r_iastN rfl dX5_tellKind_34 (by omega) (by omega) ?_
    refine r_aload_n dX5_tellKind_35 rfl ?_
    refine r_iconst (v := 0) dX5_tellKind_36 rfl ?_
    refine r_putI rfl rfl fl_5_65 fw_5_6 dX5_tellKind_37 ?_
    refine r_iload_n dX5_tellKind_40 rfl ?_
    refine r_iret rfl dX5_tellKind_41 ?_
    exact fd_isI rfl rfl rfl
  · rw [if_neg hok, if_neg hok]
    refine r_aload_n dX5_tellKind_0 rfl ?_
    refine r_iload_n dX5_tellKind_1 rfl ?_
    refine r_cVr (As := [_]) (c_X5_hasDay α _ _ _ hn hn7) lk_5_81 rfl rfl (by decide) (by decide) rfl rfl (Nat.le_of_ble_eq_true rfl) dX5_tellKind_2 ?_
    refine r_if_eq 18 dX5_tellKind_5 (by decide) (fun h5 => ?_) (fun h5 => ?_)
    · refine r_bipush (v := (-2)) dX5_tellKind_18 rfl ?_
      refine r_iret rfl dX5_tellKind_20 ?_
      exact fd_isI rfl rfl rfl
    · refine r_iload_n dX5_tellKind_8 rfl ?_
      refine r_if_lt 18 dX5_tellKind_9 (by decide) (fun h9 => ?_) (fun h9 => ?_)
      · refine r_bipush (v := (-2)) dX5_tellKind_18 rfl ?_
        refine r_iret rfl dX5_tellKind_20 ?_
        exact fd_isI rfl rfl rfl
      · refine r_iload_n dX5_tellKind_12 rfl ?_
        refine r_bipush (v := 6) dX5_tellKind_13 rfl ?_
        refine r_icmp_lt 21 dX5_tellKind_15 (by decide) (fun h15 => absurd h15 (fun q => hok ⟨fd_bn.mp h5, dayP_2 (n := 6) (by decide) h9 q⟩)) (fun h15 => ?_)
        refine r_bipush (v := (-2)) dX5_tellKind_18 rfl ?_
        refine r_iret rfl dX5_tellKind_20 ?_
        exact fd_isI rfl rfl rfl
theorem c_X5_tellPlace (α : Nat → Nat) (I : fdI) (L : fdL) (d k : Int32) {n : Nat} (hn : I 8 0 = nI n) (hn7 : 1 ≤ n ∧ n ≤ 7) : Con fd_SX α yX5_tellPlace mX5_tellPlace [.ref (α 8), .int d, .int k] I L (fd_is (some (.int (if dayP d n ∧ (k = -1 ∨ dayP k n) then I 12 d.toNatClampNeg else -2))) (if dayP d n ∧ (k = -1 ∨ dayP k n) then fd_up I 12 d.toNatClampNeg k else I) L) := by
  refine Con.of (by decide) rfl (Nat.le_of_ble_eq_true rfl) ?_
  by_cases hok : dayP d n ∧ (k = -1 ∨ dayP k n)
  · rw [if_pos hok, if_pos hok]
    obtain ⟨hok1, hok2⟩ := hok
    obtain ⟨j, hj, rfl⟩ := dayP_nI hok1
    rw [nI_clamp (by omega)]
    refine r_aload_n dX5_tellPlace_0 rfl ?_
    refine r_iload_n dX5_tellPlace_1 rfl ?_
    refine r_cVr (As := [_]) (c_X5_hasDay α _ _ _ hn hn7) lk_5_81 rfl rfl (by decide) (by decide) rfl rfl (Nat.le_of_ble_eq_true rfl) dX5_tellPlace_2 ?_
    refine r_if_eq 21 dX5_tellPlace_5 (by decide) (fun h5 => absurd h5 (fd_bn.mpr hok1)) (fun h5 => ?_)
    refine r_iload_n dX5_tellPlace_8 rfl ?_
    refine r_iconst (v := (-1)) dX5_tellPlace_9 rfl ?_
    refine r_icmp_eq 24 dX5_tellPlace_10 (by decide) (fun h10 => ?_) (fun h10 => ?_)
    · refine r_aload_n dX5_tellPlace_24 rfl ?_
      refine r_getR rfl rfl fl_5_21 dX5_tellPlace_25 ?_
      refine r_iload_n dX5_tellPlace_28 rfl ?_
      refine r_ialdN rfl dX5_tellPlace_29 (by omega) (by omega) rfl ?_
      refine r_istore_n (lv' := [(3, _), (0, _), (1, _), (2, _)]) dX5_tellPlace_30 (Nat.le_of_ble_eq_true rfl) rfl ?_
      refine r_aload_n dX5_tellPlace_31 rfl ?_
      refine r_getR rfl rfl fl_5_21 dX5_tellPlace_32 ?_
      refine r_iload_n dX5_tellPlace_35 rfl ?_
      refine r_iload_n dX5_tellPlace_36 rfl ?_
      refine r_iastN rfl dX5_tellPlace_37 (by omega) (by omega) ?_
      refine r_iload_n dX5_tellPlace_38 rfl ?_
      refine r_iret rfl dX5_tellPlace_39 ?_
      exact fd_isI rfl rfl rfl
    · refine r_aload_n dX5_tellPlace_13 rfl ?_
      refine r_iload_n dX5_tellPlace_14 rfl ?_
      refine r_cVr (As := [_]) (c_X5_hasDay α _ _ _ hn hn7) lk_5_81 rfl rfl (by decide) (by decide) rfl rfl (Nat.le_of_ble_eq_true rfl) dX5_tellPlace_15 ?_
      refine r_if_ne 24 dX5_tellPlace_18 (by decide) (fun h18 => ?_) (fun h18 => absurd h18 (fd_bn.mpr (hok2.resolve_left h10)))
      refine r_aload_n dX5_tellPlace_24 rfl ?_
      refine r_getR rfl rfl fl_5_21 dX5_tellPlace_25 ?_
      refine r_iload_n dX5_tellPlace_28 rfl ?_
      refine r_ialdN rfl dX5_tellPlace_29 (by omega) (by omega) rfl ?_
      refine r_istore_n (lv' := [(3, _), (0, _), (1, _), (2, _)]) dX5_tellPlace_30 (Nat.le_of_ble_eq_true rfl) rfl ?_
      refine r_aload_n dX5_tellPlace_31 rfl ?_
      refine r_getR rfl rfl fl_5_21 dX5_tellPlace_32 ?_
      refine r_iload_n dX5_tellPlace_35 rfl ?_
      refine r_iload_n dX5_tellPlace_36 rfl ?_
      refine r_iastN rfl dX5_tellPlace_37 (by omega) (by omega) ?_
      refine r_iload_n dX5_tellPlace_38 rfl ?_
      refine r_iret rfl dX5_tellPlace_39 ?_
      exact fd_isI rfl rfl rfl
  · rw [if_neg hok, if_neg hok]
    refine r_aload_n dX5_tellPlace_0 rfl ?_
    refine r_iload_n dX5_tellPlace_1 rfl ?_
    refine r_cVr (As := [_]) (c_X5_hasDay α _ _ _ hn hn7) lk_5_81 rfl rfl (by decide) (by decide) rfl rfl (Nat.le_of_ble_eq_true rfl) dX5_tellPlace_2 ?_
    refine r_if_eq 21 dX5_tellPlace_5 (by decide) (fun h5 => ?_) (fun h5 => ?_)
    · refine r_bipush (v := (-2)) dX5_tellPlace_21 rfl ?_
      refine r_iret rfl dX5_tellPlace_23 ?_
      exact fd_isI rfl rfl rfl
    · refine r_iload_n dX5_tellPlace_8 rfl ?_
      refine r_iconst (v := (-1)) dX5_tellPlace_9 rfl ?_
      refine r_icmp_eq 24 dX5_tellPlace_10 (by decide) (fun h10 => absurd h10 (fun q => hok ⟨fd_bn.mp h5, Or.inl q⟩)) (fun h10 => ?_)
      refine r_aload_n dX5_tellPlace_13 rfl ?_
      refine r_iload_n dX5_tellPlace_14 rfl ?_
      refine r_cVr (As := [_]) (c_X5_hasDay α _ _ _ hn hn7) lk_5_81 rfl rfl (by decide) (by decide) rfl rfl (Nat.le_of_ble_eq_true rfl) dX5_tellPlace_15 ?_
      refine r_if_ne 24 dX5_tellPlace_18 (by decide) (fun h18 => absurd h18 (not_not_intro (fd_b0.mpr (fun q => hok ⟨fd_bn.mp h5, Or.inr q⟩)))) (fun h18 => ?_)
      refine r_bipush (v := (-2)) dX5_tellPlace_21 rfl ?_
      refine r_iret rfl dX5_tellPlace_23 ?_
      exact fd_isI rfl rfl rfl
theorem setP_1 {k : Int32} (h1 : ¬ k < -1) (h2 : k ≤ 63) : setP k := by
  rw [Int32.lt_iff_toInt_lt] at h1
  rw [Int32.le_iff_toInt_le] at h2
  exact ⟨Int.not_lt.mp h1, Int.lt_of_le_of_lt h2 (by decide)⟩
theorem setP_2 {k : Int32} (h : setP k) : ¬ k < -1 := fun q => absurd (Int32.lt_iff_toInt_lt.mp q) (Int.not_lt.mpr h.1)
theorem setP_3 {k : Int32} (h : setP k) : k ≤ 63 := Int32.le_iff_toInt_le.mpr (Int.le_of_lt_add_one h.2)
theorem c_X5_tellDiary (α : Nat → Nat) (I : fdI) (L : fdL) (d k : Int32) {n : Nat} (hn : I 8 0 = nI n) (hn7 : 1 ≤ n ∧ n ≤ 7) : Con fd_SX α yX5_tellDiary mX5_tellDiary [.ref (α 8), .int d, .int k] I L (fd_is (some (.int (if dayP d n ∧ setP k then I 13 d.toNatClampNeg else -2))) (if dayP d n ∧ setP k then fd_up I 13 d.toNatClampNeg k else I) L) := by
  refine Con.of (by decide) rfl (Nat.le_of_ble_eq_true rfl) ?_
  by_cases hok : dayP d n ∧ setP k
  · rw [if_pos hok, if_pos hok]
    obtain ⟨j, hj, rfl⟩ := dayP_nI hok.1
    rw [nI_clamp (by omega)]
    refine r_aload_n dX5_tellDiary_0 rfl ?_
    refine r_iload_n dX5_tellDiary_1 rfl ?_
    refine r_cVr (As := [_]) (c_X5_hasDay α _ _ _ hn hn7) lk_5_81 rfl rfl (by decide) (by decide) rfl rfl (Nat.le_of_ble_eq_true rfl) dX5_tellDiary_2 ?_
    refine r_if_eq 19 dX5_tellDiary_5 (by decide) (fun h5 => absurd h5 (fd_bn.mpr hok.1)) (fun h5 => ?_)
    refine r_iload_n dX5_tellDiary_8 rfl ?_
    refine r_iconst (v := (-1)) dX5_tellDiary_9 rfl ?_
    refine r_icmp_lt 19 dX5_tellDiary_10 (by decide) (fun h10 => absurd h10 (setP_2 hok.2)) (fun h10 => ?_)
    refine r_iload_n dX5_tellDiary_13 rfl ?_
    refine r_bipush (v := 63) dX5_tellDiary_14 rfl ?_
    refine r_icmp_le 22 dX5_tellDiary_16 (by decide) (fun h16 => ?_) (fun h16 => absurd h16 (not_not_intro (setP_3 hok.2)))
    refine r_aload_n dX5_tellDiary_22 rfl ?_
    refine r_getR rfl rfl fl_5_24 dX5_tellDiary_23 ?_
    refine r_iload_n dX5_tellDiary_26 rfl ?_
    refine r_ialdN rfl dX5_tellDiary_27 (by omega) (by omega) rfl ?_
    refine r_istore_n (lv' := [(3, _), (0, _), (1, _), (2, _)]) dX5_tellDiary_28 (Nat.le_of_ble_eq_true rfl) rfl ?_
    refine r_aload_n dX5_tellDiary_29 rfl ?_
    refine r_getR rfl rfl fl_5_24 dX5_tellDiary_30 ?_
    refine r_iload_n dX5_tellDiary_33 rfl ?_
    refine r_iload_n dX5_tellDiary_34 rfl ?_
    refine r_iastN rfl dX5_tellDiary_35 (by omega) (by omega) ?_
    refine r_iload_n dX5_tellDiary_36 rfl ?_
    refine r_iret rfl dX5_tellDiary_37 ?_
    exact fd_isI rfl rfl rfl
  · rw [if_neg hok, if_neg hok]
    refine r_aload_n dX5_tellDiary_0 rfl ?_
    refine r_iload_n dX5_tellDiary_1 rfl ?_
    refine r_cVr (As := [_]) (c_X5_hasDay α _ _ _ hn hn7) lk_5_81 rfl rfl (by decide) (by decide) rfl rfl (Nat.le_of_ble_eq_true rfl) dX5_tellDiary_2 ?_
    refine r_if_eq 19 dX5_tellDiary_5 (by decide) (fun h5 => ?_) (fun h5 => ?_)
    · refine r_bipush (v := (-2)) dX5_tellDiary_19 rfl ?_
      refine r_iret rfl dX5_tellDiary_21 ?_
      exact fd_isI rfl rfl rfl
    · refine r_iload_n dX5_tellDiary_8 rfl ?_
      refine r_iconst (v := (-1)) dX5_tellDiary_9 rfl ?_
      refine r_icmp_lt 19 dX5_tellDiary_10 (by decide) (fun h10 => ?_) (fun h10 => ?_)
      · refine r_bipush (v := (-2)) dX5_tellDiary_19 rfl ?_
        refine r_iret rfl dX5_tellDiary_21 ?_
        exact fd_isI rfl rfl rfl
      · refine r_iload_n dX5_tellDiary_13 rfl ?_
        refine r_bipush (v := 63) dX5_tellDiary_14 rfl ?_
        refine r_icmp_le 22 dX5_tellDiary_16 (by decide) (fun h16 => absurd h16 (fun q => hok ⟨fd_bn.mp h5, setP_1 h10 q⟩)) (fun h16 => ?_)
        refine r_bipush (v := (-2)) dX5_tellDiary_19 rfl ?_
        refine r_iret rfl dX5_tellDiary_21 ?_
        exact fd_isI rfl rfl rfl
theorem c_X5_tellOrder (α : Nat → Nat) (I : fdI) (L : fdL) (r : Int32) {n : Nat} (hn : I 8 0 = nI n) (hn7 : 1 ≤ n ∧ n ≤ 7) : Con fd_SX α yX5_tellOrder mX5_tellOrder [.ref (α 8), .int r] I L (fd_is (some (.int (if dayP r (fac n) then I 8 4 else -2))) (if dayP r (fac n) then fd_up (fd_up I 8 4 r) 8 6 0 else I) L) := by
  refine Con.of (by decide) rfl (Nat.le_of_ble_eq_true rfl) ?_
  by_cases hok : dayP r (fac n)
  · rw [if_pos hok, if_pos hok]
    refine r_aload_n dX5_tellOrder_0 rfl ?_
    refine r_iload_n dX5_tellOrder_1 rfl ?_
    refine r_cVr (As := [_]) (c_X5_hasRank α _ _ _ hn hn7) lk_5_92 rfl rfl (by decide) (by decide) rfl rfl (Nat.le_of_ble_eq_true rfl) dX5_tellOrder_2 ?_
    refine r_if_ne 11 dX5_tellOrder_5 (by decide) (fun h5 => ?_) (fun h5 => absurd h5 (fd_bn.mpr hok))
    refine r_aload_n dX5_tellOrder_11 rfl ?_
    refine r_getI rfl rfl fl_5_59 dX5_tellOrder_12 ?_
    refine r_istore_n (lv' := [(2, _), (0, _), (1, _)]) dX5_tellOrder_15 (Nat.le_of_ble_eq_true rfl) rfl ?_
    refine r_aload_n dX5_tellOrder_16 rfl ?_
    refine r_iload_n dX5_tellOrder_17 rfl ?_
    refine r_putI rfl rfl fl_5_59 fw_5_4 dX5_tellOrder_18 ?_
    refine r_aload_n dX5_tellOrder_21 rfl ?_
    refine r_iconst (v := 0) dX5_tellOrder_22 rfl ?_
    refine r_putI rfl rfl fl_5_65 fw_5_6 dX5_tellOrder_23 ?_
    refine r_iload_n dX5_tellOrder_26 rfl ?_
    refine r_iret rfl dX5_tellOrder_27 ?_
    exact fd_isI rfl rfl rfl
  · rw [if_neg hok, if_neg hok]
    refine r_aload_n dX5_tellOrder_0 rfl ?_
    refine r_iload_n dX5_tellOrder_1 rfl ?_
    refine r_cVr (As := [_]) (c_X5_hasRank α _ _ _ hn hn7) lk_5_92 rfl rfl (by decide) (by decide) rfl rfl (Nat.le_of_ble_eq_true rfl) dX5_tellOrder_2 ?_
    refine r_if_ne 11 dX5_tellOrder_5 (by decide) (fun h5 => absurd h5 (not_not_intro (fd_b0.mpr hok))) (fun h5 => ?_)
    refine r_bipush (v := (-2)) dX5_tellOrder_8 rfl ?_
    refine r_iret rfl dX5_tellOrder_10 ?_
    exact fd_isI rfl rfl rfl
theorem c_X5_tellOther (α : Nat → Nat) (I : fdI) (L : fdL) (r : Int32) {n : Nat} (hn : I 8 0 = nI n) (hn7 : 1 ≤ n ∧ n ≤ 7) : Con fd_SX α yX5_tellOther mX5_tellOther [.ref (α 8), .int r] I L (fd_is (some (.int (if dayP r (fac n) then I 8 5 else -2))) (if dayP r (fac n) then fd_up I 8 5 r else I) L) := by
  refine Con.of (by decide) rfl (Nat.le_of_ble_eq_true rfl) ?_
  by_cases hok : dayP r (fac n)
  · rw [if_pos hok, if_pos hok]
    refine r_aload_n dX5_tellOther_0 rfl ?_
    refine r_iload_n dX5_tellOther_1 rfl ?_
    refine r_cVr (As := [_]) (c_X5_hasRank α _ _ _ hn hn7) lk_5_92 rfl rfl (by decide) (by decide) rfl rfl (Nat.le_of_ble_eq_true rfl) dX5_tellOther_2 ?_
    refine r_if_ne 11 dX5_tellOther_5 (by decide) (fun h5 => ?_) (fun h5 => absurd h5 (fd_bn.mpr hok))
    refine r_aload_n dX5_tellOther_11 rfl ?_
    refine r_getI rfl rfl fl_5_62 dX5_tellOther_12 ?_
    refine r_istore_n (lv' := [(2, _), (0, _), (1, _)]) dX5_tellOther_15 (Nat.le_of_ble_eq_true rfl) rfl ?_
    refine r_aload_n dX5_tellOther_16 rfl ?_
    refine r_iload_n dX5_tellOther_17 rfl ?_
    refine r_putI rfl rfl fl_5_62 fw_5_5 dX5_tellOther_18 ?_
    refine r_iload_n dX5_tellOther_21 rfl ?_
    refine r_iret rfl dX5_tellOther_22 ?_
    exact fd_isI rfl rfl rfl
  · rw [if_neg hok, if_neg hok]
    refine r_aload_n dX5_tellOther_0 rfl ?_
    refine r_iload_n dX5_tellOther_1 rfl ?_
    refine r_cVr (As := [_]) (c_X5_hasRank α _ _ _ hn hn7) lk_5_92 rfl rfl (by decide) (by decide) rfl rfl (Nat.le_of_ble_eq_true rfl) dX5_tellOther_2 ?_
    refine r_if_ne 11 dX5_tellOther_5 (by decide) (fun h5 => absurd h5 (not_not_intro (fd_b0.mpr hok))) (fun h5 => ?_)
    refine r_bipush (v := (-2)) dX5_tellOther_8 rfl ?_
    refine r_iret rfl dX5_tellOther_10 ?_
    exact fd_isI rfl rfl rfl
theorem c_X5_tellForNotes (α : Nat → Nat) (I : fdI) (L : fdL) (r : Int32) {n nt : Nat} (hn : I 8 0 = nI n) (hn7 : 1 ≤ n ∧ n ≤ 7) (hnt : I 8 3 = nI nt) (hn3 : nt ≤ 3) : Con fd_SX α yX5_tellForNotes mX5_tellForNotes [.ref (α 8), .int r] I L (fd_is (some (.int (toR n nt r))) (if dayP r (fac n) ∧ ¬ nt = 3 then fd_up (fd_up I 18 nt r) 8 3 (nI (nt + 1)) else I) L) := by
  refine Con.of (by decide) rfl (Nat.le_of_ble_eq_true rfl) ?_
  unfold toR
  by_cases hok : dayP r (fac n)
  · rw [if_pos hok]
    by_cases h3 : nt = 3
    · rw [if_pos h3, if_neg (fun q => q.2 h3)]
      subst h3
      refine r_aload_n dX5_tellForNotes_0 rfl ?_
      refine r_iload_n dX5_tellForNotes_1 rfl ?_
      refine r_cVr (As := [_]) (c_X5_hasRank α _ _ _ hn hn7) lk_5_92 rfl rfl (by decide) (by decide) rfl rfl (Nat.le_of_ble_eq_true rfl) dX5_tellForNotes_2 ?_
      refine r_if_ne 11 dX5_tellForNotes_5 (by decide) (fun h5 => ?_) (fun h5 => absurd h5 (fd_bn.mpr hok))
      refine r_aload_n dX5_tellForNotes_11 rfl ?_
      refine r_getV rfl rfl fl_5_56 dX5_tellForNotes_12 hnt ?_
      refine r_iconst (v := 3) dX5_tellForNotes_15 rfl ?_
      refine r_icmp_lt 22 dX5_tellForNotes_16 (by decide) (fun h16 => absurd h16 (by decide)) (fun h16 => ?_)
      refine r_bipush (v := (-4)) dX5_tellForNotes_19 rfl ?_
      refine r_iret rfl dX5_tellForNotes_21 ?_
      exact fd_isI rfl rfl rfl
    · rw [if_neg h3, if_pos ⟨hok, h3⟩]
      refine r_aload_n dX5_tellForNotes_0 rfl ?_
      refine r_iload_n dX5_tellForNotes_1 rfl ?_
      refine r_cVr (As := [_]) (c_X5_hasRank α _ _ _ hn hn7) lk_5_92 rfl rfl (by decide) (by decide) rfl rfl (Nat.le_of_ble_eq_true rfl) dX5_tellForNotes_2 ?_
      refine r_if_ne 11 dX5_tellForNotes_5 (by decide) (fun h5 => ?_) (fun h5 => absurd h5 (fd_bn.mpr hok))
      refine r_aload_n dX5_tellForNotes_11 rfl ?_
      refine r_getV rfl rfl fl_5_56 dX5_tellForNotes_12 hnt ?_
      refine r_iconst (v := 3) dX5_tellForNotes_15 rfl ?_
      refine r_icmp_lt 22 dX5_tellForNotes_16 (by decide) (fun h16 => ?_) (fun h16 => absurd h16 (not_not_intro ((nI_ltI (b := 3) (by omega) (by decide)).mpr (by omega))))
      refine r_aload_n dX5_tellForNotes_22 rfl ?_
      refine r_getR rfl rfl fl_5_39 dX5_tellForNotes_23 ?_
      refine r_aload_n dX5_tellForNotes_26 rfl ?_
      refine r_getV rfl rfl fl_5_56 dX5_tellForNotes_27 hnt ?_
      refine r_iload_n dX5_tellForNotes_30 rfl ?_
      refine r_iastN rfl dX5_tellForNotes_31 (by omega) (by omega) ?_
      refine r_aload_n dX5_tellForNotes_32 rfl ?_
      refine r_dup dX5_tellForNotes_33 rfl ?_
      refine r_getV rfl rfl fl_5_56 dX5_tellForNotes_34 hnt ?_
      refine r_dup_x1 dX5_tellForNotes_37 rfl rfl ?_
      refine r_iconst (v := 1) dX5_tellForNotes_38 rfl ?_
      refine r_iadd dX5_tellForNotes_39 ?_
      rw [nI_1]
      refine r_putI rfl rfl fl_5_56 fw_5_3 dX5_tellForNotes_40 ?_
      refine r_iret rfl dX5_tellForNotes_43 ?_
      exact fd_isI rfl rfl rfl
  · rw [if_neg hok, if_neg (fun q => hok q.1)]
    refine r_aload_n dX5_tellForNotes_0 rfl ?_
    refine r_iload_n dX5_tellForNotes_1 rfl ?_
    refine r_cVr (As := [_]) (c_X5_hasRank α _ _ _ hn hn7) lk_5_92 rfl rfl (by decide) (by decide) rfl rfl (Nat.le_of_ble_eq_true rfl) dX5_tellForNotes_2 ?_
    refine r_if_ne 11 dX5_tellForNotes_5 (by decide) (fun h5 => absurd h5 (not_not_intro (fd_b0.mpr hok))) (fun h5 => ?_)
    refine r_bipush (v := (-2)) dX5_tellForNotes_8 rfl ?_
    refine r_iret rfl dX5_tellForNotes_10 ?_
    exact fd_isI rfl rfl rfl
theorem c_X5_tellPair (α : Nat → Nat) (I : fdI) (L : fdL) (a b : Int32) {n np : Nat} (hn : I 8 0 = nI n) (hn7 : 1 ≤ n ∧ n ≤ 7) (hnp : I 8 2 = nI np) (hn6 : np ≤ 6) : Con fd_SX α yX5_tellPair mX5_tellPair [.ref (α 8), .int a, .int b] I L (fd_is (some (.int (ahR n np a b))) (if (dayP a n ∧ dayP b n ∧ ¬ a = b) ∧ ¬ np = 6 then fd_up (fd_up (fd_up I 16 np a) 17 np b) 8 2 (nI (np + 1)) else I) L) := by
  refine Con.of (by decide) rfl (Nat.le_of_ble_eq_true rfl) ?_
  unfold ahR
  by_cases hok : dayP a n ∧ dayP b n ∧ ¬ a = b
  · rw [if_pos hok]
    by_cases h6 : np = 6
    · rw [if_pos h6, if_neg (fun q => q.2 h6)]
      subst h6
      refine r_aload_n dX5_tellPair_0 rfl ?_
      refine r_iload_n dX5_tellPair_1 rfl ?_
      refine r_cVr (As := [_]) (c_X5_hasDay α _ _ _ hn hn7) lk_5_81 rfl rfl (by decide) (by decide) rfl rfl (Nat.le_of_ble_eq_true rfl) dX5_tellPair_2 ?_
      refine r_if_eq 21 dX5_tellPair_5 (by decide) (fun h5 => absurd h5 (fd_bn.mpr hok.1)) (fun h5 => ?_)
      refine r_aload_n dX5_tellPair_8 rfl ?_
      refine r_iload_n dX5_tellPair_9 rfl ?_
      refine r_cVr (As := [_]) (c_X5_hasDay α _ _ _ hn hn7) lk_5_81 rfl rfl (by decide) (by decide) rfl rfl (Nat.le_of_ble_eq_true rfl) dX5_tellPair_10 ?_
      refine r_if_eq 21 dX5_tellPair_13 (by decide) (fun h13 => absurd h13 (fd_bn.mpr hok.2.1)) (fun h13 => ?_)
      refine r_iload_n dX5_tellPair_16 rfl ?_
      refine r_iload_n dX5_tellPair_17 rfl ?_
      refine r_icmp_ne 24 dX5_tellPair_18 (by decide) (fun h18 => ?_) (fun h18 => absurd h18 hok.2.2)
      refine r_aload_n dX5_tellPair_24 rfl ?_
      refine r_getV rfl rfl fl_5_53 dX5_tellPair_25 hnp ?_
      refine r_bipush (v := 6) dX5_tellPair_28 rfl ?_
      refine r_icmp_lt 36 dX5_tellPair_30 (by decide) (fun h30 => absurd h30 (by decide)) (fun h30 => ?_)
      refine r_bipush (v := (-4)) dX5_tellPair_33 rfl ?_
      refine r_iret rfl dX5_tellPair_35 ?_
      exact fd_isI rfl rfl rfl
    · rw [if_neg h6, if_pos ⟨hok, h6⟩]
      refine r_aload_n dX5_tellPair_0 rfl ?_
      refine r_iload_n dX5_tellPair_1 rfl ?_
      refine r_cVr (As := [_]) (c_X5_hasDay α _ _ _ hn hn7) lk_5_81 rfl rfl (by decide) (by decide) rfl rfl (Nat.le_of_ble_eq_true rfl) dX5_tellPair_2 ?_
      refine r_if_eq 21 dX5_tellPair_5 (by decide) (fun h5 => absurd h5 (fd_bn.mpr hok.1)) (fun h5 => ?_)
      refine r_aload_n dX5_tellPair_8 rfl ?_
      refine r_iload_n dX5_tellPair_9 rfl ?_
      refine r_cVr (As := [_]) (c_X5_hasDay α _ _ _ hn hn7) lk_5_81 rfl rfl (by decide) (by decide) rfl rfl (Nat.le_of_ble_eq_true rfl) dX5_tellPair_10 ?_
      refine r_if_eq 21 dX5_tellPair_13 (by decide) (fun h13 => absurd h13 (fd_bn.mpr hok.2.1)) (fun h13 => ?_)
      refine r_iload_n dX5_tellPair_16 rfl ?_
      refine r_iload_n dX5_tellPair_17 rfl ?_
      refine r_icmp_ne 24 dX5_tellPair_18 (by decide) (fun h18 => ?_) (fun h18 => absurd h18 hok.2.2)
      refine r_aload_n dX5_tellPair_24 rfl ?_
      refine r_getV rfl rfl fl_5_53 dX5_tellPair_25 hnp ?_
      refine r_bipush (v := 6) dX5_tellPair_28 rfl ?_
      refine r_icmp_lt 36 dX5_tellPair_30 (by decide) (fun h30 => ?_) (fun h30 => absurd h30 (not_not_intro ((nI_ltI (b := 6) (by omega) (by decide)).mpr (by omega))))
      refine r_aload_n dX5_tellPair_36 rfl ?_
      refine r_getR rfl rfl fl_5_33 dX5_tellPair_37 ?_
      refine r_aload_n dX5_tellPair_40 rfl ?_
      refine r_getV rfl rfl fl_5_53 dX5_tellPair_41 hnp ?_
      refine r_iload_n dX5_tellPair_44 rfl ?_
      refine r_iastN rfl dX5_tellPair_45 (by omega) (by omega) ?_
      refine r_aload_n dX5_tellPair_46 rfl ?_
      refine r_getR rfl rfl fl_5_36 dX5_tellPair_47 ?_
      refine r_aload_n dX5_tellPair_50 rfl ?_
      refine r_getV rfl rfl fl_5_53 dX5_tellPair_51 hnp ?_
      refine r_iload_n dX5_tellPair_54 rfl ?_
      refine r_iastN rfl dX5_tellPair_55 (by omega) (by omega) ?_
      refine r_aload_n dX5_tellPair_56 rfl ?_
      refine r_dup dX5_tellPair_57 rfl ?_
      refine r_getV rfl rfl fl_5_53 dX5_tellPair_58 hnp ?_
      refine r_dup_x1 dX5_tellPair_61 rfl rfl ?_
      refine r_iconst (v := 1) dX5_tellPair_62 rfl ?_
      refine r_iadd dX5_tellPair_63 ?_
      rw [nI_1]
      refine r_putI rfl rfl fl_5_53 fw_5_2 dX5_tellPair_64 ?_
      refine r_iret rfl dX5_tellPair_67 ?_
      exact fd_isI rfl rfl rfl
  · rw [if_neg hok, if_neg (fun q => hok q.1)]
    refine r_aload_n dX5_tellPair_0 rfl ?_
    refine r_iload_n dX5_tellPair_1 rfl ?_
    refine r_cVr (As := [_]) (c_X5_hasDay α _ _ _ hn hn7) lk_5_81 rfl rfl (by decide) (by decide) rfl rfl (Nat.le_of_ble_eq_true rfl) dX5_tellPair_2 ?_
    refine r_if_eq 21 dX5_tellPair_5 (by decide) (fun h5 => ?_) (fun h5 => ?_)
    · refine r_bipush (v := (-2)) dX5_tellPair_21 rfl ?_
      refine r_iret rfl dX5_tellPair_23 ?_
      exact fd_isI rfl rfl rfl
    · refine r_aload_n dX5_tellPair_8 rfl ?_
      refine r_iload_n dX5_tellPair_9 rfl ?_
      refine r_cVr (As := [_]) (c_X5_hasDay α _ _ _ hn hn7) lk_5_81 rfl rfl (by decide) (by decide) rfl rfl (Nat.le_of_ble_eq_true rfl) dX5_tellPair_10 ?_
      refine r_if_eq 21 dX5_tellPair_13 (by decide) (fun h13 => ?_) (fun h13 => ?_)
      · refine r_bipush (v := (-2)) dX5_tellPair_21 rfl ?_
        refine r_iret rfl dX5_tellPair_23 ?_
        exact fd_isI rfl rfl rfl
      · refine r_iload_n dX5_tellPair_16 rfl ?_
        refine r_iload_n dX5_tellPair_17 rfl ?_
        refine r_icmp_ne 24 dX5_tellPair_18 (by decide) (fun h18 => absurd h18 (fun q => hok ⟨fd_bn.mp h5, fd_bn.mp h13, q⟩)) (fun h18 => ?_)
        refine r_bipush (v := (-2)) dX5_tellPair_21 rfl ?_
        refine r_iret rfl dX5_tellPair_23 ?_
        exact fd_isI rfl rfl rfl
