/-! the class: status, part, undo, clear, type -/
theorem c_X10_status (α : Nat → Nat) (I : fdI) (L : fdL) (w : Int32) : Con fd_SX α yX10_status mX10_status [.ref (α 0), .int w] I L (fd_is (some (.int (if dayP w 3 then I 76 w.toNatClampNeg else -1))) (if dayP w 3 then I else xBad I) L) := by
  refine Con.of (by decide) rfl (Nat.le_of_ble_eq_true rfl) ?_
  by_cases hok : dayP w 3
  · rw [if_pos hok, if_pos hok]
    obtain ⟨j, hj, rfl⟩ := dayP_nI hok
    have g0 := dayP_n0 hok
    have g1 := dayP_lt (by decide) hok
    rw [nI_clamp (by omega)]
    refine r_iload_n dX10_status_0 rfl ?_
    refine r_if_lt 13 dX10_status_1 (by decide) (fun h1 => absurd h1 g0) (fun h1 => ?_)
    refine r_iload_n dX10_status_4 rfl ?_
    refine r_aload_n dX10_status_5 rfl ?_
    refine r_getR rfl rfl fl_10_61 dX10_status_6 ?_
    refine r_alen rfl (fun _ => rfl) dX10_status_9 ?_
    refine r_icmp_lt 19 dX10_status_10 (by decide) (fun h10 => ?_) (fun h10 => absurd h10 (not_not_intro g1))
    refine r_aload_n dX10_status_19 rfl ?_
    refine r_getR rfl rfl fl_10_61 dX10_status_20 ?_
    refine r_iload_n dX10_status_23 rfl ?_
    refine r_ialdN rfl dX10_status_24 hj (by omega) rfl ?_
    refine r_iret rfl dX10_status_25 ?_
    exact fd_isI rfl rfl rfl
  · rw [if_neg hok, if_neg hok]
    refine r_iload_n dX10_status_0 rfl ?_
    refine r_if_lt 13 dX10_status_1 (by decide) (fun h1 => ?_) (fun h1 => ?_)
    · refine r_aload_n dX10_status_13 rfl ?_
      refine r_iconst (v := (-1)) dX10_status_14 rfl ?_
      refine r_cVr (As := [_]) (c_X10_badAs α _ _ _) lk_10_111 rfl rfl (by decide) (by decide) rfl rfl (Nat.le_of_ble_eq_true rfl) dX10_status_15 ?_
      refine r_iret rfl dX10_status_18 ?_
      exact fd_isI rfl rfl rfl
    · refine r_iload_n dX10_status_4 rfl ?_
      refine r_aload_n dX10_status_5 rfl ?_
      refine r_getR rfl rfl fl_10_61 dX10_status_6 ?_
      refine r_alen rfl (fun _ => rfl) dX10_status_9 ?_
      refine r_icmp_lt 19 dX10_status_10 (by decide) (fun h10 => absurd h10 (fun q => hok (dayP_2 (n := 3) (by decide) h1 q))) (fun h10 => ?_)
      refine r_aload_n dX10_status_13 rfl ?_
      refine r_iconst (v := (-1)) dX10_status_14 rfl ?_
      refine r_cVr (As := [_]) (c_X10_badAs α _ _ _) lk_10_111 rfl rfl (by decide) (by decide) rfl rfl (Nat.le_of_ble_eq_true rfl) dX10_status_15 ?_
      refine r_iret rfl dX10_status_18 ?_
      exact fd_isI rfl rfl rfl
theorem c_X10_part (α : Nat → Nat) (I : fdI) (L : fdL) (w : Int32) : Con fd_SX α yX10_part mX10_part [.ref (α 0), .int w] I L (fd_is (some (.long (if dayP w 2 then (if w = 0 then L 0 11 else L 0 12) else -2))) (if dayP w 2 then I else xBad I) L) := by
  refine Con.of (by decide) rfl (Nat.le_of_ble_eq_true rfl) ?_
  by_cases hok : dayP w 2
  · rw [if_pos hok, if_pos hok]
    obtain ⟨j, hj, rfl⟩ := dayP_nI hok
    have g0 := dayP_n0 hok
    have g1 : nI j ≤ 1 := (nI_leI (b := 1) (by omega) (by decide)).mpr (by omega)
    by_cases hz : nI j = 0
    · rw [if_pos hz]
      refine r_iload_n dX10_part_0 rfl ?_
      refine r_if_lt 9 dX10_part_1 (by decide) (fun h1 => absurd h1 g0) (fun h1 => ?_)
      refine r_iload_n dX10_part_4 rfl ?_
      refine r_iconst (v := 1) dX10_part_5 rfl ?_
      refine r_icmp_le 17 dX10_part_6 (by decide) (fun h6 => ?_) (fun h6 => absurd h6 (not_not_intro g1))
      refine r_iload_n dX10_part_17 rfl ?_
      refine r_if_ne 28 dX10_part_18 (by decide) (fun h18 => absurd h18 (not_not_intro hz)) (fun h18 => ?_)
      refine r_aload_n dX10_part_21 rfl ?_
      refine r_getJ rfl rfl fl_10_64 dX10_part_22 ?_
      refine r_goto (tgt := 32) dX10_part_25 (by decide) ?_
      refine r_lret rfl dX10_part_32 ?_
      exact fd_isI rfl rfl rfl
    · rw [if_neg hz]
      refine r_iload_n dX10_part_0 rfl ?_
      refine r_if_lt 9 dX10_part_1 (by decide) (fun h1 => absurd h1 g0) (fun h1 => ?_)
      refine r_iload_n dX10_part_4 rfl ?_
      refine r_iconst (v := 1) dX10_part_5 rfl ?_
      refine r_icmp_le 17 dX10_part_6 (by decide) (fun h6 => ?_) (fun h6 => absurd h6 (not_not_intro g1))
      refine r_iload_n dX10_part_17 rfl ?_
      refine r_if_ne 28 dX10_part_18 (by decide) (fun h18 => ?_) (fun h18 => absurd h18 hz)
      refine r_aload_n dX10_part_28 rfl ?_
      refine r_getJ rfl rfl fl_10_68 dX10_part_29 ?_
      refine r_lret rfl dX10_part_32 ?_
      exact fd_isI rfl rfl rfl
  · rw [if_neg hok, if_neg hok]
    refine r_iload_n dX10_part_0 rfl ?_
    refine r_if_lt 9 dX10_part_1 (by decide) (fun h1 => ?_) (fun h1 => ?_)
    · refine r_aload_n dX10_part_9 rfl ?_
      refine r_bipush (v := (-2)) dX10_part_10 rfl ?_
      refine r_cVr (As := [_]) (c_X10_counted α _ _ _) lk_10_91 rfl rfl (by decide) (by decide) rfl rfl (Nat.le_of_ble_eq_true rfl) dX10_part_12 ?_
      refine r_i2l dX10_part_15 rfl ?_
      refine r_lret rfl dX10_part_16 ?_
      exact fd_isI rfl rfl rfl
    · refine r_iload_n dX10_part_4 rfl ?_
      refine r_iconst (v := 1) dX10_part_5 rfl ?_
      refine r_icmp_le 17 dX10_part_6 (by decide) (fun h6 => absurd h6 (fun q => hok ⟨Int.not_lt.mp (fun z => h1 (i_lt0.mpr z)), Int.lt_of_le_of_lt (Int32.le_iff_toInt_le.mp q) (by decide)⟩)) (fun h6 => ?_)
      refine r_aload_n dX10_part_9 rfl ?_
      refine r_bipush (v := (-2)) dX10_part_10 rfl ?_
      refine r_cVr (As := [_]) (c_X10_counted α _ _ _) lk_10_91 rfl rfl (by decide) (by decide) rfl rfl (Nat.le_of_ble_eq_true rfl) dX10_part_12 ?_
      refine r_i2l dX10_part_15 rfl ?_
      refine r_lret rfl dX10_part_16 ?_
      exact fd_isI rfl rfl rfl
def o_undo (s : pS) : oT := if s.2.2.2.2.2.2.2 = 0 then (-3, s, 1) else (nI (s.2.2.2.2.2.2.2 - 1), opLive s (s.2.2.2.2.2.2.2 - 1), 3)
theorem c_X10_undo (s : pS) (α : Nat → Nat) (I : fdI) (L : fdL) (hs : stOk s) (hx : xSt 8 s I) : Con fd_SX α yX10_undo mX10_undo [.ref (α 0)] I L (fd_ip (xOut (o_undo s) I L)) := by
  refine Con.of (by decide) rfl (Nat.le_of_ble_eq_true rfl) ?_
  unfold o_undo
  have hn7 := hs.n7
  have hly := hs.num.2.2.2.2.2
  have e := hx.num.2.2.2.2.2
  by_cases hz : s.2.2.2.2.2.2.2 = 0
  · rw [if_pos hz]
    rw [hz] at e
    refine r_aload_n dX10_undo_0 rfl ?_
    refine r_getR rfl rfl fl_10_18 dX10_undo_1 ?_
    refine r_getV rfl rfl fl_10_247 dX10_undo_4 e ?_
    refine r_if_gt 17 dX10_undo_7 (by decide) (fun h7 => absurd h7 (by decide)) (fun h7 => ?_)
    refine r_aload_n dX10_undo_10 rfl ?_
    refine r_bipush (v := (-3)) dX10_undo_11 rfl ?_
    refine r_cVr (As := [_]) (c_X10_counted α _ _ _) lk_10_91 rfl rfl (by decide) (by decide) rfl rfl (Nat.le_of_ble_eq_true rfl) dX10_undo_13 ?_
    refine r_iret rfl dX10_undo_16 ?_
    exact ⟨_, rfl, xOut.cn hx xFr.rfl' rfl rfl⟩
  · rw [if_neg hz]
    obtain ⟨m, hm⟩ : ∃ m, s.2.2.2.2.2.2.2 = m + 1 := ⟨s.2.2.2.2.2.2.2 - 1, by omega⟩
    have em : s.2.2.2.2.2.2.2 - 1 = m := by omega
    rw [em]
    rw [hm] at e
    refine r_aload_n dX10_undo_0 rfl ?_
    refine r_getR rfl rfl fl_10_18 dX10_undo_1 ?_
    refine r_getV rfl rfl fl_10_247 dX10_undo_4 e ?_
    refine r_if_gt 17 dX10_undo_7 (by decide) (fun h7 => ?_) (fun h7 => absurd h7 (not_not_intro ((nI_ltI (a := 0) (by decide) (by omega)).mpr (by omega))))
    refine r_aload_n dX10_undo_17 rfl ?_
    refine r_getR rfl rfl fl_10_18 dX10_undo_18 ?_
    refine r_dup dX10_undo_21 rfl ?_
    refine r_getV rfl rfl fl_10_247 dX10_undo_22 e ?_
    refine r_iconst (v := 1) dX10_undo_25 rfl ?_
    refine r_isub dX10_undo_26 ?_
    rw [nI_pred]
    refine r_putI rfl rfl fl_10_247 fw_5_6 dX10_undo_27 ?_
    refine r_aload_n dX10_undo_30 rfl ?_
    refine r_getR rfl rfl fl_10_18 dX10_undo_31 ?_
    refine r_getI rfl rfl fl_10_247 dX10_undo_34 ?_
    refine r_iret rfl dX10_undo_37 ?_
    refine ⟨_, rfl, ?_⟩
    rw [fd_up_same]
    exact xOut.none hx.live (xFr.rfl'.up (by decide)) rfl
theorem c_X10_clear (α : Nat → Nat) (I : fdI) (L : fdL) : Con fd_SX α yX10_clear mX10_clear [.ref (α 0)] I L (fd_is (some (.int (I 54 0))) (fd_up I 54 0 0) L) := by
  refine Con.of (by decide) rfl (Nat.le_of_ble_eq_true rfl) ?_
  refine r_aload_n dX10_clear_0 rfl ?_
  refine r_getR rfl rfl fl_10_36 dX10_clear_1 ?_
  refine r_getI rfl rfl fl_10_123 dX10_clear_4 ?_
  refine r_istore_n (lv' := [(1, _), (0, _)]) dX10_clear_7 (Nat.le_of_ble_eq_true rfl) rfl ?_
  refine r_aload_n dX10_clear_8 rfl ?_
  refine r_getR rfl rfl fl_10_36 dX10_clear_9 ?_
  refine r_iconst (v := 0) dX10_clear_12 rfl ?_
  refine r_putI rfl rfl fl_10_123 fw_9_0 dX10_clear_13 ?_
  refine r_iload_n dX10_clear_16 rfl ?_
  refine r_iret rfl dX10_clear_17 ?_
  exact fd_isI rfl rfl rfl
