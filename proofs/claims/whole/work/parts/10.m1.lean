/-! the model's small methods -/
theorem c_X11_in {S : List fdE} (α : Nat → Nat) (I : fdI) (L : fdL) (v a b : Int64) : Con S α yX11_in mX11_in [.long v, .long a, .long b] I L (fd_is (some (.int (fd_b (a ≤ v ∧ v ≤ b)))) I L) := by
  refine Con.of (by decide) rfl (Nat.le_of_ble_eq_true rfl) ?_
  refine r_lload_n dX11_in_0 rfl ?_
  refine r_lload_n dX11_in_1 rfl ?_
  refine r_lcmp dX11_in_2 ?_
  refine r_if_lt 17 dX11_in_3 (by decide) (fun h3 => ?_) (fun h3 => ?_)
  · refine r_iconst (v := 0) dX11_in_17 rfl ?_
    refine r_zret rfl (by decide) dX11_in_18 ?_
    rw [lg_cmp_lt, Int64.lt_iff_toInt_lt] at h3
    first | rw [lg_cmp_gt, Int64.lt_iff_toInt_lt] at h10 | skip
    first | exact fd_isi (by rw [fd_b_f (by rw [Int64.le_iff_toInt_le, Int64.le_iff_toInt_le]; omega)]) rfl rfl | exact fd_isi (by rw [fd_b_t (by rw [Int64.le_iff_toInt_le, Int64.le_iff_toInt_le]; omega)]) rfl rfl
  · refine r_lload_n dX11_in_6 rfl ?_
    refine r_lload dX11_in_7 rfl ?_
    refine r_lcmp dX11_in_9 ?_
    refine r_if_gt 17 dX11_in_10 (by decide) (fun h10 => ?_) (fun h10 => ?_)
    · refine r_iconst (v := 0) dX11_in_17 rfl ?_
      refine r_zret rfl (by decide) dX11_in_18 ?_
      rw [lg_cmp_lt, Int64.lt_iff_toInt_lt] at h3
      first | rw [lg_cmp_gt, Int64.lt_iff_toInt_lt] at h10 | skip
      first | exact fd_isi (by rw [fd_b_f (by rw [Int64.le_iff_toInt_le, Int64.le_iff_toInt_le]; omega)]) rfl rfl | exact fd_isi (by rw [fd_b_t (by rw [Int64.le_iff_toInt_le, Int64.le_iff_toInt_le]; omega)]) rfl rfl
    · refine r_iconst (v := 1) dX11_in_13 rfl ?_
      refine r_goto (tgt := 18) dX11_in_14 (by decide) ?_
      refine r_zret rfl (by decide) dX11_in_18 ?_
      rw [lg_cmp_lt, Int64.lt_iff_toInt_lt] at h3
      first | rw [lg_cmp_gt, Int64.lt_iff_toInt_lt] at h10 | skip
      first | exact fd_isi (by rw [fd_b_f (by rw [Int64.le_iff_toInt_le, Int64.le_iff_toInt_le]; omega)]) rfl rfl | exact fd_isi (by rw [fd_b_t (by rw [Int64.le_iff_toInt_le, Int64.le_iff_toInt_le]; omega)]) rfl rfl
theorem c_X11_isDay (α : Nat → Nat) (I : fdI) (L : fdL) (d : Int32) {n : Nat} (hn : I 0 1 = nI n) (hn7 : 1 ≤ n ∧ n ≤ 7) : Con fd_SM α yX11_isDay mX11_isDay [.ref (α 0), .int d] I L (fd_is (some (.int (fd_b (dayP d n)))) I L) := by
  refine Con.of (by decide) rfl (Nat.le_of_ble_eq_true rfl) ?_
  refine r_iload_n dX11_isDay_0 rfl ?_
  refine r_i2l dX11_isDay_1 rfl ?_
  refine r_lconst (v := 0) dX11_isDay_2 rfl ?_
  refine r_aload_n dX11_isDay_3 rfl ?_
  refine r_getI rfl rfl fl_11_93 dX11_isDay_4 ?_
  refine r_iconst (v := 1) dX11_isDay_7 rfl ?_
  refine r_isub dX11_isDay_8 ?_
  refine r_i2l dX11_isDay_9 rfl ?_
  refine r_cSr (As := [_, _, _]) (c_X11_in α _ _ _ _ _) lk_11_97 (by decide) (by decide) rfl rfl (Nat.le_of_ble_eq_true rfl) dX11_isDay_10 ?_
  refine r_zret rfl (fd_b01 _) dX11_isDay_13 ?_
  refine fd_isi ?_ rfl rfl
  rw [hn, show (0 : Int64) = (0 : Int32).toInt64 from rfl]
  obtain ⟨k, rfl⟩ : ∃ k, n = k + 1 := ⟨n - 1, by omega⟩
  rw [show nI (k + 1) - 1 = nI k from nI_pred k]
  unfold fd_b
  congr 1
  rw [i64_in, nI_toInt (by omega)]
  show ((0 : Int) ≤ _ ∧ _) = _
  apply propext
  constructor <;> (intro h; exact ⟨h.1, by have := h.2; omega⟩)
theorem c_X11_isFact {S : List fdE} (α : Nat → Nat) (I : fdI) (L : fdL) (f : Int32) : Con S α yX11_isFact mX11_isFact [.int f] I L (fd_is (some (.int (fd_b (dayP f 6)))) I L) := by
  refine Con.of (by decide) rfl (Nat.le_of_ble_eq_true rfl) ?_
  refine r_iload_n dX11_isFact_0 rfl ?_
  refine r_i2l dX11_isFact_1 rfl ?_
  refine r_lconst (v := 0) dX11_isFact_2 rfl ?_
  refine r_ldc2 (v := (5 : Int64)) (fd_in 1072 (by decide +kernel) (by decide +kernel)) dX11_isFact_3 ?_
  refine r_cSr (As := [_, _, _]) (c_X11_in α _ _ _ _ _) lk_11_97 (by decide) (by decide) rfl rfl (Nat.le_of_ble_eq_true rfl) dX11_isFact_6 ?_
  refine r_zret rfl (fd_b01 _) dX11_isFact_9 ?_
  refine fd_isi ?_ rfl rfl
  rw [show (0 : Int64) = (0 : Int32).toInt64 from rfl, show (5 : Int64) = (5 : Int32).toInt64 from rfl]
  unfold fd_b
  congr 1
  rw [i64_in]
  show ((0 : Int) ≤ _ ∧ _ ≤ (5 : Int)) = _
  apply propext
  constructor <;> (intro h; exact ⟨h.1, by have := h.2; omega⟩)
theorem c_X11_bad (α : Nat → Nat) (I : fdI) (L : fdL) (r : Int32) : Con fd_SM α yX11_bad mX11_bad [.ref (α 0), .int r] I L (fd_is (some (.int r)) (fd_up I 1 0 (I 1 0 + 1)) L) := by
  refine Con.of (by decide) rfl (Nat.le_of_ble_eq_true rfl) ?_
  refine r_aload_n dX11_bad_0 rfl ?_
  refine r_getR rfl rfl fl_11_7 dX11_bad_1 ?_
  refine r_iconst (v := 0) dX11_bad_4 rfl ?_
  refine r_dup2 dX11_bad_5 rfl rfl ?_
  refine r_iald rfl dX11_bad_6 (vp_in_iff.mpr (by decide)) ?_
  refine r_iconst (v := 1) dX11_bad_7 rfl ?_
  refine r_iadd dX11_bad_8 ?_
  refine r_iast rfl dX11_bad_9 (vp_in_iff.mpr (by decide)) ?_
  refine r_iload_n dX11_bad_10 rfl ?_
  refine r_iret rfl dX11_bad_11 ?_
  exact fd_isI rfl rfl rfl
theorem c_X11_no (α : Nat → Nat) (I : fdI) (L : fdL) : Con fd_SM α yX11_no mX11_no [.ref (α 0)] I L (fd_is (some (.int (-3))) (fd_up I 1 1 (I 1 1 + 1)) L) := by
  refine Con.of (by decide) rfl (Nat.le_of_ble_eq_true rfl) ?_
  refine r_aload_n dX11_no_0 rfl ?_
  refine r_getR rfl rfl fl_11_7 dX11_no_1 ?_
  refine r_iconst (v := 1) dX11_no_4 rfl ?_
  refine r_dup2 dX11_no_5 rfl rfl ?_
  refine r_iald rfl dX11_no_6 (vp_in_iff.mpr (by decide)) ?_
  refine r_iconst (v := 1) dX11_no_7 rfl ?_
  refine r_iadd dX11_no_8 ?_
  refine r_iast rfl dX11_no_9 (vp_in_iff.mpr (by decide)) ?_
  refine r_bipush (v := (-3)) dX11_no_10 rfl ?_
  refine r_iret rfl dX11_no_12 ?_
  exact fd_isI rfl rfl rfl
theorem c_X11_full (α : Nat → Nat) (I : fdI) (L : fdL) : Con fd_SM α yX11_full mX11_full [.ref (α 0)] I L (fd_is (some (.int (-4))) (fd_up I 1 2 (I 1 2 + 1)) L) := by
  refine Con.of (by decide) rfl (Nat.le_of_ble_eq_true rfl) ?_
  refine r_aload_n dX11_full_0 rfl ?_
  refine r_getR rfl rfl fl_11_7 dX11_full_1 ?_
  refine r_iconst (v := 2) dX11_full_4 rfl ?_
  refine r_dup2 dX11_full_5 rfl rfl ?_
  refine r_iald rfl dX11_full_6 (vp_in_iff.mpr (by decide)) ?_
  refine r_iconst (v := 1) dX11_full_7 rfl ?_
  refine r_iadd dX11_full_8 ?_
  refine r_iast rfl dX11_full_9 (vp_in_iff.mpr (by decide)) ?_
  refine r_bipush (v := (-4)) dX11_full_10 rfl ?_
  refine r_iret rfl dX11_full_12 ?_
  exact fd_isI rfl rfl rfl
