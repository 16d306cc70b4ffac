/-! the model: what is told, on -/
def isNB (I : fdI) (d f : Int32) (k : Nat) : Bool := I 7 k = d && I 8 k = f
theorem c_X11_isNote (α : Nat → Nat) (I : fdI) (L : fdL) (d f : Int32) {nn : Nat} (hnn : I 0 7 = nI nn) (hn6 : nn ≤ 6) : Con fd_SM α yX11_isNote mX11_isNote [.ref (α 0), .int d, .int f] I L (fd_is (some (.int (fd_b (orB (isNB I d f) nn = true)))) I L) := by
  refine Con.of (by decide) rfl (Nat.le_of_ble_eq_true rfl) ?_
  have loop : ∀ k, k ≤ nn → Rn fd_SM α mX11_isNote 5 [(4, .int (nI k)), (3, .int (fd_b (orB (isNB I d f) k = true))), (0, .ref (α 0)), (1, .int d), (2, .int f)] [] I L (fd_is (some (.int (fd_b (orB (isNB I d f) nn = true)))) I L) := by
    refine fd_down (fun k hk ih => ?_)
    have jn : ∀ (b : Int32), b = fd_b (orB (isNB I d f) (k + 1) = true) → k < nn → Rn fd_SM α mX11_isNote 45 [(4, .int (nI k)), (0, .ref (α 0)), (1, .int d), (2, .int f)] [.int b] I L (fd_is (some (.int (fd_b (orB (isNB I d f) nn = true)))) I L) := by
      intro b hb hkn
      subst hb
      refine r_istore_n (lv' := [(3, _), (4, _), (0, _), (1, _), (2, _)]) dX11_isNote_45 (Nat.le_of_ble_eq_true rfl) rfl ?_
      refine r_iinc (v := _ + 1) (lv' := [(4, _), (3, _), (0, _), (1, _), (2, _)]) dX11_isNote_46 rfl rfl (Nat.le_of_ble_eq_true rfl) rfl ?_
      refine r_goto (tgt := 5) dX11_isNote_49 (by decide) ?_
      rw [nI_1]
      exact r_keep [4, 3, 0, 1, 2] rfl (ih hkn)
    refine r_iload dX11_isNote_5 rfl ?_
    refine r_aload_n dX11_isNote_7 rfl ?_
    refine r_getV rfl rfl fl_11_103 dX11_isNote_8 hnn ?_
    refine r_icmp_ge 52 dX11_isNote_11 (by decide) (fun h11 => ?_) (fun h11 => ?_)
    · have hh := (nI_leI (by omega) (by omega)).mp h11
      have e : k = nn := by omega
      subst e
      refine r_iload_n dX11_isNote_52 rfl ?_
      refine r_zret rfl (fd_b01 _) dX11_isNote_53 ?_
      exact fd_isI rfl rfl rfl
    · have hh : k < nn := Nat.lt_of_not_le fun q => h11 ((nI_leI (by omega) (by omega)).mpr q)
      refine r_iload_n dX11_isNote_14 rfl ?_
      refine r_if_ne 40 dX11_isNote_15 (by decide) (fun h15 => ?_) (fun h15 => ?_)
      · have ev : (1 : Int32) = fd_b (orB (isNB I d f) (k + 1) = true) := (fd_b_t (by have q1 := fd_bn.mp h15; simp [orB, q1])).symm
        refine r_iconst (v := 1) dX11_isNote_40 rfl ?_
        refine r_goto (tgt := 45) dX11_isNote_41 (by decide) ?_
        exact r_keep [4, 0, 1, 2] rfl (jn _ ev hh)
      · have q1 := fd_b0.mp h15
        refine r_aload_n dX11_isNote_18 rfl ?_
        refine r_getR rfl rfl fl_11_28 dX11_isNote_19 ?_
        refine r_iload dX11_isNote_22 rfl ?_
        refine r_ialdN rfl dX11_isNote_24 (by omega) (by omega) rfl ?_
        refine r_iload_n dX11_isNote_25 rfl ?_
        refine r_icmp_ne 44 dX11_isNote_26 (by decide) (fun h26 => ?_) (fun h26 => ?_)
        · have ev : (0 : Int32) = fd_b (orB (isNB I d f) (k + 1) = true) := (fd_b_f (by simp [orB, isNB, h26, q1])).symm
          refine r_iconst (v := 0) dX11_isNote_44 rfl ?_
          exact r_keep [4, 0, 1, 2] rfl (jn _ ev hh)
        · refine r_aload_n dX11_isNote_29 rfl ?_
          refine r_getR rfl rfl fl_11_31 dX11_isNote_30 ?_
          refine r_iload dX11_isNote_33 rfl ?_
          refine r_ialdN rfl dX11_isNote_35 (by omega) (by omega) rfl ?_
          refine r_iload_n dX11_isNote_36 rfl ?_
          refine r_icmp_ne 44 dX11_isNote_37 (by decide) (fun h37 => ?_) (fun h37 => ?_)
          · have ev : (0 : Int32) = fd_b (orB (isNB I d f) (k + 1) = true) := (fd_b_f (by simp [orB, isNB, h37, q1])).symm
            refine r_iconst (v := 0) dX11_isNote_44 rfl ?_
            exact r_keep [4, 0, 1, 2] rfl (jn _ ev hh)
          · have ev : (1 : Int32) = fd_b (orB (isNB I d f) (k + 1) = true) := (fd_b_t (by simp [orB, isNB, h26, h37])).symm
            refine r_iconst (v := 1) dX11_isNote_40 rfl ?_
            refine r_goto (tgt := 45) dX11_isNote_41 (by decide) ?_
            exact r_keep [4, 0, 1, 2] rfl (jn _ ev hh)
  refine r_iconst (v := 0) dX11_isNote_0 rfl ?_
  refine r_istore_n (lv' := [(3, _), (0, _), (1, _), (2, _)]) dX11_isNote_1 (Nat.le_of_ble_eq_true rfl) rfl ?_
  refine r_iconst (v := 0) dX11_isNote_2 rfl ?_
  refine r_istore (lv' := [(4, _), (3, _), (0, _), (1, _), (2, _)]) dX11_isNote_3 (Nat.le_of_ble_eq_true rfl) rfl ?_
  exact r_keep [4, 3, 0, 1, 2] rfl (loop 0 (by omega))
/-- the answer and the cells of note -/
def ntR (I : fdI) (n nn : Nat) (d f : Int32) : Int32 := if dayP d n ∧ dayP f 6 then (if orB (isNB I d f) nn = true then -3 else if nn = 6 then -4 else nI nn) else -2
def ntI (I : fdI) (n nn : Nat) (d f : Int32) : fdI := if dayP d n ∧ dayP f 6 then (if orB (isNB I d f) nn = true then mNo I else if nn = 6 then mFull I else fd_up (fd_up (fd_up (fd_up I 7 nn d) 8 nn f) 0 7 (nI (nn + 1))) 0 17 0) else mBad I
theorem c_X11_note (α : Nat → Nat) (I : fdI) (L : fdL) (d f : Int32) {n nn : Nat} (hn : I 0 1 = nI n) (hn7 : 1 ≤ n ∧ n ≤ 7) (hnn : I 0 7 = nI nn) (hn6 : nn ≤ 6) : Con fd_SM α yX11_note mX11_note [.ref (α 0), .int d, .int f] I L (fd_is (some (.int (ntR I n nn d f))) (ntI I n nn d f) L) := by
  refine Con.of (by decide) rfl (Nat.le_of_ble_eq_true rfl) ?_
  unfold ntR ntI
  by_cases hok : dayP d n ∧ dayP f 6
  · rw [if_pos hok, if_pos hok]
    by_cases hq : orB (isNB I d f) nn = true
    · rw [if_pos hq, if_pos hq]
      refine r_aload_n dX11_note_0 rfl ?_
      refine r_iload_n dX11_note_1 rfl ?_
      refine r_cVr (As := [_]) (c_X11_isDay α _ _ _ hn hn7) lk_11_124 rfl rfl (by decide) (by decide) rfl rfl (Nat.le_of_ble_eq_true rfl) dX11_note_2 ?_
      refine r_if_eq 15 dX11_note_5 (by decide) (fun h5 => absurd h5 (fd_bn.mpr hok.1)) (fun h5 => ?_)
      refine r_iload_n dX11_note_8 rfl ?_
      refine r_cSr (As := [_]) (c_X11_isFact α _ _ _) lk_11_128 (by decide) (by decide) rfl rfl (Nat.le_of_ble_eq_true rfl) dX11_note_9 ?_
      refine r_if_ne 22 dX11_note_12 (by decide) (fun h12 => ?_) (fun h12 => absurd h12 (fd_bn.mpr hok.2))
      refine r_aload_n dX11_note_22 rfl ?_
      refine r_iload_n dX11_note_23 rfl ?_
      refine r_iload_n dX11_note_24 rfl ?_
      refine r_cVr (As := [_, _]) (c_X11_isNote α _ _ _ _ hnn hn6) lk_11_135 rfl rfl (by decide) (by decide) rfl rfl (Nat.le_of_ble_eq_true rfl) dX11_note_25 ?_
      refine r_if_eq 36 dX11_note_28 (by decide) (fun h28 => absurd h28 (fd_bn.mpr hq)) (fun h28 => ?_)
      refine r_aload_n dX11_note_31 rfl ?_
      refine r_cVr (As := []) (c_X11_no α _ _) lk_11_131 rfl rfl (by decide) (by decide) rfl rfl (Nat.le_of_ble_eq_true rfl) dX11_note_32 ?_
      refine r_iret rfl dX11_note_35 ?_
      exact fd_isI rfl rfl rfl
    · rw [if_neg hq, if_neg hq]
      by_cases h6 : nn = 6
      · rw [if_pos h6, if_pos h6]
        subst h6
        refine r_aload_n dX11_note_0 rfl ?_
        refine r_iload_n dX11_note_1 rfl ?_
        refine r_cVr (As := [_]) (c_X11_isDay α _ _ _ hn hn7) lk_11_124 rfl rfl (by decide) (by decide) rfl rfl (Nat.le_of_ble_eq_true rfl) dX11_note_2 ?_
        refine r_if_eq 15 dX11_note_5 (by decide) (fun h5 => absurd h5 (fd_bn.mpr hok.1)) (fun h5 => ?_)
        refine r_iload_n dX11_note_8 rfl ?_
        refine r_cSr (As := [_]) (c_X11_isFact α _ _ _) lk_11_128 (by decide) (by decide) rfl rfl (Nat.le_of_ble_eq_true rfl) dX11_note_9 ?_
        refine r_if_ne 22 dX11_note_12 (by decide) (fun h12 => ?_) (fun h12 => absurd h12 (fd_bn.mpr hok.2))
        refine r_aload_n dX11_note_22 rfl ?_
        refine r_iload_n dX11_note_23 rfl ?_
        refine r_iload_n dX11_note_24 rfl ?_
        refine r_cVr (As := [_, _]) (c_X11_isNote α _ _ _ _ hnn hn6) lk_11_135 rfl rfl (by decide) (by decide) rfl rfl (Nat.le_of_ble_eq_true rfl) dX11_note_25 ?_
        refine r_if_eq 36 dX11_note_28 (by decide) (fun h28 => ?_) (fun h28 => absurd h28 (not_not_intro (fd_b0.mpr hq)))
        refine r_aload_n dX11_note_36 rfl ?_
        refine r_getV rfl rfl fl_11_103 dX11_note_37 hnn ?_
        refine r_bipush (v := 6) dX11_note_40 rfl ?_
        refine r_icmp_ne 50 dX11_note_42 (by decide) (fun h42 => absurd h42 (not_not_intro rfl)) (fun h42 => ?_)
        refine r_aload_n dX11_note_45 rfl ?_
        refine r_cVr (As := []) (c_X11_full α _ _) lk_11_139 rfl rfl (by decide) (by decide) rfl rfl (Nat.le_of_ble_eq_true rfl) dX11_note_46 ?_
        refine r_iret rfl dX11_note_49 ?_
        exact fd_isI rfl rfl rfl
      · rw [if_neg h6, if_neg h6]
        refine r_aload_n dX11_note_0 rfl ?_
        refine r_iload_n dX11_note_1 rfl ?_
        refine r_cVr (As := [_]) (c_X11_isDay α _ _ _ hn hn7) lk_11_124 rfl rfl (by decide) (by decide) rfl rfl (Nat.le_of_ble_eq_true rfl) dX11_note_2 ?_
        refine r_if_eq 15 dX11_note_5 (by decide) (fun h5 => absurd h5 (fd_bn.mpr hok.1)) (fun h5 => ?_)
        refine r_iload_n dX11_note_8 rfl ?_
        refine r_cSr (As := [_]) (c_X11_isFact α _ _ _) lk_11_128 (by decide) (by decide) rfl rfl (Nat.le_of_ble_eq_true rfl) dX11_note_9 ?_
        refine r_if_ne 22 dX11_note_12 (by decide) (fun h12 => ?_) (fun h12 => absurd h12 (fd_bn.mpr hok.2))
        refine r_aload_n dX11_note_22 rfl ?_
        refine r_iload_n dX11_note_23 rfl ?_
        refine r_iload_n dX11_note_24 rfl ?_
        refine r_cVr (As := [_, _]) (c_X11_isNote α _ _ _ _ hnn hn6) lk_11_135 rfl rfl (by decide) (by decide) rfl rfl (Nat.le_of_ble_eq_true rfl) dX11_note_25 ?_
        refine r_if_eq 36 dX11_note_28 (by decide) (fun h28 => ?_) (fun h28 => absurd h28 (not_not_intro (fd_b0.mpr hq)))
        refine r_aload_n dX11_note_36 rfl ?_
        refine r_getV rfl rfl fl_11_103 dX11_note_37 hnn ?_
        refine r_bipush (v := 6) dX11_note_40 rfl ?_
        refine r_icmp_ne 50 dX11_note_42 (by decide) (fun h42 => ?_) (fun h42 => absurd h42 (fun q => h6 ((nI_eq (b := 6) (by omega) (by omega)).mp q)))
        refine r_aload_n dX11_note_50 rfl ?_
        refine r_getR rfl rfl fl_11_28 dX11_note_51 ?_
        refine r_aload_n dX11_note_54 rfl ?_
        refine r_getV rfl rfl fl_11_103 dX11_note_55 hnn ?_
        refine r_iload_n dX11_note_58 rfl ?_
        refine r_iastN rfl dX11_note_59 (by omega) (by omega) ?_
        refine r_aload_n dX11_note_60 rfl ?_
        refine r_getR rfl rfl fl_11_31 dX11_note_61 ?_
        refine r_aload_n dX11_note_64 rfl ?_
        refine r_getV rfl rfl fl_11_103 dX11_note_65 hnn ?_
        refine r_iload_n dX11_note_68 rfl ?_
        refine r_iastN rfl dX11_note_69 (by omega) (by omega) ?_
        refine r_aload_n dX11_note_70 rfl ?_
        refine r_dup dX11_note_71 rfl ?_
        refine r_getV rfl rfl fl_11_103 dX11_note_72 hnn ?_
        refine r_iconst (v := 1) dX11_note_75 rfl ?_
        refine r_iadd dX11_note_76 ?_
        rw [nI_1]
        refine r_putI rfl rfl fl_11_103 fw_11_7 dX11_note_77 ?_
        refine r_aload_n dX11_note_80 rfl ?_
        refine r_iconst (v := 0) dX11_note_81 rfl ?_
        refine r_putI rfl rfl fl_11_115 fw_11_17 dX11_note_82 ?_
        refine r_aload_n dX11_note_85 rfl ?_
        refine r_getV rfl rfl fl_11_103 dX11_note_86 (Eq.trans (fd_up_pl (by decide)) fd_up_same) ?_
        refine r_iconst (v := 1) dX11_note_89 rfl ?_
        refine r_isub dX11_note_90 ?_
        refine r_iret rfl dX11_note_91 ?_
        exact fd_isi (nI_pred nn) rfl rfl
  · rw [if_neg hok, if_neg hok]
    refine r_aload_n dX11_note_0 rfl ?_
    refine r_iload_n dX11_note_1 rfl ?_
    refine r_cVr (As := [_]) (c_X11_isDay α _ _ _ hn hn7) lk_11_124 rfl rfl (by decide) (by decide) rfl rfl (Nat.le_of_ble_eq_true rfl) dX11_note_2 ?_
    refine r_if_eq 15 dX11_note_5 (by decide) (fun h5 => ?_) (fun h5 => ?_)
    · refine r_aload_n dX11_note_15 rfl ?_
      refine r_bipush (v := (-2)) dX11_note_16 rfl ?_
      refine r_cVr (As := [_]) (c_X11_bad α _ _ _) lk_11_120 rfl rfl (by decide) (by decide) rfl rfl (Nat.le_of_ble_eq_true rfl) dX11_note_18 ?_
      refine r_iret rfl dX11_note_21 ?_
      exact fd_isI rfl rfl rfl
    · refine r_iload_n dX11_note_8 rfl ?_
      refine r_cSr (As := [_]) (c_X11_isFact α _ _ _) lk_11_128 (by decide) (by decide) rfl rfl (Nat.le_of_ble_eq_true rfl) dX11_note_9 ?_
      refine r_if_ne 22 dX11_note_12 (by decide) (fun h12 => absurd h12 (not_not_intro (fd_b0.mpr (fun q => hok ⟨fd_bn.mp h5, q⟩)))) (fun h12 => ?_)
      refine r_aload_n dX11_note_15 rfl ?_
      refine r_bipush (v := (-2)) dX11_note_16 rfl ?_
      refine r_cVr (As := [_]) (c_X11_bad α _ _ _) lk_11_120 rfl rfl (by decide) (by decide) rfl rfl (Nat.le_of_ble_eq_true rfl) dX11_note_18 ?_
      refine r_iret rfl dX11_note_21 ?_
      exact fd_isI rfl rfl rfl
def ahR (n np : Nat) (a b : Int32) : Int32 := if dayP a n ∧ dayP b n ∧ ¬ a = b then (if np = 6 then -4 else nI np) else -2
def ahI (I : fdI) (n np : Nat) (a b : Int32) : fdI := if dayP a n ∧ dayP b n ∧ ¬ a = b then (if np = 6 then mFull I else fd_up (fd_up (fd_up I 9 np a) 10 np b) 0 10 (nI (np + 1))) else mBad I
theorem c_X11_ahead (α : Nat → Nat) (I : fdI) (L : fdL) (a b : Int32) {n np : Nat} (hn : I 0 1 = nI n) (hn7 : 1 ≤ n ∧ n ≤ 7) (hnp : I 0 10 = nI np) (hp6 : np ≤ 6) : Con fd_SM α yX11_ahead mX11_ahead [.ref (α 0), .int a, .int b] I L (fd_is (some (.int (ahR n np a b))) (ahI I n np a b) L) := by
  refine Con.of (by decide) rfl (Nat.le_of_ble_eq_true rfl) ?_
  unfold ahR ahI
  by_cases hok : dayP a n ∧ dayP b n ∧ ¬ a = b
  · rw [if_pos hok, if_pos hok]
    by_cases h6 : np = 6
    · rw [if_pos h6, if_pos h6]
      subst h6
      refine r_aload_n dX11_ahead_0 rfl ?_
      refine r_iload_n dX11_ahead_1 rfl ?_
      refine r_cVr (As := [_]) (c_X11_isDay α _ _ _ hn hn7) lk_11_124 rfl rfl (by decide) (by decide) rfl rfl (Nat.le_of_ble_eq_true rfl) dX11_ahead_2 ?_
      refine r_if_eq 21 dX11_ahead_5 (by decide) (fun h5 => absurd h5 (fd_bn.mpr hok.1)) (fun h5 => ?_)
      refine r_aload_n dX11_ahead_8 rfl ?_
      refine r_iload_n dX11_ahead_9 rfl ?_
      refine r_cVr (As := [_]) (c_X11_isDay α _ _ _ hn hn7) lk_11_124 rfl rfl (by decide) (by decide) rfl rfl (Nat.le_of_ble_eq_true rfl) dX11_ahead_10 ?_
      refine r_if_eq 21 dX11_ahead_13 (by decide) (fun h13 => absurd h13 (fd_bn.mpr hok.2.1)) (fun h13 => ?_)
      refine r_iload_n dX11_ahead_16 rfl ?_
      refine r_iload_n dX11_ahead_17 rfl ?_
      refine r_icmp_ne 28 dX11_ahead_18 (by decide) (fun h18 => ?_) (fun h18 => absurd h18 hok.2.2)
      refine r_aload_n dX11_ahead_28 rfl ?_
      refine r_getV rfl rfl fl_11_106 dX11_ahead_29 hnp ?_
      refine r_bipush (v := 6) dX11_ahead_32 rfl ?_
      refine r_icmp_ne 42 dX11_ahead_34 (by decide) (fun h34 => absurd h34 (not_not_intro rfl)) (fun h34 => ?_)
      refine r_aload_n dX11_ahead_37 rfl ?_
      refine r_cVr (As := []) (c_X11_full α _ _) lk_11_139 rfl rfl (by decide) (by decide) rfl rfl (Nat.le_of_ble_eq_true rfl) dX11_ahead_38 ?_
      refine r_iret rfl dX11_ahead_41 ?_
      exact fd_isI rfl rfl rfl
    · rw [if_neg h6, if_neg h6]
      refine r_aload_n dX11_ahead_0 rfl ?_
      refine r_iload_n dX11_ahead_1 rfl ?_
      refine r_cVr (As := [_]) (c_X11_isDay α _ _ _ hn hn7) lk_11_124 rfl rfl (by decide) (by decide) rfl rfl (Nat.le_of_ble_eq_true rfl) dX11_ahead_2 ?_
      refine r_if_eq 21 dX11_ahead_5 (by decide) (fun h5 => absurd h5 (fd_bn.mpr hok.1)) (fun h5 => ?_)
      refine r_aload_n dX11_ahead_8 rfl ?_
      refine r_iload_n dX11_ahead_9 rfl ?_
      refine r_cVr (As := [_]) (c_X11_isDay α _ _ _ hn hn7) lk_11_124 rfl rfl (by decide) (by decide) rfl rfl (Nat.le_of_ble_eq_true rfl) dX11_ahead_10 ?_
      refine r_if_eq 21 dX11_ahead_13 (by decide) (fun h13 => absurd h13 (fd_bn.mpr hok.2.1)) (fun h13 => ?_)
      refine r_iload_n dX11_ahead_16 rfl ?_
      refine r_iload_n dX11_ahead_17 rfl ?_
      refine r_icmp_ne 28 dX11_ahead_18 (by decide) (fun h18 => ?_) (fun h18 => absurd h18 hok.2.2)
      refine r_aload_n dX11_ahead_28 rfl ?_
      refine r_getV rfl rfl fl_11_106 dX11_ahead_29 hnp ?_
      refine r_bipush (v := 6) dX11_ahead_32 rfl ?_
      refine r_icmp_ne 42 dX11_ahead_34 (by decide) (fun h34 => ?_) (fun h34 => absurd h34 (fun q => h6 ((nI_eq (b := 6) (by omega) (by omega)).mp q)))
      refine r_aload_n dX11_ahead_42 rfl ?_
      refine r_getR rfl rfl fl_11_34 dX11_ahead_43 ?_
      refine r_aload_n dX11_ahead_46 rfl ?_
      refine r_getV rfl rfl fl_11_106 dX11_ahead_47 hnp ?_
      refine r_iload_n dX11_ahead_50 rfl ?_
      refine r_iastN rfl dX11_ahead_51 (by omega) (by omega) ?_
      refine r_aload_n dX11_ahead_52 rfl ?_
      refine r_getR rfl rfl fl_11_37 dX11_ahead_53 ?_
      refine r_aload_n dX11_ahead_56 rfl ?_
      refine r_getV rfl rfl fl_11_106 dX11_ahead_57 hnp ?_
      refine r_iload_n dX11_ahead_60 rfl ?_
      refine r_iastN rfl dX11_ahead_61 (by omega) (by omega) ?_
      refine r_aload_n dX11_ahead_62 rfl ?_
      refine r_dup dX11_ahead_63 rfl ?_
      refine r_getV rfl rfl fl_11_106 dX11_ahead_64 hnp ?_
      refine r_iconst (v := 1) dX11_ahead_67 rfl ?_
      refine r_iadd dX11_ahead_68 ?_
      rw [nI_1]
      refine r_putI rfl rfl fl_11_106 fw_11_10 dX11_ahead_69 ?_
      refine r_aload_n dX11_ahead_72 rfl ?_
      refine r_getV rfl rfl fl_11_106 dX11_ahead_73 fd_up_same ?_
      refine r_iconst (v := 1) dX11_ahead_76 rfl ?_
      refine r_isub dX11_ahead_77 ?_
      refine r_iret rfl dX11_ahead_78 ?_
      exact fd_isi (nI_pred np) rfl rfl
  · rw [if_neg hok, if_neg hok]
    refine r_aload_n dX11_ahead_0 rfl ?_
    refine r_iload_n dX11_ahead_1 rfl ?_
    refine r_cVr (As := [_]) (c_X11_isDay α _ _ _ hn hn7) lk_11_124 rfl rfl (by decide) (by decide) rfl rfl (Nat.le_of_ble_eq_true rfl) dX11_ahead_2 ?_
    refine r_if_eq 21 dX11_ahead_5 (by decide) (fun h5 => ?_) (fun h5 => ?_)
    · refine r_aload_n dX11_ahead_21 rfl ?_
      refine r_bipush (v := (-2)) dX11_ahead_22 rfl ?_
      refine r_cVr (As := [_]) (c_X11_bad α _ _ _) lk_11_120 rfl rfl (by decide) (by decide) rfl rfl (Nat.le_of_ble_eq_true rfl) dX11_ahead_24 ?_
      refine r_iret rfl dX11_ahead_27 ?_
      exact fd_isI rfl rfl rfl
    · refine r_aload_n dX11_ahead_8 rfl ?_
      refine r_iload_n dX11_ahead_9 rfl ?_
      refine r_cVr (As := [_]) (c_X11_isDay α _ _ _ hn hn7) lk_11_124 rfl rfl (by decide) (by decide) rfl rfl (Nat.le_of_ble_eq_true rfl) dX11_ahead_10 ?_
      refine r_if_eq 21 dX11_ahead_13 (by decide) (fun h13 => ?_) (fun h13 => ?_)
      · refine r_aload_n dX11_ahead_21 rfl ?_
        refine r_bipush (v := (-2)) dX11_ahead_22 rfl ?_
        refine r_cVr (As := [_]) (c_X11_bad α _ _ _) lk_11_120 rfl rfl (by decide) (by decide) rfl rfl (Nat.le_of_ble_eq_true rfl) dX11_ahead_24 ?_
        refine r_iret rfl dX11_ahead_27 ?_
        exact fd_isI rfl rfl rfl
      · refine r_iload_n dX11_ahead_16 rfl ?_
        refine r_iload_n dX11_ahead_17 rfl ?_
        refine r_icmp_ne 28 dX11_ahead_18 (by decide) (fun h18 => absurd h18 (fun q => hok ⟨fd_bn.mp h5, fd_bn.mp h13, q⟩)) (fun h18 => ?_)
        refine r_aload_n dX11_ahead_21 rfl ?_
        refine r_bipush (v := (-2)) dX11_ahead_22 rfl ?_
        refine r_cVr (As := [_]) (c_X11_bad α _ _ _) lk_11_120 rfl rfl (by decide) (by decide) rfl rfl (Nat.le_of_ble_eq_true rfl) dX11_ahead_24 ?_
        refine r_iret rfl dX11_ahead_27 ?_
        exact fd_isI rfl rfl rfl
def diN (I : fdI) (n : Nat) : Nat := cnN (fun k => !(I 12 k = -1)) n
theorem c_X11_diaries (α : Nat → Nat) (I : fdI) (L : fdL) {n : Nat} (hn : I 0 1 = nI n) (hn7 : 1 ≤ n ∧ n ≤ 7) : Con fd_SM α yX11_diaries mX11_diaries [.ref (α 0)] I L (fd_is (some (.int (nI (diN I n)))) I L) := by
  refine Con.of (by decide) rfl (Nat.le_of_ble_eq_true rfl) ?_
  have loop : ∀ k, k ≤ n → Rn fd_SM α mX11_diaries 4 [(2, .int (nI k)), (1, .int (nI (diN I k))), (0, .ref (α 0))] [] I L (fd_is (some (.int (nI (diN I n)))) I L) := by
    refine fd_down (fun k hk ih => ?_)
    refine r_iload_n dX11_diaries_4 rfl ?_
    refine r_aload_n dX11_diaries_5 rfl ?_
    refine r_getV rfl rfl fl_11_93 dX11_diaries_6 hn ?_
    refine r_icmp_ge 36 dX11_diaries_9 (by decide) (fun h9 => ?_) (fun h9 => ?_)
    · have hh := (nI_leI (by omega) (by omega)).mp h9
      have e : k = n := by omega
      subst e
      refine r_iload_n dX11_diaries_36 rfl ?_
      refine r_iret rfl dX11_diaries_37 ?_
      exact fd_isI rfl rfl rfl
    · have hh : k < n := Nat.lt_of_not_le fun q => h9 ((nI_leI (by omega) (by omega)).mpr q)
      refine r_iload_n dX11_diaries_12 rfl ?_
      refine r_aload_n dX11_diaries_13 rfl ?_
      refine r_getR rfl rfl fl_11_43 dX11_diaries_14 ?_
      refine r_iload_n dX11_diaries_17 rfl ?_
      refine r_ialdN rfl dX11_diaries_18 (by omega) (by omega) rfl ?_
      refine r_iconst (v := (-1)) dX11_diaries_19 rfl ?_
      refine r_icmp_ne 27 dX11_diaries_20 (by decide) (fun h20 => ?_) (fun h20 => ?_)
      · refine r_iconst (v := 1) dX11_diaries_27 rfl ?_
        refine r_iadd dX11_diaries_28 ?_
        refine r_istore_n (lv' := [(1, _), (2, _), (0, _)]) dX11_diaries_29 (Nat.le_of_ble_eq_true rfl) rfl ?_
        refine r_iinc (v := _ + 1) (lv' := [(2, _), (1, _), (0, _)]) dX11_diaries_30 rfl rfl (Nat.le_of_ble_eq_true rfl) rfl ?_
        refine r_goto (tgt := 4) dX11_diaries_33 (by decide) ?_
        rw [nI_1]
        first
          | (have e : nI (diN I k) + 1 = nI (diN I (k + 1)) := by (rw [nI_1]; simp [diN, cnN, h20])
             rw [e]
             exact r_keep [2, 1, 0] rfl (ih hh))
          | (have e : nI (diN I k) + 0 = nI (diN I (k + 1)) := by (rw [Int32.add_zero]; simp [diN, cnN, h20])
             rw [e]
             exact r_keep [2, 1, 0] rfl (ih hh))
      · refine r_iconst (v := 0) dX11_diaries_23 rfl ?_
        refine r_goto (tgt := 28) dX11_diaries_24 (by decide) ?_
        refine r_iadd dX11_diaries_28 ?_
        refine r_istore_n (lv' := [(1, _), (2, _), (0, _)]) dX11_diaries_29 (Nat.le_of_ble_eq_true rfl) rfl ?_
        refine r_iinc (v := _ + 1) (lv' := [(2, _), (1, _), (0, _)]) dX11_diaries_30 rfl rfl (Nat.le_of_ble_eq_true rfl) rfl ?_
        refine r_goto (tgt := 4) dX11_diaries_33 (by decide) ?_
        rw [nI_1]
        first
          | (have e : nI (diN I k) + 1 = nI (diN I (k + 1)) := by (rw [nI_1]; simp [diN, cnN, h20])
             rw [e]
             exact r_keep [2, 1, 0] rfl (ih hh))
          | (have e : nI (diN I k) + 0 = nI (diN I (k + 1)) := by (rw [Int32.add_zero]; simp [diN, cnN, h20])
             rw [e]
             exact r_keep [2, 1, 0] rfl (ih hh))
  refine r_iconst (v := 0) dX11_diaries_0 rfl ?_
  refine r_istore_n (lv' := [(1, _), (0, _)]) dX11_diaries_1 (Nat.le_of_ble_eq_true rfl) rfl ?_
  refine r_iconst (v := 0) dX11_diaries_2 rfl ?_
  refine r_istore_n (lv' := [(2, _), (1, _), (0, _)]) dX11_diaries_3 (Nat.le_of_ble_eq_true rfl) rfl ?_
  exact r_keep [2, 1, 0] rfl (loop 0 (by omega))
/-- the answer and the cells of fact -/
def faH (I : fdI) (d what : Int32) : Int32 := if what = 0 then I 3 d.toNatClampNeg else I 4 d.toNatClampNeg
def faR (I : fdI) (n : Nat) (d what f b : Int32) : Int32 := if dayP d n ∧ dayP what 2 ∧ dayP f 6 then (if fd_b ((faH I d what >>> (f &&& 31)) &&& 1 = 1) = b then -3 else 1) else -2
def faI (I : fdI) (n : Nat) (d what f b : Int32) : fdI := if dayP d n ∧ dayP what 2 ∧ dayP f 6 then (if fd_b ((faH I d what >>> (f &&& 31)) &&& 1 = 1) = b then mNo I else fd_up (fd_up I (if what = 0 then 3 else 4) d.toNatClampNeg (faH I d what ^^^ (1 <<< (f &&& 31)))) 0 17 0) else mBad I
theorem c_X11_fact (α : Nat → Nat) (I : fdI) (L : fdL) (d what f b : Int32) {n : Nat} (hn : I 0 1 = nI n) (hn7 : 1 ≤ n ∧ n ≤ 7) : Con fd_SM α yX11_fact mX11_fact [.ref (α 0), .int d, .int what, .int f, .int b] I L (fd_is (some (.int (faR I n d what f b))) (faI I n d what f b) L) := by
  refine Con.of (by decide) rfl (Nat.le_of_ble_eq_true rfl) ?_
  unfold faR faI
  by_cases hok : dayP d n ∧ dayP what 2 ∧ dayP f 6
  · rw [if_pos hok, if_pos hok]
    obtain ⟨hd, hw, hf⟩ := hok
    obtain ⟨j, hj, rfl⟩ := dayP_nI hd
    rw [nI_clamp (by omega)]
    have jn : ∀ (h : Int32), h = faH I (nI j) what → ∀ (v : Int32), v = fd_b ((faH I (nI j) what >>> (f &&& 31)) &&& 1 = 1) → Rn fd_SM α mX11_fact 68 [(0, .ref (α 0)), (1, .int (nI j)), (2, .int what), (3, .int f), (4, .int b)] [.int v] I L (fd_is (some (.int (if fd_b ((faH I (nI j) what >>> (f &&& 31)) &&& 1 = 1) = b then -3 else 1))) (if fd_b ((faH I (nI j) what >>> (f &&& 31)) &&& 1 = 1) = b then mNo I else fd_up (fd_up I (if what = 0 then 3 else 4) j (faH I (nI j) what ^^^ (1 <<< (f &&& 31)))) 0 17 0) L) := by
      intro h hh v hv
      subst hv
      by_cases hb : fd_b ((faH I (nI j) what >>> (f &&& 31)) &&& 1 = 1) = b
      · rw [if_pos hb, if_pos hb]
        refine r_iload dX11_fact_68 rfl ?_
        refine r_icmp_ne 78 dX11_fact_70 (by decide) (fun h70 => absurd h70 (not_not_intro hb)) (fun h70 => ?_)
        refine r_aload_n dX11_fact_73 rfl ?_
        refine r_cVr (As := []) (c_X11_no α _ _) lk_11_131 rfl rfl (by decide) (by decide) rfl rfl (Nat.le_of_ble_eq_true rfl) dX11_fact_74 ?_
        refine r_iret rfl dX11_fact_77 ?_
        exact fd_isI rfl rfl rfl
      · rw [if_neg hb, if_neg hb]
        by_cases hw0 : what = 0
        · rw [if_pos hw0]
          have e : faH I (nI j) what = I 3 j := by simp only [faH, if_pos hw0]; rw [nI_clamp (by omega)]
          rw [e]
          rw [e] at hb
          refine r_iload dX11_fact_68 rfl ?_
          refine r_icmp_ne 78 dX11_fact_70 (by decide) (fun h70 => ?_) (fun h70 => absurd h70 hb)
          refine r_iload_n dX11_fact_78 rfl ?_
          refine r_if_ne 97 dX11_fact_79 (by decide) (fun h79 => absurd h79 (not_not_intro hw0)) (fun h79 => ?_)
          refine r_aload_n dX11_fact_82 rfl ?_
          refine r_getR rfl rfl fl_11_16 dX11_fact_83 ?_
          refine r_iload_n dX11_fact_86 rfl ?_
          refine r_dup2 dX11_fact_87 rfl rfl ?_
          refine r_ialdN rfl dX11_fact_88 (by omega) (by omega) rfl ?_
          refine r_iconst (v := 1) dX11_fact_89 rfl ?_
          refine r_iload_n dX11_fact_90 rfl ?_
          refine r_ishl dX11_fact_91 ?_
          refine r_ixor dX11_fact_92 ?_
          refine r_iastN rfl dX11_fact_93 (by omega) (by omega) ?_
          refine r_goto (tgt := 109) dX11_fact_94 (by decide) ?_
          refine r_aload_n dX11_fact_109 rfl ?_
          refine r_iconst (v := 0) dX11_fact_110 rfl ?_
          refine r_putI rfl rfl fl_11_115 fw_11_17 dX11_fact_111 ?_
          refine r_iconst (v := 1) dX11_fact_114 rfl ?_
          refine r_iret rfl dX11_fact_115 ?_
          exact fd_isI rfl rfl rfl
        · rw [if_neg hw0]
          have e : faH I (nI j) what = I 4 j := by simp only [faH, if_neg hw0]; rw [nI_clamp (by omega)]
          rw [e]
          rw [e] at hb
          refine r_iload dX11_fact_68 rfl ?_
          refine r_icmp_ne 78 dX11_fact_70 (by decide) (fun h70 => ?_) (fun h70 => absurd h70 hb)
          refine r_iload_n dX11_fact_78 rfl ?_
          refine r_if_ne 97 dX11_fact_79 (by decide) (fun h79 => ?_) (fun h79 => absurd h79 hw0)
          refine r_aload_n dX11_fact_97 rfl ?_
          refine r_getR rfl rfl fl_11_19 dX11_fact_98 ?_
          refine r_iload_n dX11_fact_101 rfl ?_
          refine r_dup2 dX11_fact_102 rfl rfl ?_
          refine r_ialdN rfl dX11_fact_103 (by omega) (by omega) rfl ?_
          refine r_iconst (v := 1) dX11_fact_104 rfl ?_
          refine r_iload_n dX11_fact_105 rfl ?_
          refine r_ishl dX11_fact_106 ?_
          refine r_ixor dX11_fact_107 ?_
          refine r_iastN rfl dX11_fact_108 (by omega) (by omega) ?_
          refine r_aload_n dX11_fact_109 rfl ?_
          refine r_iconst (v := 0) dX11_fact_110 rfl ?_
          refine r_putI rfl rfl fl_11_115 fw_11_17 dX11_fact_111 ?_
          refine r_iconst (v := 1) dX11_fact_114 rfl ?_
          refine r_iret rfl dX11_fact_115 ?_
          exact fd_isI rfl rfl rfl
    have jn1 : ∀ (h : Int32), h = faH I (nI j) what → Rn fd_SM α mX11_fact 51 [(0, .ref (α 0)), (1, .int (nI j)), (2, .int what), (3, .int f), (4, .int b)] [.int h] I L (fd_is (some (.int (if fd_b ((faH I (nI j) what >>> (f &&& 31)) &&& 1 = 1) = b then -3 else 1))) (if fd_b ((faH I (nI j) what >>> (f &&& 31)) &&& 1 = 1) = b then mNo I else fd_up (fd_up I (if what = 0 then 3 else 4) j (faH I (nI j) what ^^^ (1 <<< (f &&& 31)))) 0 17 0) L) := by
      intro h hh
      refine r_istore (lv' := [(5, _), (0, _), (1, _), (2, _), (3, _), (4, _)]) dX11_fact_51 (Nat.le_of_ble_eq_true rfl) rfl ?_
      refine r_iload dX11_fact_53 rfl ?_
      refine r_iload_n dX11_fact_55 rfl ?_
      refine r_ishr dX11_fact_56 ?_
      refine r_iconst (v := 1) dX11_fact_57 rfl ?_
      refine r_iand dX11_fact_58 ?_
      refine r_iconst (v := 1) dX11_fact_59 rfl ?_
      refine r_icmp_ne 67 dX11_fact_60 (by decide) (fun h60 => ?_) (fun h60 => ?_)
      · have ev : (0 : Int32) = fd_b ((faH I (nI j) what >>> (f &&& 31)) &&& 1 = 1) := (fd_b_f (by rw [← hh]; exact h60)).symm
        refine r_iconst (v := 0) dX11_fact_67 rfl ?_
        exact r_keep [0, 1, 2, 3, 4] rfl (jn h hh _ ev)
      · have ev : (1 : Int32) = fd_b ((faH I (nI j) what >>> (f &&& 31)) &&& 1 = 1) := (fd_b_t (by rw [← hh]; exact h60)).symm
        refine r_iconst (v := 1) dX11_fact_63 rfl ?_
        refine r_goto (tgt := 68) dX11_fact_64 (by decide) ?_
        exact r_keep [0, 1, 2, 3, 4] rfl (jn h hh _ ev)
    refine r_aload_n dX11_fact_0 rfl ?_
    refine r_iload_n dX11_fact_1 rfl ?_
    refine r_cVr (As := [_]) (c_X11_isDay α _ _ _ hn hn7) lk_11_124 rfl rfl (by decide) (by decide) rfl rfl (Nat.le_of_ble_eq_true rfl) dX11_fact_2 ?_
    refine r_if_eq 25 dX11_fact_5 (by decide) (fun h5 => absurd h5 (fd_bn.mpr hd)) (fun h5 => ?_)
    refine r_iload_n dX11_fact_8 rfl ?_
    refine r_i2l dX11_fact_9 rfl ?_
    refine r_lconst (v := 0) dX11_fact_10 rfl ?_
    refine r_lconst (v := 1) dX11_fact_11 rfl ?_
    refine r_cSr (As := [_, _, _]) (c_in1 α _ _ _) lk_11_97 (by decide) (by decide) rfl rfl (Nat.le_of_ble_eq_true rfl) dX11_fact_12 ?_
    refine r_if_eq 25 dX11_fact_15 (by decide) (fun h15 => absurd h15 (fd_bn.mpr hw)) (fun h15 => ?_)
    refine r_iload_n dX11_fact_18 rfl ?_
    refine r_cSr (As := [_]) (c_X11_isFact α _ _ _) lk_11_128 (by decide) (by decide) rfl rfl (Nat.le_of_ble_eq_true rfl) dX11_fact_19 ?_
    refine r_if_ne 32 dX11_fact_22 (by decide) (fun h22 => ?_) (fun h22 => absurd h22 (fd_bn.mpr hf))
    refine r_iload_n dX11_fact_32 rfl ?_
    refine r_if_ne 45 dX11_fact_33 (by decide) (fun h33 => ?_) (fun h33 => ?_)
    · have ev : I 4 j = faH I (nI j) what := by simp only [faH, if_neg h33]; rw [nI_clamp (by omega)]
      refine r_aload_n dX11_fact_45 rfl ?_
      refine r_getR rfl rfl fl_11_19 dX11_fact_46 ?_
      refine r_iload_n dX11_fact_49 rfl ?_
      refine r_ialdN rfl dX11_fact_50 (by omega) (by omega) rfl ?_
      exact jn1 _ ev
    · have ev : I 3 j = faH I (nI j) what := by simp only [faH, if_pos h33]; rw [nI_clamp (by omega)]
      refine r_aload_n dX11_fact_36 rfl ?_
      refine r_getR rfl rfl fl_11_16 dX11_fact_37 ?_
      refine r_iload_n dX11_fact_40 rfl ?_
      refine r_ialdN rfl dX11_fact_41 (by omega) (by omega) rfl ?_
      refine r_goto (tgt := 51) dX11_fact_42 (by decide) ?_
      exact jn1 _ ev
  · rw [if_neg hok, if_neg hok]
    refine r_aload_n dX11_fact_0 rfl ?_
    refine r_iload_n dX11_fact_1 rfl ?_
    refine r_cVr (As := [_]) (c_X11_isDay α _ _ _ hn hn7) lk_11_124 rfl rfl (by decide) (by decide) rfl rfl (Nat.le_of_ble_eq_true rfl) dX11_fact_2 ?_
    refine r_if_eq 25 dX11_fact_5 (by decide) (fun h5 => ?_) (fun h5 => ?_)
    · refine r_aload_n dX11_fact_25 rfl ?_
      refine r_bipush (v := (-2)) dX11_fact_26 rfl ?_
      refine r_cVr (As := [_]) (c_X11_bad α _ _ _) lk_11_120 rfl rfl (by decide) (by decide) rfl rfl (Nat.le_of_ble_eq_true rfl) dX11_fact_28 ?_
      refine r_iret rfl dX11_fact_31 ?_
      exact fd_isI rfl rfl rfl
    · refine r_iload_n dX11_fact_8 rfl ?_
      refine r_i2l dX11_fact_9 rfl ?_
      refine r_lconst (v := 0) dX11_fact_10 rfl ?_
      refine r_lconst (v := 1) dX11_fact_11 rfl ?_
      refine r_cSr (As := [_, _, _]) (c_in1 α _ _ _) lk_11_97 (by decide) (by decide) rfl rfl (Nat.le_of_ble_eq_true rfl) dX11_fact_12 ?_
      refine r_if_eq 25 dX11_fact_15 (by decide) (fun h15 => ?_) (fun h15 => ?_)
      · refine r_aload_n dX11_fact_25 rfl ?_
        refine r_bipush (v := (-2)) dX11_fact_26 rfl ?_
        refine r_cVr (As := [_]) (c_X11_bad α _ _ _) lk_11_120 rfl rfl (by decide) (by decide) rfl rfl (Nat.le_of_ble_eq_true rfl) dX11_fact_28 ?_
        refine r_iret rfl dX11_fact_31 ?_
        exact fd_isI rfl rfl rfl
      · refine r_iload_n dX11_fact_18 rfl ?_
        refine r_cSr (As := [_]) (c_X11_isFact α _ _ _) lk_11_128 (by decide) (by decide) rfl rfl (Nat.le_of_ble_eq_true rfl) dX11_fact_19 ?_
        refine r_if_ne 32 dX11_fact_22 (by decide) (fun h22 => absurd h22 (not_not_intro (fd_b0.mpr (fun q => hok ⟨fd_bn.mp h5, fd_bn.mp h15, q⟩)))) (fun h22 => ?_)
        refine r_aload_n dX11_fact_25 rfl ?_
        refine r_bipush (v := (-2)) dX11_fact_26 rfl ?_
        refine r_cVr (As := [_]) (c_X11_bad α _ _ _) lk_11_120 rfl rfl (by decide) (by decide) rfl rfl (Nat.le_of_ble_eq_true rfl) dX11_fact_28 ?_
        refine r_iret rfl dX11_fact_31 ?_
        exact fd_isI rfl rfl rfl
/-- tear: how many there were -/
def teR (I : fdI) (n nn np nt : Nat) (w : Int32) : Int32 := if dayP w 4 then (if w = 0 then nI nn else if w = 1 then nI np else if w = 2 then nI (diN I n) else nI nt) else -2
def teP (I I' : fdI) (w : Int32) : Prop := if dayP w 4 then (if w = 0 then I' = fd_up (fd_up I 0 7 0) 0 17 0 else if w = 1 then I' = fd_up I 0 10 0 else if w = 2 then (∀ a, a ≠ 12 → I' a = I a) ∧ ∀ k, k < 7 → I' 12 k = -1 else I' = fd_up I 0 13 0) else I' = mBad I
theorem c_X11_tear (α : Nat → Nat) (I : fdI) (L : fdL) (w : Int32) {n nn np nt : Nat} (hn : I 0 1 = nI n) (hn7 : 1 ≤ n ∧ n ≤ 7) (hnn : I 0 7 = nI nn) (hnp : I 0 10 = nI np) (hnt : I 0 13 = nI nt) : Con fd_SM α yX11_tear mX11_tear [.ref (α 0), .int w] I L (fd_ip (fun v I' L' => v = .int (teR I n nn np nt w) ∧ teP I I' w ∧ L' = L)) := by
  refine Con.of (by decide) rfl (Nat.le_of_ble_eq_true rfl) ?_
  unfold teR teP
  by_cases hok : dayP w 4
  · simp only [if_pos hok]
    have loop : w = 2 → ∀ r : Int32, r = nI (diN I n) → ¬ w = 0 → ¬ w = 1 → ∀ k, k ≤ 7 → ∀ I1 : fdI, (∀ a, a ≠ 12 → I1 a = I a) → (∀ i, i < k → I1 12 i = -1) → Rn fd_SM α mX11_tear 96 [(3, .int (nI k)), (2, .int r), (0, .ref (α 0)), (1, .int w)] [] I1 L (fd_ip (fun v I' L' => v = .int (if w = 0 then nI nn else if w = 1 then nI np else if w = 2 then nI (diN I n) else nI nt) ∧ (if w = 0 then I' = fd_up (fd_up I 0 7 0) 0 17 0 else if w = 1 then I' = fd_up I 0 10 0 else if w = 2 then (∀ a, a ≠ 12 → I' a = I a) ∧ ∀ k, k < 7 → I' 12 k = -1 else I' = fd_up I 0 13 0) ∧ L' = L)) := by
      intro hw2 r hr h0 h1
      refine fd_down (fun k hk ih => ?_)
      intro I1 g1 g2
      refine r_iload_n dX11_tear_96 rfl ?_
      refine r_bipush (v := 7) dX11_tear_97 rfl ?_
      refine r_icmp_ge 115 dX11_tear_99 (by decide) (fun h99 => ?_) (fun h99 => ?_)
      · have hh := (nI_leI (a := 7) (by omega) (by omega)).mp h99
        have e : k = 7 := by omega
        subst e
        refine r_goto (tgt := 123) dX11_tear_115 (by decide) ?_
        refine r_iload_n dX11_tear_123 rfl ?_
        refine r_iret rfl dX11_tear_124 ?_
        simp only [if_neg h0, if_neg h1, if_pos hw2]
        exact ⟨_, rfl, by rw [hr], ⟨g1, g2⟩, rfl⟩
      · have hh : ¬ 7 ≤ k := fun q => h99 ((nI_leI (a := 7) (by omega) (by omega)).mpr q)
        refine r_aload_n dX11_tear_102 rfl ?_
        refine r_getR rfl rfl fl_11_43 dX11_tear_103 ?_
        refine r_iload_n dX11_tear_106 rfl ?_
        refine r_iconst (v := (-1)) dX11_tear_107 rfl ?_
        refine r_iastN rfl dX11_tear_108 (by omega) (by omega) ?_
        refine r_iinc (v := _ + 1) (lv' := [(3, _), (2, _), (0, _), (1, _)]) dX11_tear_109 rfl rfl (Nat.le_of_ble_eq_true rfl) rfl ?_
        refine r_goto (tgt := 96) dX11_tear_112 (by decide) ?_
        rw [nI_1]
        refine r_keep [3, 2, 0, 1] rfl (ih (by omega) _ (fun a ha => by rw [fd_up_cell ha]; exact g1 a ha) (fun i hi => ?_))
        rw [fd_up_at]
        split
        · rfl
        · exact g2 i (by omega)
    by_cases h0 : w = 0
    · simp only [if_pos h0] at *
      refine r_iload_n dX11_tear_0 rfl ?_
      refine r_i2l dX11_tear_1 rfl ?_
      refine r_lconst (v := 0) dX11_tear_2 rfl ?_
      refine r_ldc2 (v := (3 : Int64)) (fd_in 1108 (by decide +kernel) (by decide +kernel)) dX11_tear_3 ?_
      refine r_cSr (As := [_, _, _]) (c_in3 α _ _ _) lk_11_97 (by decide) (by decide) rfl rfl (Nat.le_of_ble_eq_true rfl) dX11_tear_6 ?_
      refine r_if_ne 19 dX11_tear_9 (by decide) (fun h9 => ?_) (fun h9 => absurd h9 (fd_bn.mpr hok))
      refine r_iload_n dX11_tear_19 rfl ?_
      refine r_if_ne 30 dX11_tear_20 (by decide) (fun h20 => absurd h20 (not_not_intro h0)) (fun h20 => ?_)
      refine r_aload_n dX11_tear_23 rfl ?_
      refine r_getV rfl rfl fl_11_103 dX11_tear_24 hnn ?_
      refine r_goto (tgt := 58) dX11_tear_27 (by decide) ?_
      refine r_istore_n (lv' := [(2, _), (0, _), (1, _)]) dX11_tear_58 (Nat.le_of_ble_eq_true rfl) rfl ?_
      refine r_iload_n dX11_tear_59 rfl ?_
      refine r_if_ne 76 dX11_tear_60 (by decide) (fun h60 => absurd h60 (not_not_intro h0)) (fun h60 => ?_)
      refine r_aload_n dX11_tear_63 rfl ?_
      refine r_iconst (v := 0) dX11_tear_64 rfl ?_
      refine r_putI rfl rfl fl_11_103 fw_11_7 dX11_tear_65 ?_
      refine r_aload_n dX11_tear_68 rfl ?_
      refine r_iconst (v := 0) dX11_tear_69 rfl ?_
      refine r_putI rfl rfl fl_11_115 fw_11_17 dX11_tear_70 ?_
      refine r_goto (tgt := 123) dX11_tear_73 (by decide) ?_
      refine r_iload_n dX11_tear_123 rfl ?_
      refine r_iret rfl dX11_tear_124 ?_
      exact ⟨_, rfl, rfl, rfl, rfl⟩
    · by_cases h1 : w = 1
      · simp only [if_neg h0, if_pos h1] at *
        refine r_iload_n dX11_tear_0 rfl ?_
        refine r_i2l dX11_tear_1 rfl ?_
        refine r_lconst (v := 0) dX11_tear_2 rfl ?_
        refine r_ldc2 (v := (3 : Int64)) (fd_in 1108 (by decide +kernel) (by decide +kernel)) dX11_tear_3 ?_
        refine r_cSr (As := [_, _, _]) (c_in3 α _ _ _) lk_11_97 (by decide) (by decide) rfl rfl (Nat.le_of_ble_eq_true rfl) dX11_tear_6 ?_
        refine r_if_ne 19 dX11_tear_9 (by decide) (fun h9 => ?_) (fun h9 => absurd h9 (fd_bn.mpr hok))
        refine r_iload_n dX11_tear_19 rfl ?_
        refine r_if_ne 30 dX11_tear_20 (by decide) (fun h20 => ?_) (fun h20 => absurd h20 h0)
        refine r_iload_n dX11_tear_30 rfl ?_
        refine r_iconst (v := 1) dX11_tear_31 rfl ?_
        refine r_icmp_ne 42 dX11_tear_32 (by decide) (fun h32 => absurd h32 (not_not_intro h1)) (fun h32 => ?_)
        refine r_aload_n dX11_tear_35 rfl ?_
        refine r_getV rfl rfl fl_11_106 dX11_tear_36 hnp ?_
        refine r_goto (tgt := 58) dX11_tear_39 (by decide) ?_
        refine r_istore_n (lv' := [(2, _), (0, _), (1, _)]) dX11_tear_58 (Nat.le_of_ble_eq_true rfl) rfl ?_
        refine r_iload_n dX11_tear_59 rfl ?_
        refine r_if_ne 76 dX11_tear_60 (by decide) (fun h60 => ?_) (fun h60 => absurd h60 h0)
        refine r_iload_n dX11_tear_76 rfl ?_
        refine r_iconst (v := 1) dX11_tear_77 rfl ?_
        refine r_icmp_ne 89 dX11_tear_78 (by decide) (fun h78 => absurd h78 (not_not_intro h1)) (fun h78 => ?_)
        refine r_aload_n dX11_tear_81 rfl ?_
        refine r_iconst (v := 0) dX11_tear_82 rfl ?_
        refine r_putI rfl rfl fl_11_106 fw_11_10 dX11_tear_83 ?_
        refine r_goto (tgt := 123) dX11_tear_86 (by decide) ?_
        refine r_iload_n dX11_tear_123 rfl ?_
        refine r_iret rfl dX11_tear_124 ?_
        exact ⟨_, rfl, rfl, rfl, rfl⟩
      · by_cases h2 : w = 2
        · refine r_iload_n dX11_tear_0 rfl ?_
          refine r_i2l dX11_tear_1 rfl ?_
          refine r_lconst (v := 0) dX11_tear_2 rfl ?_
          refine r_ldc2 (v := (3 : Int64)) (fd_in 1108 (by decide +kernel) (by decide +kernel)) dX11_tear_3 ?_
          refine r_cSr (As := [_, _, _]) (c_in3 α _ _ _) lk_11_97 (by decide) (by decide) rfl rfl (Nat.le_of_ble_eq_true rfl) dX11_tear_6 ?_
          refine r_if_ne 19 dX11_tear_9 (by decide) (fun h9 => ?_) (fun h9 => absurd h9 (fd_bn.mpr hok))
          refine r_iload_n dX11_tear_19 rfl ?_
          refine r_if_ne 30 dX11_tear_20 (by decide) (fun h20 => ?_) (fun h20 => absurd h20 h0)
          refine r_iload_n dX11_tear_30 rfl ?_
          refine r_iconst (v := 1) dX11_tear_31 rfl ?_
          refine r_icmp_ne 42 dX11_tear_32 (by decide) (fun h32 => ?_) (fun h32 => absurd h32 h1)
          refine r_iload_n dX11_tear_42 rfl ?_
          refine r_iconst (v := 2) dX11_tear_43 rfl ?_
          refine r_icmp_ne 54 dX11_tear_44 (by decide) (fun h44 => absurd h44 (not_not_intro h2)) (fun h44 => ?_)
          refine r_aload_n dX11_tear_47 rfl ?_
          refine r_cVr (As := []) (c_X11_diaries α _ _ hn hn7) lk_11_144 rfl rfl (by decide) (by decide) rfl rfl (Nat.le_of_ble_eq_true rfl) dX11_tear_48 ?_
          refine r_goto (tgt := 58) dX11_tear_51 (by decide) ?_
          refine r_istore_n (lv' := [(2, _), (0, _), (1, _)]) dX11_tear_58 (Nat.le_of_ble_eq_true rfl) rfl ?_
          refine r_iload_n dX11_tear_59 rfl ?_
          refine r_if_ne 76 dX11_tear_60 (by decide) (fun h60 => ?_) (fun h60 => absurd h60 h0)
          refine r_iload_n dX11_tear_76 rfl ?_
          refine r_iconst (v := 1) dX11_tear_77 rfl ?_
          refine r_icmp_ne 89 dX11_tear_78 (by decide) (fun h78 => ?_) (fun h78 => absurd h78 h1)
          refine r_iload_n dX11_tear_89 rfl ?_
          refine r_iconst (v := 2) dX11_tear_90 rfl ?_
          refine r_icmp_ne 118 dX11_tear_91 (by decide) (fun h91 => absurd h91 (not_not_intro h2)) (fun h91 => ?_)
          refine r_iconst (v := 0) dX11_tear_94 rfl ?_
          refine r_istore_n (lv' := [(3, _), (2, _), (0, _), (1, _)]) dX11_tear_95 (Nat.le_of_ble_eq_true rfl) rfl ?_
          exact r_keep [3, 2, 0, 1] rfl (loop h2 _ rfl h0 h1 0 (by omega) I (fun _ _ => rfl) (fun i hi => by omega))
        · simp only [if_neg h0, if_neg h1, if_neg h2] at *
          refine r_iload_n dX11_tear_0 rfl ?_
          refine r_i2l dX11_tear_1 rfl ?_
          refine r_lconst (v := 0) dX11_tear_2 rfl ?_
          refine r_ldc2 (v := (3 : Int64)) (fd_in 1108 (by decide +kernel) (by decide +kernel)) dX11_tear_3 ?_
          refine r_cSr (As := [_, _, _]) (c_in3 α _ _ _) lk_11_97 (by decide) (by decide) rfl rfl (Nat.le_of_ble_eq_true rfl) dX11_tear_6 ?_
          refine r_if_ne 19 dX11_tear_9 (by decide) (fun h9 => ?_) (fun h9 => absurd h9 (fd_bn.mpr hok))
          refine r_iload_n dX11_tear_19 rfl ?_
          refine r_if_ne 30 dX11_tear_20 (by decide) (fun h20 => ?_) (fun h20 => absurd h20 h0)
          refine r_iload_n dX11_tear_30 rfl ?_
          refine r_iconst (v := 1) dX11_tear_31 rfl ?_
          refine r_icmp_ne 42 dX11_tear_32 (by decide) (fun h32 => ?_) (fun h32 => absurd h32 h1)
          refine r_iload_n dX11_tear_42 rfl ?_
          refine r_iconst (v := 2) dX11_tear_43 rfl ?_
          refine r_icmp_ne 54 dX11_tear_44 (by decide) (fun h44 => ?_) (fun h44 => absurd h44 h2)
          refine r_aload_n dX11_tear_54 rfl ?_
          refine r_getV rfl rfl fl_11_109 dX11_tear_55 hnt ?_
          refine r_istore_n (lv' := [(2, _), (0, _), (1, _)]) dX11_tear_58 (Nat.le_of_ble_eq_true rfl) rfl ?_
          refine r_iload_n dX11_tear_59 rfl ?_
          refine r_if_ne 76 dX11_tear_60 (by decide) (fun h60 => ?_) (fun h60 => absurd h60 h0)
          refine r_iload_n dX11_tear_76 rfl ?_
          refine r_iconst (v := 1) dX11_tear_77 rfl ?_
          refine r_icmp_ne 89 dX11_tear_78 (by decide) (fun h78 => ?_) (fun h78 => absurd h78 h1)
          refine r_iload_n dX11_tear_89 rfl ?_
          refine r_iconst (v := 2) dX11_tear_90 rfl ?_
          refine r_icmp_ne 118 dX11_tear_91 (by decide) (fun h91 => ?_) (fun h91 => absurd h91 h2)
          refine r_aload_n dX11_tear_118 rfl ?_
          refine r_iconst (v := 0) dX11_tear_119 rfl ?_
          refine r_putI rfl rfl fl_11_109 fw_11_13 dX11_tear_120 ?_
          refine r_iload_n dX11_tear_123 rfl ?_
          refine r_iret rfl dX11_tear_124 ?_
          exact ⟨_, rfl, rfl, rfl, rfl⟩
  · simp only [if_neg hok]
    refine r_iload_n dX11_tear_0 rfl ?_
    refine r_i2l dX11_tear_1 rfl ?_
    refine r_lconst (v := 0) dX11_tear_2 rfl ?_
    refine r_ldc2 (v := (3 : Int64)) (fd_in 1108 (by decide +kernel) (by decide +kernel)) dX11_tear_3 ?_
    refine r_cSr (As := [_, _, _]) (c_in3 α _ _ _) lk_11_97 (by decide) (by decide) rfl rfl (Nat.le_of_ble_eq_true rfl) dX11_tear_6 ?_
    refine r_if_ne 19 dX11_tear_9 (by decide) (fun h9 => absurd h9 (not_not_intro (fd_b0.mpr hok))) (fun h9 => ?_)
    refine r_aload_n dX11_tear_12 rfl ?_
    refine r_bipush (v := (-2)) dX11_tear_13 rfl ?_
    refine r_cVr (As := [_]) (c_X11_bad α _ _ _) lk_11_120 rfl rfl (by decide) (by decide) rfl rfl (Nat.le_of_ble_eq_true rfl) dX11_tear_15 ?_
    refine r_iret rfl dX11_tear_18 ?_
    exact ⟨_, rfl, rfl, rfl, rfl⟩
theorem c_X11_undo (α : Nat → Nat) (I : fdI) (L : fdL) {ly : Nat} (hl : I 0 17 = nI ly) (h7 : ly ≤ 7) : Con fd_SM α yX11_undo mX11_undo [.ref (α 0)] I L (fd_is (some (.int (if ly = 0 then -3 else nI (ly - 1)))) (if ly = 0 then mNo I else fd_up I 0 17 (nI (ly - 1))) L) := by
  refine Con.of (by decide) rfl (Nat.le_of_ble_eq_true rfl) ?_
  by_cases h0 : ly = 0
  · subst h0
    rw [if_pos rfl, if_pos rfl]
    refine r_aload_n dX11_undo_0 rfl ?_
    refine r_getV rfl rfl fl_11_115 dX11_undo_1 hl ?_
    refine r_if_ne 12 dX11_undo_4 (by decide) (fun h4 => absurd h4 (not_not_intro rfl)) (fun h4 => ?_)
    refine r_aload_n dX11_undo_7 rfl ?_
    refine r_cVr (As := []) (c_X11_no α _ _) lk_11_131 rfl rfl (by decide) (by decide) rfl rfl (Nat.le_of_ble_eq_true rfl) dX11_undo_8 ?_
    refine r_iret rfl dX11_undo_11 ?_
    exact fd_isI rfl rfl rfl
  · rw [if_neg h0, if_neg h0]
    obtain ⟨k, rfl⟩ : ∃ k, ly = k + 1 := ⟨ly - 1, by omega⟩
    rw [Nat.add_sub_cancel]
    refine r_aload_n dX11_undo_0 rfl ?_
    refine r_getV rfl rfl fl_11_115 dX11_undo_1 hl ?_
    refine r_if_ne 12 dX11_undo_4 (by decide) (fun h4 => ?_) (fun h4 => absurd h4 (nI_ne0 (by omega) (by omega)))
    refine r_aload_n dX11_undo_12 rfl ?_
    refine r_dup dX11_undo_13 rfl ?_
    refine r_getV rfl rfl fl_11_115 dX11_undo_14 hl ?_
    refine r_iconst (v := 1) dX11_undo_17 rfl ?_
    refine r_isub dX11_undo_18 ?_
    rw [nI_pred]
    refine r_putI rfl rfl fl_11_115 fw_11_17 dX11_undo_19 ?_
    refine r_aload_n dX11_undo_22 rfl ?_
    refine r_getV rfl rfl fl_11_115 dX11_undo_23 fd_up_same ?_
    refine r_iret rfl dX11_undo_26 ?_
    exact fd_isI rfl rfl rfl
theorem c_X11_part (α : Nat → Nat) (I : fdI) (L : fdL) (w : Int32) : Con fd_SM α yX11_part mX11_part [.ref (α 0), .int w] I L (fd_is (some (.long (if w = 0 then L 0 24 else if w = 1 then L 0 25 else -2))) (if w = 0 ∨ w = 1 then I else mBad I) L) := by
  refine Con.of (by decide) rfl (Nat.le_of_ble_eq_true rfl) ?_
  by_cases h0 : w = 0
  · rw [if_pos h0, if_pos (Or.inl h0)]
    refine r_iload_n dX11_part_0 rfl ?_
    refine r_if_ne 11 dX11_part_1 (by decide) (fun h1 => absurd h1 (not_not_intro h0)) (fun h1 => ?_)
    refine r_aload_n dX11_part_4 rfl ?_
    refine r_getJ rfl rfl fl_11_86 dX11_part_5 ?_
    refine r_goto (tgt := 30) dX11_part_8 (by decide) ?_
    refine r_lret rfl dX11_part_30 ?_
    exact fd_isI rfl rfl rfl
  · rw [if_neg h0]
    by_cases z1 : w = 1
    · rw [if_pos z1, if_pos (Or.inr z1)]
      refine r_iload_n dX11_part_0 rfl ?_
      refine r_if_ne 11 dX11_part_1 (by decide) (fun h1 => ?_) (fun h1 => absurd h1 h0)
      refine r_iload_n dX11_part_11 rfl ?_
      refine r_iconst (v := 1) dX11_part_12 rfl ?_
      refine r_icmp_ne 23 dX11_part_13 (by decide) (fun h13 => absurd h13 (not_not_intro z1)) (fun h13 => ?_)
      refine r_aload_n dX11_part_16 rfl ?_
      refine r_getJ rfl rfl fl_11_90 dX11_part_17 ?_
      refine r_goto (tgt := 30) dX11_part_20 (by decide) ?_
      refine r_lret rfl dX11_part_30 ?_
      exact fd_isI rfl rfl rfl
    · rw [if_neg z1, if_neg (fun q => q.elim h0 z1)]
      refine r_iload_n dX11_part_0 rfl ?_
      refine r_if_ne 11 dX11_part_1 (by decide) (fun h1 => ?_) (fun h1 => absurd h1 h0)
      refine r_iload_n dX11_part_11 rfl ?_
      refine r_iconst (v := 1) dX11_part_12 rfl ?_
      refine r_icmp_ne 23 dX11_part_13 (by decide) (fun h13 => ?_) (fun h13 => absurd h13 z1)
      refine r_aload_n dX11_part_23 rfl ?_
      refine r_bipush (v := (-2)) dX11_part_24 rfl ?_
      refine r_cVr (As := [_]) (c_X11_bad α _ _ _) lk_11_120 rfl rfl (by decide) (by decide) rfl rfl (Nat.le_of_ble_eq_true rfl) dX11_part_26 ?_
      refine r_i2l dX11_part_29 rfl ?_
      refine r_lret rfl dX11_part_30 ?_
      exact fd_isI rfl rfl rfl
theorem c_X11_status (α : Nat → Nat) (I : fdI) (L : fdL) (w : Int32) : Con fd_SM α yX11_status mX11_status [.ref (α 0), .int w] I L (fd_is (some (.int (if dayP w 3 then I 1 w.toNatClampNeg else -1))) (if dayP w 3 then I else mBad I) L) := by
  refine Con.of (by decide) rfl (Nat.le_of_ble_eq_true rfl) ?_
  by_cases hok : dayP w 3
  · rw [if_pos hok, if_pos hok]
    obtain ⟨j, hj, rfl⟩ := dayP_nI hok
    rw [nI_clamp (by omega)]
    refine r_iload_n dX11_status_0 rfl ?_
    refine r_i2l dX11_status_1 rfl ?_
    refine r_lconst (v := 0) dX11_status_2 rfl ?_
    refine r_ldc2 (v := (2 : Int64)) (fd_in 1200 (by decide +kernel) (by decide +kernel)) dX11_status_3 ?_
    refine r_cSr (As := [_, _, _]) (c_in2 α _ _ _) lk_11_97 (by decide) (by decide) rfl rfl (Nat.le_of_ble_eq_true rfl) dX11_status_6 ?_
    refine r_if_eq 21 dX11_status_9 (by decide) (fun h9 => absurd h9 (fd_bn.mpr hok)) (fun h9 => ?_)
    refine r_aload_n dX11_status_12 rfl ?_
    refine r_getR rfl rfl fl_11_7 dX11_status_13 ?_
    refine r_iload_n dX11_status_16 rfl ?_
    refine r_ialdN rfl dX11_status_17 (by omega) (by omega) rfl ?_
    refine r_goto (tgt := 26) dX11_status_18 (by decide) ?_
    refine r_iret rfl dX11_status_26 ?_
    exact fd_isI rfl rfl rfl
  · rw [if_neg hok, if_neg hok]
    refine r_iload_n dX11_status_0 rfl ?_
    refine r_i2l dX11_status_1 rfl ?_
    refine r_lconst (v := 0) dX11_status_2 rfl ?_
    refine r_ldc2 (v := (2 : Int64)) (fd_in 1200 (by decide +kernel) (by decide +kernel)) dX11_status_3 ?_
    refine r_cSr (As := [_, _, _]) (c_in2 α _ _ _) lk_11_97 (by decide) (by decide) rfl rfl (Nat.le_of_ble_eq_true rfl) dX11_status_6 ?_
    refine r_if_eq 21 dX11_status_9 (by decide) (fun h9 => ?_) (fun h9 => absurd h9 (not_not_intro (fd_b0.mpr hok)))
    refine r_aload_n dX11_status_21 rfl ?_
    refine r_iconst (v := (-1)) dX11_status_22 rfl ?_
    refine r_cVr (As := [_]) (c_X11_bad α _ _ _) lk_11_120 rfl rfl (by decide) (by decide) rfl rfl (Nat.le_of_ble_eq_true rfl) dX11_status_23 ?_
    refine r_iret rfl dX11_status_26 ?_
    exact fd_isI rfl rfl rfl
