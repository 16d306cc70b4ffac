/-! the class: what she knows -/
def o_lived (s : pS) (d : Int32) : oT := if dayP d s.2.1 then (nI ((prm s.2.1 s.2.2.2.2.2.1) d.toNatClampNeg), s, 3) else (-2, s, 0)
theorem c_X10_lived (s : pS) (α : Nat → Nat) (I : fdI) (L : fdL) (d : Int32) (hs : stOk s) (hx : xSt 8 s I) : Con fd_SX α yX10_lived mX10_lived [.ref (α 0), .int d] I L (fd_ip (xOut (o_lived s d) I L)) := by
  refine Con.of (by decide) rfl (Nat.le_of_ble_eq_true rfl) ?_
  unfold o_lived
  have hn7 := hs.n7
  by_cases hok : dayP d s.2.1
  · rw [if_pos hok]
    obtain ⟨j, hj, rfl⟩ := dayP_nI hok
    rw [nI_clamp (by omega)]
    refine r_aload_n dX10_lived_0 rfl ?_
    refine r_getR rfl rfl fl_10_18 dX10_lived_1 ?_
    refine r_iload_n dX10_lived_4 rfl ?_
    refine r_cVr (As := [_]) (c_X5_hasDay α _ _ _ hx.n hn7) lk_10_144 rfl rfl (by decide) (by decide) rfl rfl (Nat.le_of_ble_eq_true rfl) dX10_lived_5 ?_
    refine r_if_ne 18 dX10_lived_8 (by decide) (fun h8 => ?_) (fun h8 => absurd h8 (fd_bn.mpr hok))
    refine r_aload_n dX10_lived_18 rfl ?_
    refine r_aload_n dX10_lived_19 rfl ?_
    refine r_getR rfl rfl fl_10_18 dX10_lived_20 ?_
    refine r_getV rfl rfl fl_10_148 dX10_lived_23 hx.num.2.2.2.1 ?_
    refine r_cVq (As := [_]) (c_X10_follow s α _ _ _ hs hx hs.num.2.2.2.1) lk_10_151 rfl rfl (by decide) (by decide) rfl rfl (Nat.le_of_ble_eq_true rfl) dX10_lived_26 (fun I26 L26 q26 => ?_)
    obtain ⟨rfl, f26, c26, l26⟩ := q26
    refine r_aload_n dX10_lived_29 rfl ?_
    refine r_getR rfl rfl fl_10_43 dX10_lived_30 ?_
    refine r_getR rfl rfl fl_10_155 dX10_lived_33 ?_
    refine r_iload_n dX10_lived_36 rfl ?_
    refine r_ialdN rfl dX10_lived_37 (by omega) (by omega) (c26.2.1 j hj) ?_
    refine r_iret rfl dX10_lived_38 ?_
    exact ⟨_, rfl, xOut.ask hx f26⟩
  · rw [if_neg hok]
    refine r_aload_n dX10_lived_0 rfl ?_
    refine r_getR rfl rfl fl_10_18 dX10_lived_1 ?_
    refine r_iload_n dX10_lived_4 rfl ?_
    refine r_cVr (As := [_]) (c_X5_hasDay α _ _ _ hx.n hn7) lk_10_144 rfl rfl (by decide) (by decide) rfl rfl (Nat.le_of_ble_eq_true rfl) dX10_lived_5 ?_
    refine r_if_ne 18 dX10_lived_8 (by decide) (fun h8 => absurd h8 (not_not_intro (fd_b0.mpr hok))) (fun h8 => ?_)
    refine r_aload_n dX10_lived_11 rfl ?_
    refine r_bipush (v := (-2)) dX10_lived_12 rfl ?_
    refine r_cVr (As := [_]) (c_X10_counted α _ _ _) lk_10_91 rfl rfl (by decide) (by decide) rfl rfl (Nat.le_of_ble_eq_true rfl) dX10_lived_14 ?_
    refine r_iret rfl dX10_lived_17 ?_
    exact ⟨_, rfl, xOut.cn hx xFr.rfl' rfl rfl⟩
def o_knows (s : pS) (d : Int32) : oT := if dayP d s.2.1 then ((knV s.1 s.2.1 s.2.2.1 (prm s.2.1 s.2.2.2.2.2.1)) d.toNatClampNeg, s, 3) else (-2, s, 0)
theorem c_X10_knows (s : pS) (α : Nat → Nat) (I : fdI) (L : fdL) (d : Int32) (hs : stOk s) (hx : xSt 8 s I) : Con fd_SX α yX10_knows mX10_knows [.ref (α 0), .int d] I L (fd_ip (xOut (o_knows s d) I L)) := by
  refine Con.of (by decide) rfl (Nat.le_of_ble_eq_true rfl) ?_
  unfold o_knows
  have hn7 := hs.n7
  by_cases hok : dayP d s.2.1
  · rw [if_pos hok]
    obtain ⟨j, hj, rfl⟩ := dayP_nI hok
    rw [nI_clamp (by omega)]
    refine r_aload_n dX10_knows_0 rfl ?_
    refine r_getR rfl rfl fl_10_18 dX10_knows_1 ?_
    refine r_iload_n dX10_knows_4 rfl ?_
    refine r_cVr (As := [_]) (c_X5_hasDay α _ _ _ hx.n hn7) lk_10_144 rfl rfl (by decide) (by decide) rfl rfl (Nat.le_of_ble_eq_true rfl) dX10_knows_5 ?_
    refine r_if_ne 18 dX10_knows_8 (by decide) (fun h8 => ?_) (fun h8 => absurd h8 (fd_bn.mpr hok))
    refine r_aload_n dX10_knows_18 rfl ?_
    refine r_aload_n dX10_knows_19 rfl ?_
    refine r_getR rfl rfl fl_10_18 dX10_knows_20 ?_
    refine r_getV rfl rfl fl_10_148 dX10_knows_23 hx.num.2.2.2.1 ?_
    refine r_cVq (As := [_]) (c_X10_follow s α _ _ _ hs hx hs.num.2.2.2.1) lk_10_151 rfl rfl (by decide) (by decide) rfl rfl (Nat.le_of_ble_eq_true rfl) dX10_knows_26 (fun I26 L26 q26 => ?_)
    obtain ⟨rfl, f26, c26, l26⟩ := q26
    refine r_aload_n dX10_knows_29 rfl ?_
    refine r_getR rfl rfl fl_10_43 dX10_knows_30 ?_
    refine r_getR rfl rfl fl_10_158 dX10_knows_33 ?_
    refine r_iload_n dX10_knows_36 rfl ?_
    refine r_ialdN rfl dX10_knows_37 (by omega) (by omega) (l26 j hj).2.2 ?_
    refine r_iret rfl dX10_knows_38 ?_
    exact ⟨_, rfl, xOut.ask hx f26⟩
  · rw [if_neg hok]
    refine r_aload_n dX10_knows_0 rfl ?_
    refine r_getR rfl rfl fl_10_18 dX10_knows_1 ?_
    refine r_iload_n dX10_knows_4 rfl ?_
    refine r_cVr (As := [_]) (c_X5_hasDay α _ _ _ hx.n hn7) lk_10_144 rfl rfl (by decide) (by decide) rfl rfl (Nat.le_of_ble_eq_true rfl) dX10_knows_5 ?_
    refine r_if_ne 18 dX10_knows_8 (by decide) (fun h8 => absurd h8 (not_not_intro (fd_b0.mpr hok))) (fun h8 => ?_)
    refine r_aload_n dX10_knows_11 rfl ?_
    refine r_bipush (v := (-2)) dX10_knows_12 rfl ?_
    refine r_cVr (As := [_]) (c_X10_counted α _ _ _) lk_10_91 rfl rfl (by decide) (by decide) rfl rfl (Nat.le_of_ble_eq_true rfl) dX10_knows_14 ?_
    refine r_iret rfl dX10_knows_17 ?_
    exact ⟨_, rfl, xOut.cn hx xFr.rfl' rfl rfl⟩
def o_reads (s : pS) (d : Int32) : oT := if dayP d s.2.1 then (rdV s.1 s.2.2.1 (knV s.1 s.2.1 s.2.2.1 (prm s.2.1 s.2.2.2.2.2.1)) d.toNatClampNeg, s, 3) else (-2, s, 0)
theorem c_X10_reads (s : pS) (α : Nat → Nat) (I : fdI) (L : fdL) (d : Int32) (hs : stOk s) (hx : xSt 8 s I) : Con fd_SX α yX10_reads mX10_reads [.ref (α 0), .int d] I L (fd_ip (xOut (o_reads s d) I L)) := by
  refine Con.of (by decide) rfl (Nat.le_of_ble_eq_true rfl) ?_
  unfold o_reads
  have hn7 := hs.n7
  by_cases hok : dayP d s.2.1
  · rw [if_pos hok]
    obtain ⟨j, hj, rfl⟩ := dayP_nI hok
    rw [nI_clamp (by omega)]
    refine r_aload_n dX10_reads_0 rfl ?_
    refine r_getR rfl rfl fl_10_18 dX10_reads_1 ?_
    refine r_iload_n dX10_reads_4 rfl ?_
    refine r_cVr (As := [_]) (c_X5_hasDay α _ _ _ hx.n hn7) lk_10_144 rfl rfl (by decide) (by decide) rfl rfl (Nat.le_of_ble_eq_true rfl) dX10_reads_5 ?_
    refine r_if_ne 18 dX10_reads_8 (by decide) (fun h8 => ?_) (fun h8 => absurd h8 (fd_bn.mpr hok))
    refine r_aload_n dX10_reads_18 rfl ?_
    refine r_aload_n dX10_reads_19 rfl ?_
    refine r_getR rfl rfl fl_10_18 dX10_reads_20 ?_
    refine r_getV rfl rfl fl_10_148 dX10_reads_23 hx.num.2.2.2.1 ?_
    refine r_cVq (As := [_]) (c_X10_follow s α _ _ _ hs hx hs.num.2.2.2.1) lk_10_151 rfl rfl (by decide) (by decide) rfl rfl (Nat.le_of_ble_eq_true rfl) dX10_reads_26 (fun I26 L26 q26 => ?_)
    obtain ⟨rfl, f26, c26, l26⟩ := q26
    refine r_aload_n dX10_reads_29 rfl ?_
    refine r_getR rfl rfl fl_10_43 dX10_reads_30 ?_
    refine r_getR rfl rfl fl_10_161 dX10_reads_33 ?_
    refine r_iload_n dX10_reads_36 rfl ?_
    refine r_ialdN rfl dX10_reads_37 (by omega) (by omega) (l26 j hj).2.1 ?_
    refine r_iret rfl dX10_reads_38 ?_
    exact ⟨_, rfl, xOut.ask hx f26⟩
  · rw [if_neg hok]
    refine r_aload_n dX10_reads_0 rfl ?_
    refine r_getR rfl rfl fl_10_18 dX10_reads_1 ?_
    refine r_iload_n dX10_reads_4 rfl ?_
    refine r_cVr (As := [_]) (c_X5_hasDay α _ _ _ hx.n hn7) lk_10_144 rfl rfl (by decide) (by decide) rfl rfl (Nat.le_of_ble_eq_true rfl) dX10_reads_5 ?_
    refine r_if_ne 18 dX10_reads_8 (by decide) (fun h8 => absurd h8 (not_not_intro (fd_b0.mpr hok))) (fun h8 => ?_)
    refine r_aload_n dX10_reads_11 rfl ?_
    refine r_bipush (v := (-2)) dX10_reads_12 rfl ?_
    refine r_cVr (As := [_]) (c_X10_counted α _ _ _) lk_10_91 rfl rfl (by decide) (by decide) rfl rfl (Nat.le_of_ble_eq_true rfl) dX10_reads_14 ?_
    refine r_iret rfl dX10_reads_17 ?_
    exact ⟨_, rfl, xOut.cn hx xFr.rfl' rfl rfl⟩
def o_missing (s : pS) (d : Int32) : oT := if dayP d s.2.1 then (miV s.1 (knV s.1 s.2.1 s.2.2.1 (prm s.2.1 s.2.2.2.2.2.1)) d.toNatClampNeg, s, 3) else (-2, s, 0)
theorem c_X10_missing (s : pS) (α : Nat → Nat) (I : fdI) (L : fdL) (d : Int32) (hs : stOk s) (hx : xSt 8 s I) : Con fd_SX α yX10_missing mX10_missing [.ref (α 0), .int d] I L (fd_ip (xOut (o_missing s d) I L)) := by
  refine Con.of (by decide) rfl (Nat.le_of_ble_eq_true rfl) ?_
  unfold o_missing
  have hn7 := hs.n7
  by_cases hok : dayP d s.2.1
  · rw [if_pos hok]
    obtain ⟨j, hj, rfl⟩ := dayP_nI hok
    rw [nI_clamp (by omega)]
    refine r_aload_n dX10_missing_0 rfl ?_
    refine r_getR rfl rfl fl_10_18 dX10_missing_1 ?_
    refine r_iload_n dX10_missing_4 rfl ?_
    refine r_cVr (As := [_]) (c_X5_hasDay α _ _ _ hx.n hn7) lk_10_144 rfl rfl (by decide) (by decide) rfl rfl (Nat.le_of_ble_eq_true rfl) dX10_missing_5 ?_
    refine r_if_ne 18 dX10_missing_8 (by decide) (fun h8 => ?_) (fun h8 => absurd h8 (fd_bn.mpr hok))
    refine r_aload_n dX10_missing_18 rfl ?_
    refine r_aload_n dX10_missing_19 rfl ?_
    refine r_getR rfl rfl fl_10_18 dX10_missing_20 ?_
    refine r_getV rfl rfl fl_10_148 dX10_missing_23 hx.num.2.2.2.1 ?_
    refine r_cVq (As := [_]) (c_X10_follow s α _ _ _ hs hx hs.num.2.2.2.1) lk_10_151 rfl rfl (by decide) (by decide) rfl rfl (Nat.le_of_ble_eq_true rfl) dX10_missing_26 (fun I26 L26 q26 => ?_)
    obtain ⟨rfl, f26, c26, l26⟩ := q26
    refine r_aload_n dX10_missing_29 rfl ?_
    refine r_getR rfl rfl fl_10_43 dX10_missing_30 ?_
    refine r_iload_n dX10_missing_33 rfl ?_
    refine r_cVr (As := [_]) (c_X2_lacking α _ _ j (by omega)) lk_10_164 rfl rfl (by decide) (by decide) rfl rfl (Nat.le_of_ble_eq_true rfl) dX10_missing_34 ?_
    rw [(c26.1.2 j hj).2.2.2.1, (l26 j hj).2.2]
    refine r_iret rfl dX10_missing_37 ?_
    exact ⟨_, rfl, xOut.ask hx f26⟩
  · rw [if_neg hok]
    refine r_aload_n dX10_missing_0 rfl ?_
    refine r_getR rfl rfl fl_10_18 dX10_missing_1 ?_
    refine r_iload_n dX10_missing_4 rfl ?_
    refine r_cVr (As := [_]) (c_X5_hasDay α _ _ _ hx.n hn7) lk_10_144 rfl rfl (by decide) (by decide) rfl rfl (Nat.le_of_ble_eq_true rfl) dX10_missing_5 ?_
    refine r_if_ne 18 dX10_missing_8 (by decide) (fun h8 => absurd h8 (not_not_intro (fd_b0.mpr hok))) (fun h8 => ?_)
    refine r_aload_n dX10_missing_11 rfl ?_
    refine r_bipush (v := (-2)) dX10_missing_12 rfl ?_
    refine r_cVr (As := [_]) (c_X10_counted α _ _ _) lk_10_91 rfl rfl (by decide) (by decide) rfl rfl (Nat.le_of_ble_eq_true rfl) dX10_missing_14 ?_
    refine r_iret rfl dX10_missing_17 ?_
    exact ⟨_, rfl, xOut.cn hx xFr.rfl' rfl rfl⟩
def o_cards (s : pS) (d : Int32) : oT := if dayP d s.2.1 then (caV s.1 s.2.1 s.2.2.1 (prm s.2.1 s.2.2.2.2.2.1) d.toNatClampNeg, s, 3) else (-2, s, 0)
theorem c_X10_cards (s : pS) (α : Nat → Nat) (I : fdI) (L : fdL) (d : Int32) (hs : stOk s) (hx : xSt 8 s I) : Con fd_SX α yX10_cards mX10_cards [.ref (α 0), .int d] I L (fd_ip (xOut (o_cards s d) I L)) := by
  refine Con.of (by decide) rfl (Nat.le_of_ble_eq_true rfl) ?_
  unfold o_cards
  have hn7 := hs.n7
  by_cases hok : dayP d s.2.1
  · rw [if_pos hok]
    obtain ⟨j, hj, rfl⟩ := dayP_nI hok
    rw [nI_clamp (by omega)]
    have loop : ∀ I2 : fdI, cfr I I2 → lvX s.1 s.2.1 s.2.2.1 (prm s.2.1 s.2.2.2.2.2.1) I2 → ∀ k, k ≤ j → Rn fd_SX α mX10_cards 33 [(3, .int (nI k)), (2, .int (orN (knV s.1 s.2.1 s.2.2.1 (prm s.2.1 s.2.2.2.2.2.1)) k)), (0, .ref (α 0)), (1, .int (nI j))] [] I2 L (fd_ip (xOut (caV s.1 s.2.1 s.2.2.1 (prm s.2.1 s.2.2.2.2.2.1) j, s, 3) I L)) := by
      intro I2 f2 l2
      refine fd_down (fun k hk ih => ?_)
      by_cases hx2 : k = j
      · subst hx2
        refine r_iload_n dX10_cards_33 rfl ?_
        refine r_iload_n dX10_cards_34 rfl ?_
        refine r_icmp_ge 56 dX10_cards_35 (by decide) (fun h35 => ?_) (fun h35 => absurd h35 (not_not_intro (Int32.le_refl _)))
        refine r_iload_n dX10_cards_56 rfl ?_
        refine r_aload_n dX10_cards_57 rfl ?_
        refine r_getR rfl rfl fl_10_43 dX10_cards_58 ?_
        refine r_getR rfl rfl fl_10_158 dX10_cards_61 ?_
        refine r_iload_n dX10_cards_64 rfl ?_
        refine r_ialdN rfl dX10_cards_65 (by omega) (by omega) (l2 k hj).2.2 ?_
        refine r_iconst (v := (-1)) dX10_cards_66 rfl ?_
        refine r_ixor dX10_cards_67 ?_
        refine r_iand dX10_cards_68 ?_
        refine r_iret rfl dX10_cards_69 ?_
        exact ⟨_, rfl, xOut.ask hx f2⟩
      · refine r_iload_n dX10_cards_33 rfl ?_
        refine r_iload_n dX10_cards_34 rfl ?_
        refine r_icmp_ge 56 dX10_cards_35 (by decide) (fun h35 => absurd h35 (fun q => absurd ((nI_leI (by omega) (by omega)).mp q) (by omega))) (fun h35 => ?_)
        refine r_iload_n dX10_cards_38 rfl ?_
        refine r_aload_n dX10_cards_39 rfl ?_
        refine r_getR rfl rfl fl_10_43 dX10_cards_40 ?_
        refine r_getR rfl rfl fl_10_158 dX10_cards_43 ?_
        refine r_iload_n dX10_cards_46 rfl ?_
        refine r_ialdN rfl dX10_cards_47 (by omega) (by omega) (l2 k (by omega)).2.2 ?_
        refine r_ior dX10_cards_48 ?_
        refine r_istore_n (lv' := [(2, _), (3, _), (0, _), (1, _)]) dX10_cards_49 (Nat.le_of_ble_eq_true rfl) rfl ?_
        refine r_iinc (v := _ + 1) (lv' := [(3, _), (2, _), (0, _), (1, _)]) dX10_cards_50 rfl rfl (Nat.le_of_ble_eq_true rfl) rfl ?_
        refine r_goto (tgt := 33) dX10_cards_53 (by decide) ?_
        rw [nI_1]
        exact r_keep [3, 2, 0, 1] rfl (ih (by omega))
    refine r_aload_n dX10_cards_0 rfl ?_
    refine r_getR rfl rfl fl_10_18 dX10_cards_1 ?_
    refine r_iload_n dX10_cards_4 rfl ?_
    refine r_cVr (As := [_]) (c_X5_hasDay α _ _ _ hx.n hn7) lk_10_144 rfl rfl (by decide) (by decide) rfl rfl (Nat.le_of_ble_eq_true rfl) dX10_cards_5 ?_
    refine r_if_ne 18 dX10_cards_8 (by decide) (fun h8 => ?_) (fun h8 => absurd h8 (fd_bn.mpr hok))
    refine r_aload_n dX10_cards_18 rfl ?_
    refine r_aload_n dX10_cards_19 rfl ?_
    refine r_getR rfl rfl fl_10_18 dX10_cards_20 ?_
    refine r_getV rfl rfl fl_10_148 dX10_cards_23 hx.num.2.2.2.1 ?_
    refine r_cVq (As := [_]) (c_X10_follow s α _ _ _ hs hx hs.num.2.2.2.1) lk_10_151 rfl rfl (by decide) (by decide) rfl rfl (Nat.le_of_ble_eq_true rfl) dX10_cards_26 (fun I26 L26 q26 => ?_)
    obtain ⟨rfl, f26, c26, l26⟩ := q26
    refine r_iconst (v := 0) dX10_cards_29 rfl ?_
    refine r_istore_n (lv' := [(2, _), (0, _), (1, _)]) dX10_cards_30 (Nat.le_of_ble_eq_true rfl) rfl ?_
    refine r_iconst (v := 0) dX10_cards_31 rfl ?_
    refine r_istore_n (lv' := [(3, _), (2, _), (0, _), (1, _)]) dX10_cards_32 (Nat.le_of_ble_eq_true rfl) rfl ?_
    exact r_keep [3, 2, 0, 1] rfl (loop _ f26 l26 0 (by omega))
  · rw [if_neg hok]
    refine r_aload_n dX10_cards_0 rfl ?_
    refine r_getR rfl rfl fl_10_18 dX10_cards_1 ?_
    refine r_iload_n dX10_cards_4 rfl ?_
    refine r_cVr (As := [_]) (c_X5_hasDay α _ _ _ hx.n hn7) lk_10_144 rfl rfl (by decide) (by decide) rfl rfl (Nat.le_of_ble_eq_true rfl) dX10_cards_5 ?_
    refine r_if_ne 18 dX10_cards_8 (by decide) (fun h8 => absurd h8 (not_not_intro (fd_b0.mpr hok))) (fun h8 => ?_)
    refine r_aload_n dX10_cards_11 rfl ?_
    refine r_bipush (v := (-2)) dX10_cards_12 rfl ?_
    refine r_cVr (As := [_]) (c_X10_counted α _ _ _) lk_10_91 rfl rfl (by decide) (by decide) rfl rfl (Nat.le_of_ble_eq_true rfl) dX10_cards_14 ?_
    refine r_iret rfl dX10_cards_17 ?_
    exact ⟨_, rfl, xOut.cn hx xFr.rfl' rfl rfl⟩
def o_first (s : pS) (w : Int32) : oT := if dayP w 2 then (if w = 0 then fiV s.1 s.2.1 s.2.2.1 (prm s.2.1 s.2.2.2.2.2.1) else nI (wlN s.1 s.2.1 s.2.2.1 (prm s.2.1 s.2.2.2.2.2.1)), s, 3) else (-2, s, 0)
theorem le_of_dayP {w : Int32} {m : Nat} (h : dayP w (m + 1)) (hm : m < 2 ^ 31) : w ≤ nI m := by
  rw [Int32.le_iff_toInt_le, nI_toInt hm]
  have := h.2
  omega
theorem dayP_le {w : Int32} {m : Nat} (hm : m < 2 ^ 31) (h0 : ¬ w < 0) (h1 : w ≤ nI m) : dayP w (m + 1) := by
  rw [Int32.le_iff_toInt_le, nI_toInt hm] at h1
  exact ⟨Int.not_lt.mp (fun q => h0 (i_lt0.mpr q)), by omega⟩
theorem c_X10_first (s : pS) (α : Nat → Nat) (I : fdI) (L : fdL) (w : Int32) (hs : stOk s) (hx : xSt 8 s I) : Con fd_SX α yX10_first mX10_first [.ref (α 0), .int w] I L (fd_ip (xOut (o_first s w) I L)) := by
  refine Con.of (by decide) rfl (Nat.le_of_ble_eq_true rfl) ?_
  unfold o_first
  have hn7 := hs.n7
  have hP := prm_P hn7 hs.num.2.2.2.1
  by_cases hok : dayP w 2
  · rw [if_pos hok]
    have g1 : w ≤ 1 := le_of_dayP (m := 1) hok (by decide)
    by_cases hw : w = 0
    · rw [if_pos hw]
      refine r_iload_n dX10_first_0 rfl ?_
      refine r_if_lt 9 dX10_first_1 (by decide) (fun h1 => absurd h1 (dayP_n0 hok)) (fun h1 => ?_)
      refine r_iload_n dX10_first_4 rfl ?_
      refine r_iconst (v := 1) dX10_first_5 rfl ?_
      refine r_icmp_le 16 dX10_first_6 (by decide) (fun h6 => ?_) (fun h6 => absurd h6 (not_not_intro g1))
      refine r_aload_n dX10_first_16 rfl ?_
      refine r_aload_n dX10_first_17 rfl ?_
      refine r_getR rfl rfl fl_10_18 dX10_first_18 ?_
      refine r_getV rfl rfl fl_10_148 dX10_first_21 hx.num.2.2.2.1 ?_
      refine r_cVq (As := [_]) (c_X10_follow s α _ _ _ hs hx hs.num.2.2.2.1) lk_10_151 rfl rfl (by decide) (by decide) rfl rfl (Nat.le_of_ble_eq_true rfl) dX10_first_24 (fun I24 L24 q24 => ?_)
      obtain ⟨rfl, f24, c24, l24⟩ := q24
      refine r_iload_n dX10_first_27 rfl ?_
      refine r_if_ne 41 dX10_first_28 (by decide) (fun h28 => absurd h28 (not_not_intro hw)) (fun h28 => ?_)
      refine r_aload_n dX10_first_31 rfl ?_
      refine r_getR rfl rfl fl_10_43 dX10_first_32 ?_
      refine r_cVr (As := []) (c_X2_firstFailing s.1 (knV s.1 s.2.1 s.2.2.1 (prm s.2.1 s.2.2.2.2.2.1)) α _ _ hn7 hP c24.1 c24.2.1 l24.k) lk_10_167 rfl rfl (by decide) (by decide) rfl rfl (Nat.le_of_ble_eq_true rfl) dX10_first_35 ?_
      refine r_goto (tgt := 55) dX10_first_38 (by decide) ?_
      refine r_iret rfl dX10_first_55 ?_
      exact ⟨_, rfl, xOut.ask hx f24⟩
    · rw [if_neg hw]
      refine r_iload_n dX10_first_0 rfl ?_
      refine r_if_lt 9 dX10_first_1 (by decide) (fun h1 => absurd h1 (dayP_n0 hok)) (fun h1 => ?_)
      refine r_iload_n dX10_first_4 rfl ?_
      refine r_iconst (v := 1) dX10_first_5 rfl ?_
      refine r_icmp_le 16 dX10_first_6 (by decide) (fun h6 => ?_) (fun h6 => absurd h6 (not_not_intro g1))
      refine r_aload_n dX10_first_16 rfl ?_
      refine r_aload_n dX10_first_17 rfl ?_
      refine r_getR rfl rfl fl_10_18 dX10_first_18 ?_
      refine r_getV rfl rfl fl_10_148 dX10_first_21 hx.num.2.2.2.1 ?_
      refine r_cVq (As := [_]) (c_X10_follow s α _ _ _ hs hx hs.num.2.2.2.1) lk_10_151 rfl rfl (by decide) (by decide) rfl rfl (Nat.le_of_ble_eq_true rfl) dX10_first_24 (fun I24 L24 q24 => ?_)
      obtain ⟨rfl, f24, c24, l24⟩ := q24
      refine r_iload_n dX10_first_27 rfl ?_
      refine r_if_ne 41 dX10_first_28 (by decide) (fun h28 => ?_) (fun h28 => absurd h28 hw)
      refine r_aload_n dX10_first_41 rfl ?_
      refine r_getR rfl rfl fl_10_43 dX10_first_42 ?_
      refine r_aload_n dX10_first_45 rfl ?_
      refine r_getR rfl rfl fl_10_18 dX10_first_46 ?_
      refine r_getV rfl rfl fl_10_170 dX10_first_49 (f24.st hx (by decide)).n ?_
      refine r_cVr (As := [_]) (c_X2_wellAmong s.1 (knV s.1 s.2.1 s.2.2.1 (prm s.2.1 s.2.2.2.2.2.1)) α _ _ s.2.1 hn7 (Nat.le_refl _) hP c24.1 c24.2.1 l24.k) lk_10_173 rfl rfl (by decide) (by decide) rfl rfl (Nat.le_of_ble_eq_true rfl) dX10_first_52 ?_
      rw [wlN_perm hP]
      refine r_iret rfl dX10_first_55 ?_
      exact ⟨_, rfl, xOut.ask hx f24⟩
  · rw [if_neg hok]
    refine r_iload_n dX10_first_0 rfl ?_
    refine r_if_lt 9 dX10_first_1 (by decide) (fun h1 => ?_) (fun h1 => ?_)
    · refine r_aload_n dX10_first_9 rfl ?_
      refine r_bipush (v := (-2)) dX10_first_10 rfl ?_
      refine r_cVr (As := [_]) (c_X10_counted α _ _ _) lk_10_91 rfl rfl (by decide) (by decide) rfl rfl (Nat.le_of_ble_eq_true rfl) dX10_first_12 ?_
      refine r_iret rfl dX10_first_15 ?_
      exact ⟨_, rfl, xOut.cn hx xFr.rfl' rfl rfl⟩
    · refine r_iload_n dX10_first_4 rfl ?_
      refine r_iconst (v := 1) dX10_first_5 rfl ?_
      refine r_icmp_le 16 dX10_first_6 (by decide) (fun h6 => absurd h6 (fun q => hok (dayP_le (m := 1) (by decide) h1 q))) (fun h6 => ?_)
      refine r_aload_n dX10_first_9 rfl ?_
      refine r_bipush (v := (-2)) dX10_first_10 rfl ?_
      refine r_cVr (As := [_]) (c_X10_counted α _ _ _) lk_10_91 rfl rfl (by decide) (by decide) rfl rfl (Nat.le_of_ble_eq_true rfl) dX10_first_12 ?_
      refine r_iret rfl dX10_first_15 ?_
      exact ⟨_, rfl, xOut.cn hx xFr.rfl' rfl rfl⟩
def o_live (s : pS) : oT := if s.2.2.2.2.2.2.2 = s.2.1 then (-3, s, 1) else (if wlB s.1 (knV s.1 s.2.1 s.2.2.1 (prm s.2.1 s.2.2.2.2.2.1)) ((prm s.2.1 s.2.2.2.2.2.1) s.2.2.2.2.2.2.2) then 1 else 0, opLive s (s.2.2.2.2.2.2.2 + 1), 3)
theorem c_X10_live (s : pS) (α : Nat → Nat) (I : fdI) (L : fdL) (hs : stOk s) (hx : xSt 8 s I) : Con fd_SX α yX10_live mX10_live [.ref (α 0)] I L (fd_ip (xOut (o_live s) I L)) := by
  refine Con.of (by decide) rfl (Nat.le_of_ble_eq_true rfl) ?_
  unfold o_live
  have hn7 := hs.n7
  have hly := hs.num.2.2.2.2.2
  have hP := prm_P hn7 hs.num.2.2.2.1
  have ely := hx.num.2.2.2.2.2
  by_cases hl : s.2.2.2.2.2.2.2 = s.2.1
  · rw [if_pos hl]
    refine r_aload_n dX10_live_0 rfl ?_
    refine r_getR rfl rfl fl_10_18 dX10_live_1 ?_
    refine r_getV rfl rfl fl_10_247 dX10_live_4 ely ?_
    refine r_aload_n dX10_live_7 rfl ?_
    refine r_getR rfl rfl fl_10_18 dX10_live_8 ?_
    refine r_getV rfl rfl fl_10_170 dX10_live_11 hx.n ?_
    refine r_icmp_lt 24 dX10_live_14 (by decide) (fun h14 => absurd h14 (fun q => absurd ((nI_ltI (by omega) (by omega)).mp q) (by omega))) (fun h14 => ?_)
    refine r_aload_n dX10_live_17 rfl ?_
    refine r_bipush (v := (-3)) dX10_live_18 rfl ?_
    refine r_cVr (As := [_]) (c_X10_counted α _ _ _) lk_10_91 rfl rfl (by decide) (by decide) rfl rfl (Nat.le_of_ble_eq_true rfl) dX10_live_20 ?_
    refine r_iret rfl dX10_live_23 ?_
    exact ⟨_, rfl, xOut.cn hx xFr.rfl' rfl rfl⟩
  · rw [if_neg hl]
    have hp := hP.1 _ (show s.2.2.2.2.2.2.2 < s.2.1 by omega)
    have jn : ∀ (I2 : fdI) (b : Int32), cfr I I2 → b = (if wlB s.1 (knV s.1 s.2.1 s.2.2.1 (prm s.2.1 s.2.2.2.2.2.1)) ((prm s.2.1 s.2.2.2.2.2.1) s.2.2.2.2.2.2.2) then 1 else 0) → Rn fd_SX α mX10_live 80 [(0, .ref (α 0))] [.int b] (fd_up I2 8 6 (nI (s.2.2.2.2.2.2.2 + 1))) L (fd_ip (xOut (if wlB s.1 (knV s.1 s.2.1 s.2.2.1 (prm s.2.1 s.2.2.2.2.2.1)) ((prm s.2.1 s.2.2.2.2.2.1) s.2.2.2.2.2.2.2) then 1 else 0, opLive s (s.2.2.2.2.2.2.2 + 1), 3) I L)) := by
      intro I2 b f2 hb
      subst hb
      refine r_iret rfl dX10_live_80 ?_
      exact ⟨_, rfl, xOut.none (f2.st hx (by decide)).live (fun a ha => (fd_up_cell (by omega)).trans (f2 a (by omega))) ((fd_up_cell (by decide)).trans (f2 76 (by decide)))⟩
    refine r_aload_n dX10_live_0 rfl ?_
    refine r_getR rfl rfl fl_10_18 dX10_live_1 ?_
    refine r_getV rfl rfl fl_10_247 dX10_live_4 ely ?_
    refine r_aload_n dX10_live_7 rfl ?_
    refine r_getR rfl rfl fl_10_18 dX10_live_8 ?_
    refine r_getV rfl rfl fl_10_170 dX10_live_11 hx.n ?_
    refine r_icmp_lt 24 dX10_live_14 (by decide) (fun h14 => ?_) (fun h14 => absurd h14 (not_not_intro ((nI_ltI (by omega) (by omega)).mpr (by omega))))
    refine r_aload_n dX10_live_24 rfl ?_
    refine r_aload_n dX10_live_25 rfl ?_
    refine r_getR rfl rfl fl_10_18 dX10_live_26 ?_
    refine r_getV rfl rfl fl_10_148 dX10_live_29 hx.num.2.2.2.1 ?_
    refine r_cVq (As := [_]) (c_X10_follow s α _ _ _ hs hx hs.num.2.2.2.1) lk_10_151 rfl rfl (by decide) (by decide) rfl rfl (Nat.le_of_ble_eq_true rfl) dX10_live_32 (fun I32 L32 q32 => ?_)
    obtain ⟨rfl, f32, c32, l32⟩ := q32
    have x32 := f32.st hx (by decide)
    refine r_aload_n dX10_live_35 rfl ?_
    refine r_getR rfl rfl fl_10_43 dX10_live_36 ?_
    refine r_getR rfl rfl fl_10_155 dX10_live_39 ?_
    refine r_aload_n dX10_live_42 rfl ?_
    refine r_getR rfl rfl fl_10_18 dX10_live_43 ?_
    refine r_getV rfl rfl fl_10_247 dX10_live_46 x32.num.2.2.2.2.2 ?_
    refine r_ialdN rfl dX10_live_49 (by omega) (by omega) (c32.2.1 _ (by omega)) ?_
    refine r_istore_n (lv' := [(1, _), (0, _)]) dX10_live_50 (Nat.le_of_ble_eq_true rfl) rfl ?_
    refine r_aload_n dX10_live_51 rfl ?_
    refine r_getR rfl rfl fl_10_18 dX10_live_52 ?_
    refine r_dup dX10_live_55 rfl ?_
    refine r_getV rfl rfl fl_10_247 dX10_live_56 x32.num.2.2.2.2.2 ?_
    refine r_iconst (v := 1) dX10_live_59 rfl ?_
    refine r_iadd dX10_live_60 ?_
    rw [nI_1]
    refine r_putI rfl rfl fl_10_247 fw_5_6 dX10_live_61 ?_
    refine r_aload_n dX10_live_64 rfl ?_
    refine r_getR rfl rfl fl_10_43 dX10_live_65 ?_
    refine r_iload_n dX10_live_68 rfl ?_
    refine r_cVr (As := [_]) (c_X2_lacking α _ _ _ (by omega)) lk_10_164 rfl rfl (by decide) (by decide) rfl rfl (Nat.le_of_ble_eq_true rfl) dX10_live_69 ?_
    rw [show fd_up I32 8 6 (nI (s.2.2.2.2.2.2.2 + 1)) 63 = I32 63 from fd_up_cell (by decide), show fd_up I32 8 6 (nI (s.2.2.2.2.2.2.2 + 1)) 67 = I32 67 from fd_up_cell (by decide), (c32.1.2 _ hp).2.2.2.1, (l32 _ hp).2.2]
    refine r_if_ne 79 dX10_live_72 (by decide) (fun h72 => ?_) (fun h72 => ?_)
    · have ev : (0 : Int32) = (if wlB s.1 (knV s.1 s.2.1 s.2.2.1 (prm s.2.1 s.2.2.2.2.2.1)) ((prm s.2.1 s.2.2.2.2.2.1) s.2.2.2.2.2.2.2) then 1 else 0) := (if_neg (fun q => h72 (of_decide_eq_true q))).symm
      refine r_iconst (v := 0) dX10_live_79 rfl ?_
      exact r_keep [0] rfl (jn _ _ f32 ev)
    · have ev : (1 : Int32) = (if wlB s.1 (knV s.1 s.2.1 s.2.2.1 (prm s.2.1 s.2.2.2.2.2.1)) ((prm s.2.1 s.2.2.2.2.2.1) s.2.2.2.2.2.2.2) then 1 else 0) := (if_pos (decide_eq_true h72)).symm
      refine r_iconst (v := 1) dX10_live_75 rfl ?_
      refine r_goto (tgt := 80) dX10_live_76 (by decide) ?_
      exact r_keep [0] rfl (jn _ _ f32 ev)
def o_sofar (s : pS) (w : Int32) : oT := if dayP w 3 then (sfR s.1 s.2.1 s.2.2.1 (prm s.2.1 s.2.2.2.2.2.1) s.2.2.2.2.2.2.2 w, s, 3) else (-2, s, 0)
theorem c_X10_sofar (s : pS) (α : Nat → Nat) (I : fdI) (L : fdL) (w : Int32) (hs : stOk s) (hx : xSt 8 s I) : Con fd_SX α yX10_sofar mX10_sofar [.ref (α 0), .int w] I L (fd_ip (xOut (o_sofar s w) I L)) := by
  refine Con.of (by decide) rfl (Nat.le_of_ble_eq_true rfl) ?_
  unfold o_sofar sfR
  have hn7 := hs.n7
  have hly := hs.num.2.2.2.2.2
  have hP := prm_P hn7 hs.num.2.2.2.1
  by_cases hok : dayP w 3
  · rw [if_pos hok]
    have g1 : w ≤ 2 := le_of_dayP (m := 2) hok (by decide)
    by_cases hw : w = 0
    · rw [if_pos hw]
      refine r_iload_n dX10_sofar_0 rfl ?_
      refine r_if_lt 9 dX10_sofar_1 (by decide) (fun h1 => absurd h1 (dayP_n0 hok)) (fun h1 => ?_)
      refine r_iload_n dX10_sofar_4 rfl ?_
      refine r_iconst (v := 2) dX10_sofar_5 rfl ?_
      refine r_icmp_le 16 dX10_sofar_6 (by decide) (fun h6 => ?_) (fun h6 => absurd h6 (not_not_intro g1))
      refine r_iload_n dX10_sofar_16 rfl ?_
      refine r_if_ne 28 dX10_sofar_17 (by decide) (fun h17 => absurd h17 (not_not_intro hw)) (fun h17 => ?_)
      refine r_aload_n dX10_sofar_20 rfl ?_
      refine r_getR rfl rfl fl_10_18 dX10_sofar_21 ?_
      refine r_getV rfl rfl fl_10_247 dX10_sofar_24 hx.num.2.2.2.2.2 ?_
      refine r_iret rfl dX10_sofar_27 ?_
      exact ⟨_, rfl, xOut.ask hx cfr.rfl'⟩
    · rw [if_neg hw]
      by_cases hw1 : w = 1
      · rw [if_pos hw1]
        refine r_iload_n dX10_sofar_0 rfl ?_
        refine r_if_lt 9 dX10_sofar_1 (by decide) (fun h1 => absurd h1 (dayP_n0 hok)) (fun h1 => ?_)
        refine r_iload_n dX10_sofar_4 rfl ?_
        refine r_iconst (v := 2) dX10_sofar_5 rfl ?_
        refine r_icmp_le 16 dX10_sofar_6 (by decide) (fun h6 => ?_) (fun h6 => absurd h6 (not_not_intro g1))
        refine r_iload_n dX10_sofar_16 rfl ?_
        refine r_if_ne 28 dX10_sofar_17 (by decide) (fun h17 => ?_) (fun h17 => absurd h17 hw)
        refine r_aload_n dX10_sofar_28 rfl ?_
        refine r_aload_n dX10_sofar_29 rfl ?_
        refine r_getR rfl rfl fl_10_18 dX10_sofar_30 ?_
        refine r_getV rfl rfl fl_10_148 dX10_sofar_33 hx.num.2.2.2.1 ?_
        refine r_cVq (As := [_]) (c_X10_follow s α _ _ _ hs hx hs.num.2.2.2.1) lk_10_151 rfl rfl (by decide) (by decide) rfl rfl (Nat.le_of_ble_eq_true rfl) dX10_sofar_36 (fun I36 L36 q36 => ?_)
        obtain ⟨rfl, f36, c36, l36⟩ := q36
        refine r_iload_n dX10_sofar_39 rfl ?_
        refine r_iconst (v := 1) dX10_sofar_40 rfl ?_
        refine r_icmp_ne 61 dX10_sofar_41 (by decide) (fun h41 => absurd h41 (not_not_intro hw1)) (fun h41 => ?_)
        refine r_aload_n dX10_sofar_44 rfl ?_
        refine r_getR rfl rfl fl_10_43 dX10_sofar_45 ?_
        refine r_aload_n dX10_sofar_48 rfl ?_
        refine r_getR rfl rfl fl_10_18 dX10_sofar_49 ?_
        refine r_getV rfl rfl fl_10_247 dX10_sofar_52 (f36.st hx (by decide)).num.2.2.2.2.2 ?_
        refine r_cVr (As := [_]) (c_X2_wellAmong s.1 (knV s.1 s.2.1 s.2.2.1 (prm s.2.1 s.2.2.2.2.2.1)) α _ _ _ hn7 hly hP c36.1 c36.2.1 l36.k) lk_10_173 rfl rfl (by decide) (by decide) rfl rfl (Nat.le_of_ble_eq_true rfl) dX10_sofar_55 ?_
        refine r_goto (tgt := 75) dX10_sofar_58 (by decide) ?_
        refine r_iret rfl dX10_sofar_75 ?_
        exact ⟨_, rfl, xOut.ask hx f36⟩
      · rw [if_neg hw1]
        refine r_iload_n dX10_sofar_0 rfl ?_
        refine r_if_lt 9 dX10_sofar_1 (by decide) (fun h1 => absurd h1 (dayP_n0 hok)) (fun h1 => ?_)
        refine r_iload_n dX10_sofar_4 rfl ?_
        refine r_iconst (v := 2) dX10_sofar_5 rfl ?_
        refine r_icmp_le 16 dX10_sofar_6 (by decide) (fun h6 => ?_) (fun h6 => absurd h6 (not_not_intro g1))
        refine r_iload_n dX10_sofar_16 rfl ?_
        refine r_if_ne 28 dX10_sofar_17 (by decide) (fun h17 => ?_) (fun h17 => absurd h17 hw)
        refine r_aload_n dX10_sofar_28 rfl ?_
        refine r_aload_n dX10_sofar_29 rfl ?_
        refine r_getR rfl rfl fl_10_18 dX10_sofar_30 ?_
        refine r_getV rfl rfl fl_10_148 dX10_sofar_33 hx.num.2.2.2.1 ?_
        refine r_cVq (As := [_]) (c_X10_follow s α _ _ _ hs hx hs.num.2.2.2.1) lk_10_151 rfl rfl (by decide) (by decide) rfl rfl (Nat.le_of_ble_eq_true rfl) dX10_sofar_36 (fun I36 L36 q36 => ?_)
        obtain ⟨rfl, f36, c36, l36⟩ := q36
        refine r_iload_n dX10_sofar_39 rfl ?_
        refine r_iconst (v := 1) dX10_sofar_40 rfl ?_
        refine r_icmp_ne 61 dX10_sofar_41 (by decide) (fun h41 => ?_) (fun h41 => absurd h41 hw1)
        refine r_aload_n dX10_sofar_61 rfl ?_
        refine r_getR rfl rfl fl_10_43 dX10_sofar_62 ?_
        refine r_aload_n dX10_sofar_65 rfl ?_
        refine r_getR rfl rfl fl_10_18 dX10_sofar_66 ?_
        refine r_getV rfl rfl fl_10_247 dX10_sofar_69 (f36.st hx (by decide)).num.2.2.2.2.2 ?_
        refine r_cVr (As := [_]) (c_X2_learntAmong s.1 α _ _ _ hn7 hly hP c36.1 c36.2.1) lk_10_250 rfl rfl (by decide) (by decide) rfl rfl (Nat.le_of_ble_eq_true rfl) dX10_sofar_72 ?_
        refine r_iret rfl dX10_sofar_75 ?_
        exact ⟨_, rfl, xOut.ask hx f36⟩
  · rw [if_neg hok]
    refine r_iload_n dX10_sofar_0 rfl ?_
    refine r_if_lt 9 dX10_sofar_1 (by decide) (fun h1 => ?_) (fun h1 => ?_)
    · refine r_aload_n dX10_sofar_9 rfl ?_
      refine r_bipush (v := (-2)) dX10_sofar_10 rfl ?_
      refine r_cVr (As := [_]) (c_X10_counted α _ _ _) lk_10_91 rfl rfl (by decide) (by decide) rfl rfl (Nat.le_of_ble_eq_true rfl) dX10_sofar_12 ?_
      refine r_iret rfl dX10_sofar_15 ?_
      exact ⟨_, rfl, xOut.cn hx xFr.rfl' rfl rfl⟩
    · refine r_iload_n dX10_sofar_4 rfl ?_
      refine r_iconst (v := 2) dX10_sofar_5 rfl ?_
      refine r_icmp_le 16 dX10_sofar_6 (by decide) (fun h6 => absurd h6 (fun q => hok (dayP_le (m := 2) (by decide) h1 q))) (fun h6 => ?_)
      refine r_aload_n dX10_sofar_9 rfl ?_
      refine r_bipush (v := (-2)) dX10_sofar_10 rfl ?_
      refine r_cVr (As := [_]) (c_X10_counted α _ _ _) lk_10_91 rfl rfl (by decide) (by decide) rfl rfl (Nat.le_of_ble_eq_true rfl) dX10_sofar_12 ?_
      refine r_iret rfl dX10_sofar_15 ?_
      exact ⟨_, rfl, xOut.cn hx xFr.rfl' rfl rfl⟩
