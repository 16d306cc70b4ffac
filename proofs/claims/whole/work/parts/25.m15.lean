/-! the model: images -/
def lyI (I : fdI) (dst src m k : Nat) : fdI := fd_row I dst (fun j => if k ≤ j ∧ j < k + m then I src (j - k) else I dst j)
def gvI (I : fdI) (dst src m k : Nat) : fdI := fd_row I dst (fun j => if j < m then I src (k + j) else I dst j)
theorem lyI_ne {I : fdI} {dst src m k a : Nat} (h : a ≠ dst) : lyI I dst src m k a = I a := fd_row_ne h
theorem lyI_in {I : fdI} {dst src m k i : Nat} (h : i < m) : lyI I dst src m k dst (k + i) = I src i := by
  unfold lyI
  rw [fd_row_same]
  show (if _ then _ else _) = _
  rw [if_pos (by omega)]
  congr 1
  omega
theorem lyI_out {I : fdI} {dst src m k x : Nat} (h : x < k ∨ k + m ≤ x) : lyI I dst src m k dst x = I dst x := by
  unfold lyI
  rw [fd_row_same]
  show (if _ then _ else _) = _
  rw [if_neg (by omega)]
theorem gvI_ne {I : fdI} {dst src m k a : Nat} (h : a ≠ dst) : gvI I dst src m k a = I a := fd_row_ne h
theorem gvI_in {I : fdI} {dst src m k i : Nat} (h : i < m) : gvI I dst src m k dst i = I src (k + i) := by
  unfold gvI
  rw [fd_row_same]
  exact if_pos h
theorem lyI_0 {I : fdI} {dst src k : Nat} : lyI I dst src 0 k = I := by
  funext a b
  by_cases h : a = dst
  · subst h
    exact lyI_out (by omega)
  · rw [lyI_ne h]
theorem gvI_0 {I : fdI} {dst src k : Nat} : gvI I dst src 0 k = I := by
  funext a b
  by_cases h : a = dst
  · subst h
    unfold gvI
    rw [fd_row_same]
    exact if_neg (by omega)
  · rw [gvI_ne h]
theorem lyI_1 {I : fdI} {dst src m k : Nat} : fd_up (lyI I dst src m k) dst (k + m) (I src m) = lyI I dst src (m + 1) k := by
  funext a b
  by_cases h : a = dst
  · subst h
    rw [fd_up_at]
    by_cases q : b = k + m
    · rw [if_pos q, q, lyI_in (by omega)]
    · rw [if_neg q]
      unfold lyI
      rw [fd_row_same, fd_row_same]
      show (if _ then _ else _) = (if _ then _ else _)
      by_cases c : k ≤ b ∧ b < k + m
      · rw [if_pos c, if_pos (by omega)]
      · rw [if_neg c, if_neg (by omega)]
  · rw [fd_up_ne h, lyI_ne h, lyI_ne h]
theorem gvI_1 {I : fdI} {dst src m k : Nat} : fd_up (gvI I dst src m k) dst m (I src (k + m)) = gvI I dst src (m + 1) k := by
  funext a b
  by_cases h : a = dst
  · subst h
    rw [fd_up_at]
    by_cases q : b = m
    · rw [if_pos q, q, gvI_in (by omega)]
    · rw [if_neg q]
      unfold gvI
      rw [fd_row_same, fd_row_same]
      show (if _ then _ else _) = (if _ then _ else _)
      by_cases c : b < m
      · rw [if_pos c, if_pos (by omega)]
      · rw [if_neg c, if_neg (by omega)]
  · rw [fd_up_ne h, gvI_ne h, gvI_ne h]
theorem c_lay (α : Nat → Nat) (I : fdI) (L : fdL) (kf N m k : Nat) (hS : fd_SM[kf]? = some (.inr (.inl (0, N)))) (hN : N < 300) (hkf : kf ≠ 23) (hm : m ≤ N) (hk : k + m ≤ 216) : Con fd_SM α yX11_lay mX11_lay [.ref (α 0), .ref (α kf), .int (nI m), .int (nI k)] I L (fd_is (some (.int (nI (k + m)))) (lyI I 23 kf m k) L) := by
  refine Con.of (by decide) rfl (Nat.le_of_ble_eq_true rfl) ?_
  have loop : ∀ i, i ≤ m → Rn fd_SM α mX11_lay 3 [(4, .int (nI i)), (0, .ref (α 0)), (1, .ref (α kf)), (2, .int (nI m)), (3, .int (nI k))] [] (lyI I 23 kf i k) L (fd_is (some (.int (nI (k + m)))) (lyI I 23 kf m k) L) := by
    refine fd_down (fun i hi ih => ?_)
    by_cases hx : i = m
    · subst hx
      refine r_iload dX11_lay_3 rfl ?_
      refine r_iload_n dX11_lay_5 rfl ?_
      refine r_icmp_ge 28 dX11_lay_6 (by decide) (fun h6 => ?_) (fun h6 => absurd h6 (not_not_intro (Int32.le_refl _)))
      refine r_iload_n dX11_lay_28 rfl ?_
      refine r_iload_n dX11_lay_29 rfl ?_
      refine r_iadd dX11_lay_30 ?_
      rw [nI_add]
      refine r_iret rfl dX11_lay_31 ?_
      exact fd_isI rfl rfl rfl
    · refine r_iload dX11_lay_3 rfl ?_
      refine r_iload_n dX11_lay_5 rfl ?_
      refine r_icmp_ge 28 dX11_lay_6 (by decide) (fun h6 => absurd h6 (fun q => absurd ((nI_leI (by omega) (by omega)).mp q) (by omega))) (fun h6 => ?_)
      refine r_aload_n dX11_lay_9 rfl ?_
      refine r_getR rfl rfl fl_11_76 dX11_lay_10 ?_
      refine r_iload_n dX11_lay_13 rfl ?_
      refine r_iload dX11_lay_14 rfl ?_
      refine r_iadd dX11_lay_16 ?_
      rw [nI_add]
      refine r_aload_n dX11_lay_17 rfl ?_
      refine r_iload dX11_lay_18 rfl ?_
      refine r_ialdN hS dX11_lay_20 (by omega) (by omega) (Eq.trans (by rw [lyI_ne hkf]) rfl) ?_
      refine r_iastN rfl dX11_lay_21 (by omega) (by omega) ?_
      refine r_iinc (v := _ + 1) (lv' := [(4, _), (0, _), (1, _), (2, _), (3, _)]) dX11_lay_22 rfl rfl (Nat.le_of_ble_eq_true rfl) rfl ?_
      refine r_goto (tgt := 3) dX11_lay_25 (by decide) ?_
      rw [nI_1, lyI_1]
      exact r_keep [4, 0, 1, 2, 3] rfl (ih (by omega))
  refine r_iconst (v := 0) dX11_lay_0 rfl ?_
  refine r_istore (lv' := [(4, _), (0, _), (1, _), (2, _), (3, _)]) dX11_lay_1 (Nat.le_of_ble_eq_true rfl) rfl ?_
  refine r_keep [4, 0, 1, 2, 3] rfl ?_
  have := loop 0 (by omega)
  rwa [lyI_0] at this
theorem c_gives (α : Nat → Nat) (I : fdI) (L : fdL) (kt N m k : Nat) (hS : fd_SM[kt]? = some (.inr (.inl (0, N)))) (hN : N < 300) (hkt : 23 ≠ kt) (hm : m ≤ N) (hk : k + m ≤ 216) : Con fd_SM α yX11_gives mX11_gives [.ref (α 0), .int (nI k), .ref (α kt), .int (nI m)] I L (fd_is (some (.int (nI (k + m)))) (gvI I kt 23 m k) L) := by
  refine Con.of (by decide) rfl (Nat.le_of_ble_eq_true rfl) ?_
  have loop : ∀ i, i ≤ m → Rn fd_SM α mX11_gives 3 [(4, .int (nI i)), (0, .ref (α 0)), (1, .int (nI k)), (2, .ref (α kt)), (3, .int (nI m))] [] (gvI I kt 23 i k) L (fd_is (some (.int (nI (k + m)))) (gvI I kt 23 m k) L) := by
    refine fd_down (fun i hi ih => ?_)
    by_cases hx : i = m
    · subst hx
      refine r_iload dX11_gives_3 rfl ?_
      refine r_iload_n dX11_gives_5 rfl ?_
      refine r_icmp_ge 28 dX11_gives_6 (by decide) (fun h6 => ?_) (fun h6 => absurd h6 (not_not_intro (Int32.le_refl _)))
      refine r_iload_n dX11_gives_28 rfl ?_
      refine r_iload_n dX11_gives_29 rfl ?_
      refine r_iadd dX11_gives_30 ?_
      rw [nI_add]
      refine r_iret rfl dX11_gives_31 ?_
      exact fd_isI rfl rfl rfl
    · refine r_iload dX11_gives_3 rfl ?_
      refine r_iload_n dX11_gives_5 rfl ?_
      refine r_icmp_ge 28 dX11_gives_6 (by decide) (fun h6 => absurd h6 (fun q => absurd ((nI_leI (by omega) (by omega)).mp q) (by omega))) (fun h6 => ?_)
      refine r_aload_n dX11_gives_9 rfl ?_
      refine r_iload dX11_gives_10 rfl ?_
      refine r_aload_n dX11_gives_12 rfl ?_
      refine r_getR rfl rfl fl_11_76 dX11_gives_13 ?_
      refine r_iload_n dX11_gives_16 rfl ?_
      refine r_iload dX11_gives_17 rfl ?_
      refine r_iadd dX11_gives_19 ?_
      rw [nI_add]
      refine r_ialdN rfl dX11_gives_20 (by omega) (by omega) (Eq.trans (by rw [gvI_ne hkt]) rfl) ?_
      refine r_iastN hS dX11_gives_21 (by omega) (by omega) ?_
      refine r_iinc (v := _ + 1) (lv' := [(4, _), (0, _), (1, _), (2, _), (3, _)]) dX11_gives_22 rfl rfl (Nat.le_of_ble_eq_true rfl) rfl ?_
      refine r_goto (tgt := 3) dX11_gives_25 (by decide) ?_
      rw [nI_1, gvI_1]
      exact r_keep [4, 0, 1, 2, 3] rfl (ih (by omega))
  refine r_iconst (v := 0) dX11_gives_0 rfl ?_
  refine r_istore (lv' := [(4, _), (0, _), (1, _), (2, _), (3, _)]) dX11_gives_1 (Nat.le_of_ble_eq_true rfl) rfl ?_
  refine r_keep [4, 0, 1, 2, 3] rfl ?_
  have := loop 0 (by omega)
  rwa [gvI_0] at this
theorem c_toldIn (α : Nat → Nat) (I : fdI) (L : fdL) (i : Nat) (hi : i < 3) : Con fd_SM α yX11_toldAside mX11_toldAside [.ref (α 0), .int (nI i), .int 1] I L (fd_is none (lyI I 24 11 3 (3 * i)) L) := by
  refine Con.of (by decide) rfl (Nat.le_of_ble_eq_true rfl) ?_
  have e3 : (3 : Int32) * nI i = nI (3 * i) := pk_mul 3 i
  have loop : ∀ k, k ≤ 3 → Rn fd_SM α mX11_toldAside 2 [(3, .int (nI k)), (0, .ref (α 0)), (1, .int (nI i)), (2, .int 1)] [] (lyI I 24 11 k (3 * i)) L (fd_is none (lyI I 24 11 3 (3 * i)) L) := by
    refine fd_down (fun k hk ih => ?_)
    by_cases hx : k = 3
    · subst hx
      refine r_iload_n dX11_toldAside_2 rfl ?_
      refine r_iconst (v := 3) dX11_toldAside_3 rfl ?_
      refine r_icmp_ge 52 dX11_toldAside_4 (by decide) (fun h4 => ?_) (fun h4 => absurd h4 (by decide))
      refine r_vret rfl dX11_toldAside_52 ?_
      exact fd_isI rfl rfl rfl
    · refine r_iload_n dX11_toldAside_2 rfl ?_
      refine r_iconst (v := 3) dX11_toldAside_3 rfl ?_
      refine r_icmp_ge 52 dX11_toldAside_4 (by decide) (fun h4 => absurd h4 (fun q => absurd ((nI_leI (a := 3) (by omega) (by omega)).mp q) (by omega))) (fun h4 => ?_)
      refine r_iload_n dX11_toldAside_7 rfl ?_
      refine r_if_eq 30 dX11_toldAside_8 (by decide) (fun h8 => absurd h8 (by decide)) (fun h8 => ?_)
      refine r_aload_n dX11_toldAside_11 rfl ?_
      refine r_getR rfl rfl fl_11_79 dX11_toldAside_12 ?_
      refine r_iconst (v := 3) dX11_toldAside_15 rfl ?_
      refine r_iload_n dX11_toldAside_16 rfl ?_
      refine r_imul dX11_toldAside_17 ?_
      rw [e3]
      refine r_iload_n dX11_toldAside_18 rfl ?_
      refine r_iadd dX11_toldAside_19 ?_
      rw [nI_add]
      refine r_aload_n dX11_toldAside_20 rfl ?_
      refine r_getR rfl rfl fl_11_40 dX11_toldAside_21 ?_
      refine r_iload_n dX11_toldAside_24 rfl ?_
      refine r_ialdN rfl dX11_toldAside_25 (by omega) (by omega) (Eq.trans (by rw [lyI_ne (by decide)]) rfl) ?_
      refine r_iastN rfl dX11_toldAside_26 (by omega) (by omega) ?_
      refine r_goto (tgt := 46) dX11_toldAside_27 (by decide) ?_
      refine r_iinc (v := _ + 1) (lv' := [(3, _), (0, _), (1, _), (2, _)]) dX11_toldAside_46 rfl rfl (Nat.le_of_ble_eq_true rfl) rfl ?_
      refine r_goto (tgt := 2) dX11_toldAside_49 (by decide) ?_
      rw [nI_1, lyI_1]
      exact r_keep [3, 0, 1, 2] rfl (ih (by omega))
  refine r_iconst (v := 0) dX11_toldAside_0 rfl ?_
  refine r_istore_n (lv' := [(3, _), (0, _), (1, _), (2, _)]) dX11_toldAside_1 (Nat.le_of_ble_eq_true rfl) rfl ?_
  refine r_keep [3, 0, 1, 2] rfl ?_
  have := loop 0 (by omega)
  rwa [lyI_0] at this
theorem c_toldOut (α : Nat → Nat) (I : fdI) (L : fdL) (i : Nat) (hi : i < 3) : Con fd_SM α yX11_toldAside mX11_toldAside [.ref (α 0), .int (nI i), .int 0] I L (fd_is none (gvI I 11 24 3 (3 * i)) L) := by
  refine Con.of (by decide) rfl (Nat.le_of_ble_eq_true rfl) ?_
  have e3 : (3 : Int32) * nI i = nI (3 * i) := pk_mul 3 i
  have loop : ∀ k, k ≤ 3 → Rn fd_SM α mX11_toldAside 2 [(3, .int (nI k)), (0, .ref (α 0)), (1, .int (nI i)), (2, .int 0)] [] (gvI I 11 24 k (3 * i)) L (fd_is none (gvI I 11 24 3 (3 * i)) L) := by
    refine fd_down (fun k hk ih => ?_)
    by_cases hx : k = 3
    · subst hx
      refine r_iload_n dX11_toldAside_2 rfl ?_
      refine r_iconst (v := 3) dX11_toldAside_3 rfl ?_
      refine r_icmp_ge 52 dX11_toldAside_4 (by decide) (fun h4 => ?_) (fun h4 => absurd h4 (by decide))
      refine r_vret rfl dX11_toldAside_52 ?_
      exact fd_isI rfl rfl rfl
    · refine r_iload_n dX11_toldAside_2 rfl ?_
      refine r_iconst (v := 3) dX11_toldAside_3 rfl ?_
      refine r_icmp_ge 52 dX11_toldAside_4 (by decide) (fun h4 => absurd h4 (fun q => absurd ((nI_leI (a := 3) (by omega) (by omega)).mp q) (by omega))) (fun h4 => ?_)
      refine r_iload_n dX11_toldAside_7 rfl ?_
      refine r_if_eq 30 dX11_toldAside_8 (by decide) (fun h8 => ?_) (fun h8 => absurd h8 (by decide))
      refine r_aload_n dX11_toldAside_30 rfl ?_
      refine r_getR rfl rfl fl_11_40 dX11_toldAside_31 ?_
      refine r_iload_n dX11_toldAside_34 rfl ?_
      refine r_aload_n dX11_toldAside_35 rfl ?_
      refine r_getR rfl rfl fl_11_79 dX11_toldAside_36 ?_
      refine r_iconst (v := 3) dX11_toldAside_39 rfl ?_
      refine r_iload_n dX11_toldAside_40 rfl ?_
      refine r_imul dX11_toldAside_41 ?_
      rw [e3]
      refine r_iload_n dX11_toldAside_42 rfl ?_
      refine r_iadd dX11_toldAside_43 ?_
      rw [nI_add]
      refine r_ialdN rfl dX11_toldAside_44 (by omega) (by omega) (Eq.trans (by rw [gvI_ne (by decide)]) rfl) ?_
      refine r_iastN rfl dX11_toldAside_45 (by omega) (by omega) ?_
      refine r_iinc (v := _ + 1) (lv' := [(3, _), (0, _), (1, _), (2, _)]) dX11_toldAside_46 rfl rfl (Nat.le_of_ble_eq_true rfl) rfl ?_
      refine r_goto (tgt := 2) dX11_toldAside_49 (by decide) ?_
      rw [nI_1, gvI_1]
      exact r_keep [3, 0, 1, 2] rfl (ih (by omega))
  refine r_iconst (v := 0) dX11_toldAside_0 rfl ?_
  refine r_istore_n (lv' := [(3, _), (0, _), (1, _), (2, _)]) dX11_toldAside_1 (Nat.le_of_ble_eq_true rfl) rfl ?_
  refine r_keep [3, 0, 1, 2] rfl ?_
  have := loop 0 (by omega)
  rwa [gvI_0] at this
def kpS (I : fdI) (b : Nat) : fdI := lyI (lyI (lyI (lyI (lyI (lyI (lyI (lyI (lyI (lyI (fd_up (fd_up (fd_up (fd_up (fd_up (fd_up I 23 b (I 0 1)) 23 (b + 1) (I 0 7)) 23 (b + 2) (I 0 10)) 23 (b + 3) (I 0 13)) 23 (b + 4) (I 0 16)) 23 (b + 5) (I 0 17)) 23 2 7 (b + 6)) 23 3 7 (b + 13)) 23 4 7 (b + 20)) 23 5 7 (b + 27)) 23 6 7 (b + 34)) 23 12 7 (b + 41)) 23 7 6 (b + 48)) 23 8 6 (b + 54)) 23 9 6 (b + 60)) 23 10 6 (b + 66)
def kpI (I : fdI) (i : Nat) : fdI := lyI (kpS I (72 * i)) 24 11 3 (3 * i)
def goS (I : fdI) (b : Nat) : fdI := gvI (gvI (gvI (gvI (gvI (gvI (gvI (gvI (gvI (gvI (fd_up (fd_up (fd_up (fd_up (fd_up (fd_up I 0 1 (I 23 b)) 0 7 (I 23 (b + 1))) 0 10 (I 23 (b + 2))) 0 13 (I 23 (b + 3))) 0 16 (I 23 (b + 4))) 0 17 (I 23 (b + 5))) 2 23 7 (b + 6)) 3 23 7 (b + 13)) 4 23 7 (b + 20)) 5 23 7 (b + 27)) 6 23 7 (b + 34)) 12 23 7 (b + 41)) 7 23 6 (b + 48)) 8 23 6 (b + 54)) 9 23 6 (b + 60)) 10 23 6 (b + 66)
def goI (I : fdI) (i : Nat) : fdI := gvI (goS I (72 * i)) 11 24 3 (3 * i)
set_option maxHeartbeats 1000000 in
theorem c_keeps (α : Nat → Nat) (I : fdI) (L : fdL) (i : Nat) (hi : i < 3) : Con fd_SM α yX11_keeps mX11_keeps [.ref (α 0), .int (nI i)] I L (fd_is none (kpI I i) L) := by
  refine Con.of (by decide) rfl (Nat.le_of_ble_eq_true rfl) ?_
  have e72 : (72 : Int32) * nI i = nI (72 * i) := pk_mul 72 i
  unfold kpI kpS
  have hb : 72 * i + 72 ≤ 216 := by omega
  have eo : ∀ j : Nat, nI (72 * i) + nI j = nI (72 * i + j) := fun j => nI_add _ _
  generalize 72 * i = b at *
  refine r_bipush (v := 72) dX11_keeps_0 rfl ?_
  refine r_iload_n dX11_keeps_2 rfl ?_
  refine r_imul dX11_keeps_3 ?_
  rw [e72]
  refine r_istore_n (lv' := [(2, _), (0, _), (1, _)]) dX11_keeps_4 (Nat.le_of_ble_eq_true rfl) rfl ?_
  refine r_aload_n dX11_keeps_5 rfl ?_
  refine r_getR rfl rfl fl_11_76 dX11_keeps_6 ?_
  refine r_iload_n dX11_keeps_9 rfl ?_
  refine r_aload_n dX11_keeps_10 rfl ?_
  refine r_getI rfl rfl fl_11_93 dX11_keeps_11 ?_
  refine r_iastN rfl dX11_keeps_14 (by omega) (by omega) ?_
  refine r_aload_n dX11_keeps_15 rfl ?_
  refine r_getR rfl rfl fl_11_76 dX11_keeps_16 ?_
  refine r_iload_n dX11_keeps_19 rfl ?_
  refine r_iconst (v := 1) dX11_keeps_20 rfl ?_
  refine r_iadd dX11_keeps_21 ?_
  rw [show nI b + 1 = nI (b + 1) from eo 1]
  refine r_aload_n dX11_keeps_22 rfl ?_
  refine r_getI rfl rfl fl_11_103 dX11_keeps_23 ?_
  refine r_iastN rfl dX11_keeps_26 (by omega) (by omega) ?_
  refine r_aload_n dX11_keeps_27 rfl ?_
  refine r_getR rfl rfl fl_11_76 dX11_keeps_28 ?_
  refine r_iload_n dX11_keeps_31 rfl ?_
  refine r_iconst (v := 2) dX11_keeps_32 rfl ?_
  refine r_iadd dX11_keeps_33 ?_
  rw [show nI b + 2 = nI (b + 2) from eo 2]
  refine r_aload_n dX11_keeps_34 rfl ?_
  refine r_getI rfl rfl fl_11_106 dX11_keeps_35 ?_
  refine r_iastN rfl dX11_keeps_38 (by omega) (by omega) ?_
  refine r_aload_n dX11_keeps_39 rfl ?_
  refine r_getR rfl rfl fl_11_76 dX11_keeps_40 ?_
  refine r_iload_n dX11_keeps_43 rfl ?_
  refine r_iconst (v := 3) dX11_keeps_44 rfl ?_
  refine r_iadd dX11_keeps_45 ?_
  rw [show nI b + 3 = nI (b + 3) from eo 3]
  refine r_aload_n dX11_keeps_46 rfl ?_
  refine r_getI rfl rfl fl_11_109 dX11_keeps_47 ?_
  refine r_iastN rfl dX11_keeps_50 (by omega) (by omega) ?_
  refine r_aload_n dX11_keeps_51 rfl ?_
  refine r_getR rfl rfl fl_11_76 dX11_keeps_52 ?_
  refine r_iload_n dX11_keeps_55 rfl ?_
  refine r_iconst (v := 4) dX11_keeps_56 rfl ?_
  refine r_iadd dX11_keeps_57 ?_
  rw [show nI b + 4 = nI (b + 4) from eo 4]
  refine r_aload_n dX11_keeps_58 rfl ?_
  refine r_getI rfl rfl fl_11_112 dX11_keeps_59 ?_
  refine r_iastN rfl dX11_keeps_62 (by omega) (by omega) ?_
  refine r_aload_n dX11_keeps_63 rfl ?_
  refine r_getR rfl rfl fl_11_76 dX11_keeps_64 ?_
  refine r_iload_n dX11_keeps_67 rfl ?_
  refine r_iconst (v := 5) dX11_keeps_68 rfl ?_
  refine r_iadd dX11_keeps_69 ?_
  rw [show nI b + 5 = nI (b + 5) from eo 5]
  refine r_aload_n dX11_keeps_70 rfl ?_
  refine r_getI rfl rfl fl_11_115 dX11_keeps_71 ?_
  refine r_iastN rfl dX11_keeps_74 (by omega) (by omega) ?_
  refine r_aload_n dX11_keeps_75 rfl ?_
  refine r_aload_n dX11_keeps_76 rfl ?_
  refine r_getR rfl rfl fl_11_13 dX11_keeps_77 ?_
  refine r_bipush (v := 7) dX11_keeps_80 rfl ?_
  refine r_iload_n dX11_keeps_82 rfl ?_
  refine r_bipush (v := 6) dX11_keeps_83 rfl ?_
  refine r_iadd dX11_keeps_85 ?_
  rw [show nI b + 6 = nI (b + 6) from eo 6]
  refine r_cVr (As := [_, _, _]) (c_lay α _ _ 2 7 7 (b + 6) rfl (by decide) (by decide) (by decide) (by omega)) lk_11_300 rfl rfl (by decide) (by decide) rfl rfl (Nat.le_of_ble_eq_true rfl) dX11_keeps_86 ?_
  refine r_istore_n (lv' := [(2, _), (0, _), (1, _)]) dX11_keeps_89 (Nat.le_of_ble_eq_true rfl) rfl ?_
  refine r_aload_n dX11_keeps_90 rfl ?_
  refine r_aload_n dX11_keeps_91 rfl ?_
  refine r_getR rfl rfl fl_11_16 dX11_keeps_92 ?_
  refine r_bipush (v := 7) dX11_keeps_95 rfl ?_
  refine r_iload_n dX11_keeps_97 rfl ?_
  refine r_cVr (As := [_, _, _]) (c_lay α _ _ 3 7 7 (b + 13) rfl (by decide) (by decide) (by decide) (by omega)) lk_11_300 rfl rfl (by decide) (by decide) rfl rfl (Nat.le_of_ble_eq_true rfl) dX11_keeps_98 ?_
  refine r_istore_n (lv' := [(2, _), (0, _), (1, _)]) dX11_keeps_101 (Nat.le_of_ble_eq_true rfl) rfl ?_
  refine r_aload_n dX11_keeps_102 rfl ?_
  refine r_aload_n dX11_keeps_103 rfl ?_
  refine r_getR rfl rfl fl_11_19 dX11_keeps_104 ?_
  refine r_bipush (v := 7) dX11_keeps_107 rfl ?_
  refine r_iload_n dX11_keeps_109 rfl ?_
  refine r_cVr (As := [_, _, _]) (c_lay α _ _ 4 7 7 (b + 20) rfl (by decide) (by decide) (by decide) (by omega)) lk_11_300 rfl rfl (by decide) (by decide) rfl rfl (Nat.le_of_ble_eq_true rfl) dX11_keeps_110 ?_
  refine r_istore_n (lv' := [(2, _), (0, _), (1, _)]) dX11_keeps_113 (Nat.le_of_ble_eq_true rfl) rfl ?_
  refine r_aload_n dX11_keeps_114 rfl ?_
  refine r_aload_n dX11_keeps_115 rfl ?_
  refine r_getR rfl rfl fl_11_22 dX11_keeps_116 ?_
  refine r_bipush (v := 7) dX11_keeps_119 rfl ?_
  refine r_iload_n dX11_keeps_121 rfl ?_
  refine r_cVr (As := [_, _, _]) (c_lay α _ _ 5 7 7 (b + 27) rfl (by decide) (by decide) (by decide) (by omega)) lk_11_300 rfl rfl (by decide) (by decide) rfl rfl (Nat.le_of_ble_eq_true rfl) dX11_keeps_122 ?_
  refine r_istore_n (lv' := [(2, _), (0, _), (1, _)]) dX11_keeps_125 (Nat.le_of_ble_eq_true rfl) rfl ?_
  refine r_aload_n dX11_keeps_126 rfl ?_
  refine r_aload_n dX11_keeps_127 rfl ?_
  refine r_getR rfl rfl fl_11_25 dX11_keeps_128 ?_
  refine r_bipush (v := 7) dX11_keeps_131 rfl ?_
  refine r_iload_n dX11_keeps_133 rfl ?_
  refine r_cVr (As := [_, _, _]) (c_lay α _ _ 6 7 7 (b + 34) rfl (by decide) (by decide) (by decide) (by omega)) lk_11_300 rfl rfl (by decide) (by decide) rfl rfl (Nat.le_of_ble_eq_true rfl) dX11_keeps_134 ?_
  refine r_istore_n (lv' := [(2, _), (0, _), (1, _)]) dX11_keeps_137 (Nat.le_of_ble_eq_true rfl) rfl ?_
  refine r_aload_n dX11_keeps_138 rfl ?_
  refine r_aload_n dX11_keeps_139 rfl ?_
  refine r_getR rfl rfl fl_11_43 dX11_keeps_140 ?_
  refine r_bipush (v := 7) dX11_keeps_143 rfl ?_
  refine r_iload_n dX11_keeps_145 rfl ?_
  refine r_cVr (As := [_, _, _]) (c_lay α _ _ 12 7 7 (b + 41) rfl (by decide) (by decide) (by decide) (by omega)) lk_11_300 rfl rfl (by decide) (by decide) rfl rfl (Nat.le_of_ble_eq_true rfl) dX11_keeps_146 ?_
  refine r_istore_n (lv' := [(2, _), (0, _), (1, _)]) dX11_keeps_149 (Nat.le_of_ble_eq_true rfl) rfl ?_
  refine r_aload_n dX11_keeps_150 rfl ?_
  refine r_aload_n dX11_keeps_151 rfl ?_
  refine r_getR rfl rfl fl_11_28 dX11_keeps_152 ?_
  refine r_bipush (v := 6) dX11_keeps_155 rfl ?_
  refine r_iload_n dX11_keeps_157 rfl ?_
  refine r_cVr (As := [_, _, _]) (c_lay α _ _ 7 8 6 (b + 48) rfl (by decide) (by decide) (by decide) (by omega)) lk_11_300 rfl rfl (by decide) (by decide) rfl rfl (Nat.le_of_ble_eq_true rfl) dX11_keeps_158 ?_
  refine r_istore_n (lv' := [(2, _), (0, _), (1, _)]) dX11_keeps_161 (Nat.le_of_ble_eq_true rfl) rfl ?_
  refine r_aload_n dX11_keeps_162 rfl ?_
  refine r_aload_n dX11_keeps_163 rfl ?_
  refine r_getR rfl rfl fl_11_31 dX11_keeps_164 ?_
  refine r_bipush (v := 6) dX11_keeps_167 rfl ?_
  refine r_iload_n dX11_keeps_169 rfl ?_
  refine r_cVr (As := [_, _, _]) (c_lay α _ _ 8 8 6 (b + 54) rfl (by decide) (by decide) (by decide) (by omega)) lk_11_300 rfl rfl (by decide) (by decide) rfl rfl (Nat.le_of_ble_eq_true rfl) dX11_keeps_170 ?_
  refine r_istore_n (lv' := [(2, _), (0, _), (1, _)]) dX11_keeps_173 (Nat.le_of_ble_eq_true rfl) rfl ?_
  refine r_aload_n dX11_keeps_174 rfl ?_
  refine r_aload_n dX11_keeps_175 rfl ?_
  refine r_getR rfl rfl fl_11_34 dX11_keeps_176 ?_
  refine r_bipush (v := 6) dX11_keeps_179 rfl ?_
  refine r_iload_n dX11_keeps_181 rfl ?_
  refine r_cVr (As := [_, _, _]) (c_lay α _ _ 9 6 6 (b + 60) rfl (by decide) (by decide) (by decide) (by omega)) lk_11_300 rfl rfl (by decide) (by decide) rfl rfl (Nat.le_of_ble_eq_true rfl) dX11_keeps_182 ?_
  refine r_istore_n (lv' := [(2, _), (0, _), (1, _)]) dX11_keeps_185 (Nat.le_of_ble_eq_true rfl) rfl ?_
  refine r_aload_n dX11_keeps_186 rfl ?_
  refine r_aload_n dX11_keeps_187 rfl ?_
  refine r_getR rfl rfl fl_11_37 dX11_keeps_188 ?_
  refine r_bipush (v := 6) dX11_keeps_191 rfl ?_
  refine r_iload_n dX11_keeps_193 rfl ?_
  refine r_cVr (As := [_, _, _]) (c_lay α _ _ 10 6 6 (b + 66) rfl (by decide) (by decide) (by decide) (by omega)) lk_11_300 rfl rfl (by decide) (by decide) rfl rfl (Nat.le_of_ble_eq_true rfl) dX11_keeps_194 ?_
  refine r_pop dX11_keeps_197 rfl ?_
  refine r_aload_n dX11_keeps_198 rfl ?_
  refine r_iload_n dX11_keeps_199 rfl ?_
  refine r_iconst (v := 1) dX11_keeps_200 rfl ?_
  refine r_cVn (As := [_, _]) (c_toldIn α _ _ i hi) lk_11_304 rfl rfl (by decide) (by decide) rfl rfl (Nat.le_of_ble_eq_true rfl) dX11_keeps_201 ?_
  refine r_vret rfl dX11_keeps_204 ?_
  exact fd_isI rfl rfl rfl
set_option maxHeartbeats 1000000 in
theorem c_goesOn (α : Nat → Nat) (I : fdI) (L : fdL) (i : Nat) (hi : i < 3) : Con fd_SM α yX11_goesOn mX11_goesOn [.ref (α 0), .int (nI i)] I L (fd_is none (goI I i) L) := by
  refine Con.of (by decide) rfl (Nat.le_of_ble_eq_true rfl) ?_
  have e72 : (72 : Int32) * nI i = nI (72 * i) := pk_mul 72 i
  unfold goI goS
  have hb : 72 * i + 72 ≤ 216 := by omega
  have eo : ∀ j : Nat, nI (72 * i) + nI j = nI (72 * i + j) := fun j => nI_add _ _
  generalize 72 * i = b at *
  refine r_bipush (v := 72) dX11_goesOn_0 rfl ?_
  refine r_iload_n dX11_goesOn_2 rfl ?_
  refine r_imul dX11_goesOn_3 ?_
  rw [e72]
  refine r_istore_n (lv' := [(2, _), (0, _), (1, _)]) dX11_goesOn_4 (Nat.le_of_ble_eq_true rfl) rfl ?_
  refine r_aload_n dX11_goesOn_5 rfl ?_
  refine r_aload_n dX11_goesOn_6 rfl ?_
  refine r_getR rfl rfl fl_11_76 dX11_goesOn_7 ?_
  refine r_iload_n dX11_goesOn_10 rfl ?_
  refine r_ialdN rfl dX11_goesOn_11 (by omega) (by omega) rfl ?_
  refine r_putI rfl rfl fl_11_93 fw_11_1 dX11_goesOn_12 ?_
  refine r_aload_n dX11_goesOn_15 rfl ?_
  refine r_aload_n dX11_goesOn_16 rfl ?_
  refine r_getR rfl rfl fl_11_76 dX11_goesOn_17 ?_
  refine r_iload_n dX11_goesOn_20 rfl ?_
  refine r_iconst (v := 1) dX11_goesOn_21 rfl ?_
  refine r_iadd dX11_goesOn_22 ?_
  rw [show nI b + 1 = nI (b + 1) from eo 1]
  refine r_ialdN rfl dX11_goesOn_23 (by omega) (by omega) (Eq.trans (by rw [fd_up_ne (by decide)]) (show I 23 (b + 1) = I 23 (b + 1) from rfl)) ?_
  refine r_putI rfl rfl fl_11_103 fw_11_7 dX11_goesOn_24 ?_
  refine r_aload_n dX11_goesOn_27 rfl ?_
  refine r_aload_n dX11_goesOn_28 rfl ?_
  refine r_getR rfl rfl fl_11_76 dX11_goesOn_29 ?_
  refine r_iload_n dX11_goesOn_32 rfl ?_
  refine r_iconst (v := 2) dX11_goesOn_33 rfl ?_
  refine r_iadd dX11_goesOn_34 ?_
  rw [show nI b + 2 = nI (b + 2) from eo 2]
  refine r_ialdN rfl dX11_goesOn_35 (by omega) (by omega) (Eq.trans (by rw [fd_up_ne (by decide), fd_up_ne (by decide)]) (show I 23 (b + 2) = I 23 (b + 2) from rfl)) ?_
  refine r_putI rfl rfl fl_11_106 fw_11_10 dX11_goesOn_36 ?_
  refine r_aload_n dX11_goesOn_39 rfl ?_
  refine r_aload_n dX11_goesOn_40 rfl ?_
  refine r_getR rfl rfl fl_11_76 dX11_goesOn_41 ?_
  refine r_iload_n dX11_goesOn_44 rfl ?_
  refine r_iconst (v := 3) dX11_goesOn_45 rfl ?_
  refine r_iadd dX11_goesOn_46 ?_
  rw [show nI b + 3 = nI (b + 3) from eo 3]
  refine r_ialdN rfl dX11_goesOn_47 (by omega) (by omega) (Eq.trans (by rw [fd_up_ne (by decide), fd_up_ne (by decide), fd_up_ne (by decide)]) (show I 23 (b + 3) = I 23 (b + 3) from rfl)) ?_
  refine r_putI rfl rfl fl_11_109 fw_11_13 dX11_goesOn_48 ?_
  refine r_aload_n dX11_goesOn_51 rfl ?_
  refine r_aload_n dX11_goesOn_52 rfl ?_
  refine r_getR rfl rfl fl_11_76 dX11_goesOn_53 ?_
  refine r_iload_n dX11_goesOn_56 rfl ?_
  refine r_iconst (v := 4) dX11_goesOn_57 rfl ?_
  refine r_iadd dX11_goesOn_58 ?_
  rw [show nI b + 4 = nI (b + 4) from eo 4]
  refine r_ialdN rfl dX11_goesOn_59 (by omega) (by omega) (Eq.trans (by rw [fd_up_ne (by decide), fd_up_ne (by decide), fd_up_ne (by decide), fd_up_ne (by decide)]) (show I 23 (b + 4) = I 23 (b + 4) from rfl)) ?_
  refine r_putI rfl rfl fl_11_112 fw_11_16 dX11_goesOn_60 ?_
  refine r_aload_n dX11_goesOn_63 rfl ?_
  refine r_aload_n dX11_goesOn_64 rfl ?_
  refine r_getR rfl rfl fl_11_76 dX11_goesOn_65 ?_
  refine r_iload_n dX11_goesOn_68 rfl ?_
  refine r_iconst (v := 5) dX11_goesOn_69 rfl ?_
  refine r_iadd dX11_goesOn_70 ?_
  rw [show nI b + 5 = nI (b + 5) from eo 5]
  refine r_ialdN rfl dX11_goesOn_71 (by omega) (by omega) (Eq.trans (by rw [fd_up_ne (by decide), fd_up_ne (by decide), fd_up_ne (by decide), fd_up_ne (by decide), fd_up_ne (by decide)]) (show I 23 (b + 5) = I 23 (b + 5) from rfl)) ?_
  refine r_putI rfl rfl fl_11_115 fw_11_17 dX11_goesOn_72 ?_
  refine r_aload_n dX11_goesOn_75 rfl ?_
  refine r_iload_n dX11_goesOn_76 rfl ?_
  refine r_bipush (v := 6) dX11_goesOn_77 rfl ?_
  refine r_iadd dX11_goesOn_79 ?_
  rw [show nI b + 6 = nI (b + 6) from eo 6]
  refine r_aload_n dX11_goesOn_80 rfl ?_
  refine r_getR rfl rfl fl_11_13 dX11_goesOn_81 ?_
  refine r_bipush (v := 7) dX11_goesOn_84 rfl ?_
  refine r_cVr (As := [_, _, _]) (c_gives α _ _ 2 7 7 (b + 6) rfl (by decide) (by decide) (by decide) (by omega)) lk_11_308 rfl rfl (by decide) (by decide) rfl rfl (Nat.le_of_ble_eq_true rfl) dX11_goesOn_86 ?_
  refine r_istore_n (lv' := [(2, _), (0, _), (1, _)]) dX11_goesOn_89 (Nat.le_of_ble_eq_true rfl) rfl ?_
  refine r_aload_n dX11_goesOn_90 rfl ?_
  refine r_iload_n dX11_goesOn_91 rfl ?_
  refine r_aload_n dX11_goesOn_92 rfl ?_
  refine r_getR rfl rfl fl_11_16 dX11_goesOn_93 ?_
  refine r_bipush (v := 7) dX11_goesOn_96 rfl ?_
  refine r_cVr (As := [_, _, _]) (c_gives α _ _ 3 7 7 (b + 13) rfl (by decide) (by decide) (by decide) (by omega)) lk_11_308 rfl rfl (by decide) (by decide) rfl rfl (Nat.le_of_ble_eq_true rfl) dX11_goesOn_98 ?_
  refine r_istore_n (lv' := [(2, _), (0, _), (1, _)]) dX11_goesOn_101 (Nat.le_of_ble_eq_true rfl) rfl ?_
  refine r_aload_n dX11_goesOn_102 rfl ?_
  refine r_iload_n dX11_goesOn_103 rfl ?_
  refine r_aload_n dX11_goesOn_104 rfl ?_
  refine r_getR rfl rfl fl_11_19 dX11_goesOn_105 ?_
  refine r_bipush (v := 7) dX11_goesOn_108 rfl ?_
  refine r_cVr (As := [_, _, _]) (c_gives α _ _ 4 7 7 (b + 20) rfl (by decide) (by decide) (by decide) (by omega)) lk_11_308 rfl rfl (by decide) (by decide) rfl rfl (Nat.le_of_ble_eq_true rfl) dX11_goesOn_110 ?_
  refine r_istore_n (lv' := [(2, _), (0, _), (1, _)]) dX11_goesOn_113 (Nat.le_of_ble_eq_true rfl) rfl ?_
  refine r_aload_n dX11_goesOn_114 rfl ?_
  refine r_iload_n dX11_goesOn_115 rfl ?_
  refine r_aload_n dX11_goesOn_116 rfl ?_
  refine r_getR rfl rfl fl_11_22 dX11_goesOn_117 ?_
  refine r_bipush (v := 7) dX11_goesOn_120 rfl ?_
  refine r_cVr (As := [_, _, _]) (c_gives α _ _ 5 7 7 (b + 27) rfl (by decide) (by decide) (by decide) (by omega)) lk_11_308 rfl rfl (by decide) (by decide) rfl rfl (Nat.le_of_ble_eq_true rfl) dX11_goesOn_122 ?_
  refine r_istore_n (lv' := [(2, _), (0, _), (1, _)]) dX11_goesOn_125 (Nat.le_of_ble_eq_true rfl) rfl ?_
  refine r_aload_n dX11_goesOn_126 rfl ?_
  refine r_iload_n dX11_goesOn_127 rfl ?_
  refine r_aload_n dX11_goesOn_128 rfl ?_
  refine r_getR rfl rfl fl_11_25 dX11_goesOn_129 ?_
  refine r_bipush (v := 7) dX11_goesOn_132 rfl ?_
  refine r_cVr (As := [_, _, _]) (c_gives α _ _ 6 7 7 (b + 34) rfl (by decide) (by decide) (by decide) (by omega)) lk_11_308 rfl rfl (by decide) (by decide) rfl rfl (Nat.le_of_ble_eq_true rfl) dX11_goesOn_134 ?_
  refine r_istore_n (lv' := [(2, _), (0, _), (1, _)]) dX11_goesOn_137 (Nat.le_of_ble_eq_true rfl) rfl ?_
  refine r_aload_n dX11_goesOn_138 rfl ?_
  refine r_iload_n dX11_goesOn_139 rfl ?_
  refine r_aload_n dX11_goesOn_140 rfl ?_
  refine r_getR rfl rfl fl_11_43 dX11_goesOn_141 ?_
  refine r_bipush (v := 7) dX11_goesOn_144 rfl ?_
  refine r_cVr (As := [_, _, _]) (c_gives α _ _ 12 7 7 (b + 41) rfl (by decide) (by decide) (by decide) (by omega)) lk_11_308 rfl rfl (by decide) (by decide) rfl rfl (Nat.le_of_ble_eq_true rfl) dX11_goesOn_146 ?_
  refine r_istore_n (lv' := [(2, _), (0, _), (1, _)]) dX11_goesOn_149 (Nat.le_of_ble_eq_true rfl) rfl ?_
  refine r_aload_n dX11_goesOn_150 rfl ?_
  refine r_iload_n dX11_goesOn_151 rfl ?_
  refine r_aload_n dX11_goesOn_152 rfl ?_
  refine r_getR rfl rfl fl_11_28 dX11_goesOn_153 ?_
  refine r_bipush (v := 6) dX11_goesOn_156 rfl ?_
  refine r_cVr (As := [_, _, _]) (c_gives α _ _ 7 8 6 (b + 48) rfl (by decide) (by decide) (by decide) (by omega)) lk_11_308 rfl rfl (by decide) (by decide) rfl rfl (Nat.le_of_ble_eq_true rfl) dX11_goesOn_158 ?_
  refine r_istore_n (lv' := [(2, _), (0, _), (1, _)]) dX11_goesOn_161 (Nat.le_of_ble_eq_true rfl) rfl ?_
  refine r_aload_n dX11_goesOn_162 rfl ?_
  refine r_iload_n dX11_goesOn_163 rfl ?_
  refine r_aload_n dX11_goesOn_164 rfl ?_
  refine r_getR rfl rfl fl_11_31 dX11_goesOn_165 ?_
  refine r_bipush (v := 6) dX11_goesOn_168 rfl ?_
  refine r_cVr (As := [_, _, _]) (c_gives α _ _ 8 8 6 (b + 54) rfl (by decide) (by decide) (by decide) (by omega)) lk_11_308 rfl rfl (by decide) (by decide) rfl rfl (Nat.le_of_ble_eq_true rfl) dX11_goesOn_170 ?_
  refine r_istore_n (lv' := [(2, _), (0, _), (1, _)]) dX11_goesOn_173 (Nat.le_of_ble_eq_true rfl) rfl ?_
  refine r_aload_n dX11_goesOn_174 rfl ?_
  refine r_iload_n dX11_goesOn_175 rfl ?_
  refine r_aload_n dX11_goesOn_176 rfl ?_
  refine r_getR rfl rfl fl_11_34 dX11_goesOn_177 ?_
  refine r_bipush (v := 6) dX11_goesOn_180 rfl ?_
  refine r_cVr (As := [_, _, _]) (c_gives α _ _ 9 6 6 (b + 60) rfl (by decide) (by decide) (by decide) (by omega)) lk_11_308 rfl rfl (by decide) (by decide) rfl rfl (Nat.le_of_ble_eq_true rfl) dX11_goesOn_182 ?_
  refine r_istore_n (lv' := [(2, _), (0, _), (1, _)]) dX11_goesOn_185 (Nat.le_of_ble_eq_true rfl) rfl ?_
  refine r_aload_n dX11_goesOn_186 rfl ?_
  refine r_iload_n dX11_goesOn_187 rfl ?_
  refine r_aload_n dX11_goesOn_188 rfl ?_
  refine r_getR rfl rfl fl_11_37 dX11_goesOn_189 ?_
  refine r_bipush (v := 6) dX11_goesOn_192 rfl ?_
  refine r_cVr (As := [_, _, _]) (c_gives α _ _ 10 6 6 (b + 66) rfl (by decide) (by decide) (by decide) (by omega)) lk_11_308 rfl rfl (by decide) (by decide) rfl rfl (Nat.le_of_ble_eq_true rfl) dX11_goesOn_194 ?_
  refine r_pop dX11_goesOn_197 rfl ?_
  refine r_aload_n dX11_goesOn_198 rfl ?_
  refine r_iload_n dX11_goesOn_199 rfl ?_
  refine r_iconst (v := 0) dX11_goesOn_200 rfl ?_
  refine r_cVn (As := [_, _]) (c_toldOut α _ _ i hi) lk_11_304 rfl rfl (by decide) (by decide) rfl rfl (Nat.le_of_ble_eq_true rfl) dX11_goesOn_201 ?_
  refine r_vret rfl dX11_goesOn_204 ?_
  exact fd_isI rfl rfl rfl
