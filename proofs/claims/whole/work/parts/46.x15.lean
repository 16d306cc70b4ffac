/-! the class: the course, looked at -/
/-- the course has looked at the life; N is what is noted on each day -/
def lkC (V : pV) (n : Nat) (N : Nat → Int32) (I : fdI) : Prop := I 57 0 = nI n ∧ ∀ d, d < n → I 60 d = fd_b (rdB V d = true) ∧ I 61 d = fd_b (wrB V d = true) ∧ I 62 d = lnV V d ∧ I 63 d = akV V d ∧ I 64 d = N d
def noN (V : pV) (nn : Nat) (d : Nat) : Int32 := noV V (nI d) nn
abbrev lkX (V : pV) (n nn : Nat) (I : fdI) : Prop := lkC V n (noN V nn) I
/-- it stands on an order -/
def orX (n : Nat) (p : Nat → Nat) (I : fdI) : Prop := ∀ k, k < n → I 58 k = nI (p k)
theorem c_X2_lacking (α : Nat → Nat) (I : fdI) (L : fdL) (d : Nat) (hd : d < 7) : Con fd_SX α yX2_lacking mX2_lacking [.ref (α 57), .int (nI d)] I L (fd_is (some (.int (I 63 d &&& (I 67 d ^^^ -1)))) I L) := by
  refine Con.of (by decide) rfl (Nat.le_of_ble_eq_true rfl) ?_
  refine r_aload_n dX2_lacking_0 rfl ?_
  refine r_getR rfl rfl fl_2_28 dX2_lacking_1 ?_
  refine r_iload_n dX2_lacking_4 rfl ?_
  refine r_ialdN rfl dX2_lacking_5 hd (by omega) rfl ?_
  refine r_aload_n dX2_lacking_6 rfl ?_
  refine r_getR rfl rfl fl_2_40 dX2_lacking_7 ?_
  refine r_iload_n dX2_lacking_10 rfl ?_
  refine r_ialdN rfl dX2_lacking_11 hd (by omega) rfl ?_
  refine r_iconst (v := (-1)) dX2_lacking_12 rfl ?_
  refine r_ixor dX2_lacking_13 ?_
  refine r_iand dX2_lacking_14 ?_
  refine r_iret rfl dX2_lacking_15 ?_
  exact fd_isI rfl rfl rfl
theorem c_X2_wellAmong (V : pV) (K : Nat → Int32) (α : Nat → Nat) (I : fdI) (L : fdL) (l : Nat) {n : Nat} {N : Nat → Int32} {p : Nat → Nat} (hn7 : 1 ≤ n ∧ n ≤ 7) (hl : l ≤ n) (hp : isP p n) (h : lkC V n N I) (ho : orX n p I) (hk : ∀ d, d < n → I 67 d = K d) : Con fd_SX α yX2_wellAmong mX2_wellAmong [.ref (α 57), .int (nI l)] I L (fd_is (some (.int (nI (cnN (fun k => wlB V K (p k)) l)))) I L) := by
  refine Con.of (by decide) rfl (Nat.le_of_ble_eq_true rfl) ?_
  have loop : ∀ k, k ≤ l → Rn fd_SX α mX2_wellAmong 4 [(3, .int (nI k)), (2, .int (nI (cnN (fun k => wlB V K (p k)) k))), (0, .ref (α 57)), (1, .int (nI l))] [] I L (fd_is (some (.int (nI (cnN (fun k => wlB V K (p k)) l)))) I L) := by
    refine fd_down (fun k hk' ih => ?_)
    by_cases hx : k = l
    · subst hx
      refine r_iload_n dX2_wellAmong_4 rfl ?_
      refine r_iload_n dX2_wellAmong_5 rfl ?_
      refine r_icmp_ge 31 dX2_wellAmong_6 (by decide) (fun h6 => ?_) (fun h6 => absurd h6 (not_not_intro (Int32.le_refl _)))
      refine r_iload_n dX2_wellAmong_31 rfl ?_
      refine r_iret rfl dX2_wellAmong_32 ?_
      exact fd_isI rfl rfl rfl
    · have hpk := hp.1 k (by omega)
      have e1 := (h.2 (p k) hpk).2.2.2.1
      have e2 := hk (p k) hpk
      by_cases hw : akV V (p k) &&& (K (p k) ^^^ -1) = 0
      · have ev : cnN (fun k => wlB V K (p k)) (k + 1) = cnN (fun k => wlB V K (p k)) k + 1 := congrArg (fun z => cnN (fun k => wlB V K (p k)) k + z) (if_pos (show wlB V K (p k) = true from decide_eq_true hw))
        refine r_iload_n dX2_wellAmong_4 rfl ?_
        refine r_iload_n dX2_wellAmong_5 rfl ?_
        refine r_icmp_ge 31 dX2_wellAmong_6 (by decide) (fun h6 => absurd h6 (fun q => absurd ((nI_leI (by omega) (by omega)).mp q) (by omega))) (fun h6 => ?_)
        refine r_aload_n dX2_wellAmong_9 rfl ?_
        refine r_aload_n dX2_wellAmong_10 rfl ?_
        refine r_getR rfl rfl fl_2_9 dX2_wellAmong_11 ?_
        refine r_iload_n dX2_wellAmong_14 rfl ?_
        refine r_ialdN rfl dX2_wellAmong_15 (by omega) (by omega) (ho k (by omega)) ?_
        refine r_cVr (As := [_]) (c_X2_lacking α _ _ (p k) (by omega)) lk_2_97 rfl rfl (by decide) (by decide) rfl rfl (Nat.le_of_ble_eq_true rfl) dX2_wellAmong_16 ?_
        rw [e1, e2]
        refine r_if_ne 25 dX2_wellAmong_19 (by decide) (fun h19 => absurd h19 (not_not_intro hw)) (fun h19 => ?_)
        refine r_iinc (v := _ + 1) (lv' := [(2, _), (3, _), (0, _), (1, _)]) dX2_wellAmong_22 rfl rfl (Nat.le_of_ble_eq_true rfl) rfl ?_
        rw [nI_1]
        refine r_iinc (v := _ + 1) (lv' := [(3, _), (2, _), (0, _), (1, _)]) dX2_wellAmong_25 rfl rfl (Nat.le_of_ble_eq_true rfl) rfl ?_
        refine r_goto (tgt := 4) dX2_wellAmong_28 (by decide) ?_
        rw [nI_1, ← ev]
        exact r_keep [3, 2, 0, 1] rfl (ih (by omega))
      · have ev : cnN (fun k => wlB V K (p k)) (k + 1) = cnN (fun k => wlB V K (p k)) k := congrArg (fun z => cnN (fun k => wlB V K (p k)) k + z) (if_neg (show ¬ wlB V K (p k) = true from fun z => hw (of_decide_eq_true z)))
        refine r_iload_n dX2_wellAmong_4 rfl ?_
        refine r_iload_n dX2_wellAmong_5 rfl ?_
        refine r_icmp_ge 31 dX2_wellAmong_6 (by decide) (fun h6 => absurd h6 (fun q => absurd ((nI_leI (by omega) (by omega)).mp q) (by omega))) (fun h6 => ?_)
        refine r_aload_n dX2_wellAmong_9 rfl ?_
        refine r_aload_n dX2_wellAmong_10 rfl ?_
        refine r_getR rfl rfl fl_2_9 dX2_wellAmong_11 ?_
        refine r_iload_n dX2_wellAmong_14 rfl ?_
        refine r_ialdN rfl dX2_wellAmong_15 (by omega) (by omega) (ho k (by omega)) ?_
        refine r_cVr (As := [_]) (c_X2_lacking α _ _ (p k) (by omega)) lk_2_97 rfl rfl (by decide) (by decide) rfl rfl (Nat.le_of_ble_eq_true rfl) dX2_wellAmong_16 ?_
        rw [e1, e2]
        refine r_if_ne 25 dX2_wellAmong_19 (by decide) (fun h19 => ?_) (fun h19 => absurd h19 hw)
        refine r_iinc (v := _ + 1) (lv' := [(3, _), (2, _), (0, _), (1, _)]) dX2_wellAmong_25 rfl rfl (Nat.le_of_ble_eq_true rfl) rfl ?_
        refine r_goto (tgt := 4) dX2_wellAmong_28 (by decide) ?_
        rw [nI_1, ← ev]
        exact r_keep [3, 2, 0, 1] rfl (ih (by omega))
  refine r_iconst (v := 0) dX2_wellAmong_0 rfl ?_
  refine r_istore_n (lv' := [(2, _), (0, _), (1, _)]) dX2_wellAmong_1 (Nat.le_of_ble_eq_true rfl) rfl ?_
  refine r_iconst (v := 0) dX2_wellAmong_2 rfl ?_
  refine r_istore_n (lv' := [(3, _), (2, _), (0, _), (1, _)]) dX2_wellAmong_3 (Nat.le_of_ble_eq_true rfl) rfl ?_
  exact r_keep [3, 2, 0, 1] rfl (loop 0 (by omega))
