/-! the class: the other tellings -/
theorem xSt.num {s : pS} {I : fdI} (h : xSt 8 s I) : I 8 1 = nI s.2.2.1 ∧ I 8 2 = nI s.2.2.2.1 ∧ I 8 3 = nI s.2.2.2.2.1 ∧ I 8 4 = nI s.2.2.2.2.2.1 ∧ I 8 5 = nI s.2.2.2.2.2.2.1 ∧ I 8 6 = nI s.2.2.2.2.2.2.2 := by
  obtain ⟨V, n, nn, np, nt, rk, ot, ly⟩ := s
  exact ⟨h.2.1, h.2.2.1, h.2.2.2.1, h.2.2.2.2.1, h.2.2.2.2.2.1, h.2.2.2.2.2.2.1⟩
theorem xSt.agr {s : pS} {I : fdI} (h : xSt 8 s I) : agr s.1 (fun c => I (8 + c)) s.2.1 s.2.2.1 s.2.2.2.1 s.2.2.2.2.1 := by
  obtain ⟨V, n, nn, np, nt, rk, ot, ly⟩ := s
  exact h.2.2.2.2.2.2.2
theorem stOk.num {s : pS} (h : stOk s) : s.2.2.1 ≤ 6 ∧ s.2.2.2.1 ≤ 6 ∧ s.2.2.2.2.1 ≤ 3 ∧ s.2.2.2.2.2.1 < fac s.2.1 ∧ s.2.2.2.2.2.2.1 < fac s.2.1 ∧ s.2.2.2.2.2.2.2 ≤ s.2.1 := by
  obtain ⟨V, n, nn, np, nt, rk, ot, ly⟩ := s
  exact ⟨h.2.1, h.2.2.1, h.2.2.2.1, h.2.2.2.2.1, h.2.2.2.2.2.1, h.2.2.2.2.2.2.1⟩
theorem fac_31 {n r : Nat} (h : n ≤ 7) (hr : r < fac n) : r < 2 ^ 31 := by have := fac_le h; omega
def o_life (s : pS) (n : Int32) : oT := if lifeP n then (nI s.2.1, opLife n.toNatClampNeg, 3) else (-2, s, 0)
theorem c_X10_life (s : pS) (α : Nat → Nat) (I : fdI) (L : fdL) (n : Int32) (hs : stOk s) (hx : xSt 8 s I) : Con fd_SX α yX10_life mX10_life [.ref (α 0), .int n] I L (fd_ip (xOut (o_life s n) I L)) := by
  refine Con.of (by decide) rfl (Nat.le_of_ble_eq_true rfl) ?_
  unfold o_life
  have hn7 := hs.n7
  by_cases hok : lifeP n
  · rw [if_pos hok]
    obtain ⟨e, l1, l7⟩ := lifeP_nI hok
    refine r_aload_n dX10_life_0 rfl ?_
    refine r_aload_n dX10_life_1 rfl ?_
    refine r_getR rfl rfl fl_10_18 dX10_life_2 ?_
    refine r_iload_n dX10_life_5 rfl ?_
    refine r_cVp (As := [_]) (c_X5_tellDays α _ _ _) lk_10_87 rfl rfl (by decide) (by decide) rfl rfl (Nat.le_of_ble_eq_true rfl) dX10_life_6 (fun v6 I6 L6 q6 => ?_)
    obtain ⟨rfl, y6, -⟩ := q6
    obtain ⟨rfl, z6⟩ := y6 hok
    rw [hx.n]
    rw [e] at z6
    refine r_cVr (As := [_]) (c_X10_counted α _ _ _) lk_10_91 rfl rfl (by decide) (by decide) rfl rfl (Nat.le_of_ble_eq_true rfl) dX10_life_9 ?_
    refine r_iret rfl dX10_life_12 ?_
    exact ⟨_, rfl, xOut.cn (xSt.life l7 z6) (fun a ha => z6.1 a (by omega)) (z6.1 76 (by decide)) (nI_q (by omega))⟩
  · rw [if_neg hok]
    refine r_aload_n dX10_life_0 rfl ?_
    refine r_aload_n dX10_life_1 rfl ?_
    refine r_getR rfl rfl fl_10_18 dX10_life_2 ?_
    refine r_iload_n dX10_life_5 rfl ?_
    refine r_cVp (As := [_]) (c_X5_tellDays α _ _ _) lk_10_87 rfl rfl (by decide) (by decide) rfl rfl (Nat.le_of_ble_eq_true rfl) dX10_life_6 (fun v6 I6 L6 q6 => ?_)
    obtain ⟨rfl, -, q6⟩ := q6
    obtain ⟨rfl, rfl⟩ := q6 hok
    refine r_cVr (As := [_]) (c_X10_counted α _ _ _) lk_10_91 rfl rfl (by decide) (by decide) rfl rfl (Nat.le_of_ble_eq_true rfl) dX10_life_9 ?_
    refine r_iret rfl dX10_life_12 ?_
    exact ⟨_, rfl, xOut.cn hx xFr.rfl' rfl rfl⟩
def o_at (s : pS) (d k : Int32) : oT := if dayP d s.2.1 ∧ (k = -1 ∨ dayP k s.2.1) then (s.1 4 d.toNatClampNeg, opAt s d.toNatClampNeg k, 3) else (-10, s, 0)
theorem or_ge {v : Int32} {n : Nat} (h : v = -1 ∨ dayP v n) : ¬ v = -2 := by
  rintro rfl
  rcases h with q | q
  · exact absurd q (by decide)
  · exact absurd q.1 (by decide)
theorem c_X10_at (s : pS) (α : Nat → Nat) (I : fdI) (L : fdL) (d k : Int32) (hs : stOk s) (hx : xSt 8 s I) : Con fd_SX α yX10_at mX10_at [.ref (α 0), .int d, .int k] I L (fd_ip (xOut (o_at s d k) I L)) := by
  refine Con.of (by decide) rfl (Nat.le_of_ble_eq_true rfl) ?_
  unfold o_at
  have hn7 := hs.n7
  by_cases hok : dayP d s.2.1 ∧ (k = -1 ∨ dayP k s.2.1)
  · rw [if_pos hok]
    obtain ⟨j, hj, rfl⟩ := dayP_nI hok.1
    rw [nI_clamp (by omega)]
    refine r_aload_n dX10_at_0 rfl ?_
    refine r_getR rfl rfl fl_10_18 dX10_at_1 ?_
    refine r_iload_n dX10_at_4 rfl ?_
    refine r_iload_n dX10_at_5 rfl ?_
    refine r_cVr (As := [_, _]) (c_X5_tellPlace α _ _ _ _ hx.n hn7) lk_10_108 rfl rfl (by decide) (by decide) rfl rfl (Nat.le_of_ble_eq_true rfl) dX10_at_6 ?_
    rw [if_pos hok, if_pos hok, nI_clamp (by omega), (hx.kind hj).2.2.2.1]
    refine r_istore_n (lv' := [(3, _), (0, _), (1, _), (2, _)]) dX10_at_9 (Nat.le_of_ble_eq_true rfl) rfl ?_
    refine r_iload_n dX10_at_10 rfl ?_
    refine r_bipush (v := (-2)) dX10_at_11 rfl ?_
    refine r_icmp_ne 25 dX10_at_13 (by decide) (fun h13 => ?_) (fun h13 => absurd h13 (or_ge (hs.v.1 j hj).2.2.2.1))
    refine r_iload_n dX10_at_25 rfl ?_
    refine r_iret rfl dX10_at_26 ?_
    exact ⟨_, rfl, xOut.none hx.at (xFr.rfl'.up (by decide)) rfl⟩
  · rw [if_neg hok]
    refine r_aload_n dX10_at_0 rfl ?_
    refine r_getR rfl rfl fl_10_18 dX10_at_1 ?_
    refine r_iload_n dX10_at_4 rfl ?_
    refine r_iload_n dX10_at_5 rfl ?_
    refine r_cVr (As := [_, _]) (c_X5_tellPlace α _ _ _ _ hx.n hn7) lk_10_108 rfl rfl (by decide) (by decide) rfl rfl (Nat.le_of_ble_eq_true rfl) dX10_at_6 ?_
    rw [if_neg hok, if_neg hok]
    refine r_istore_n (lv' := [(3, _), (0, _), (1, _), (2, _)]) dX10_at_9 (Nat.le_of_ble_eq_true rfl) rfl ?_
    refine r_iload_n dX10_at_10 rfl ?_
    refine r_bipush (v := (-2)) dX10_at_11 rfl ?_
    refine r_icmp_ne 25 dX10_at_13 (by decide) (fun h13 => absurd h13 (by decide)) (fun h13 => ?_)
    refine r_aload_n dX10_at_16 rfl ?_
    refine r_bipush (v := (-10)) dX10_at_17 rfl ?_
    refine r_cVr (As := [_]) (c_X10_badAs α _ _ _) lk_10_111 rfl rfl (by decide) (by decide) rfl rfl (Nat.le_of_ble_eq_true rfl) dX10_at_19 ?_
    refine r_goto (tgt := 26) dX10_at_22 (by decide) ?_
    refine r_iret rfl dX10_at_26 ?_
    exact ⟨_, rfl, xOut.bad hx⟩
def o_diary (s : pS) (d k : Int32) : oT := if dayP d s.2.1 ∧ setP k then (s.1 5 d.toNatClampNeg, opDiary s d.toNatClampNeg k, 3) else (-10, s, 0)
theorem c_X10_diary (s : pS) (α : Nat → Nat) (I : fdI) (L : fdL) (d k : Int32) (hs : stOk s) (hx : xSt 8 s I) : Con fd_SX α yX10_diary mX10_diary [.ref (α 0), .int d, .int k] I L (fd_ip (xOut (o_diary s d k) I L)) := by
  refine Con.of (by decide) rfl (Nat.le_of_ble_eq_true rfl) ?_
  unfold o_diary
  have hn7 := hs.n7
  by_cases hok : dayP d s.2.1 ∧ setP k
  · rw [if_pos hok]
    obtain ⟨j, hj, rfl⟩ := dayP_nI hok.1
    rw [nI_clamp (by omega)]
    refine r_aload_n dX10_diary_0 rfl ?_
    refine r_getR rfl rfl fl_10_18 dX10_diary_1 ?_
    refine r_iload_n dX10_diary_4 rfl ?_
    refine r_iload_n dX10_diary_5 rfl ?_
    refine r_cVr (As := [_, _]) (c_X5_tellDiary α _ _ _ _ hx.n hn7) lk_10_215 rfl rfl (by decide) (by decide) rfl rfl (Nat.le_of_ble_eq_true rfl) dX10_diary_6 ?_
    rw [if_pos hok, if_pos hok, nI_clamp (by omega), (hx.kind hj).2.2.2.2]
    refine r_istore_n (lv' := [(3, _), (0, _), (1, _), (2, _)]) dX10_diary_9 (Nat.le_of_ble_eq_true rfl) rfl ?_
    refine r_iload_n dX10_diary_10 rfl ?_
    refine r_bipush (v := (-2)) dX10_diary_11 rfl ?_
    refine r_icmp_ne 25 dX10_diary_13 (by decide) (fun h13 => ?_) (fun h13 => absurd h13 (or_ge (hs.v.1 j hj).2.2.2.2))
    refine r_iload_n dX10_diary_25 rfl ?_
    refine r_iret rfl dX10_diary_26 ?_
    exact ⟨_, rfl, xOut.none hx.diary (xFr.rfl'.up (by decide)) rfl⟩
  · rw [if_neg hok]
    refine r_aload_n dX10_diary_0 rfl ?_
    refine r_getR rfl rfl fl_10_18 dX10_diary_1 ?_
    refine r_iload_n dX10_diary_4 rfl ?_
    refine r_iload_n dX10_diary_5 rfl ?_
    refine r_cVr (As := [_, _]) (c_X5_tellDiary α _ _ _ _ hx.n hn7) lk_10_215 rfl rfl (by decide) (by decide) rfl rfl (Nat.le_of_ble_eq_true rfl) dX10_diary_6 ?_
    rw [if_neg hok, if_neg hok]
    refine r_istore_n (lv' := [(3, _), (0, _), (1, _), (2, _)]) dX10_diary_9 (Nat.le_of_ble_eq_true rfl) rfl ?_
    refine r_iload_n dX10_diary_10 rfl ?_
    refine r_bipush (v := (-2)) dX10_diary_11 rfl ?_
    refine r_icmp_ne 25 dX10_diary_13 (by decide) (fun h13 => absurd h13 (by decide)) (fun h13 => ?_)
    refine r_aload_n dX10_diary_16 rfl ?_
    refine r_bipush (v := (-10)) dX10_diary_17 rfl ?_
    refine r_cVr (As := [_]) (c_X10_badAs α _ _ _) lk_10_111 rfl rfl (by decide) (by decide) rfl rfl (Nat.le_of_ble_eq_true rfl) dX10_diary_19 ?_
    refine r_goto (tgt := 26) dX10_diary_22 (by decide) ?_
    refine r_iret rfl dX10_diary_26 ?_
    exact ⟨_, rfl, xOut.bad hx⟩
def o_order (s : pS) (r : Int32) : oT := if dayP r (fac s.2.1) then (nI s.2.2.2.2.2.1, opOrder s r.toNatClampNeg, 3) else (-2, s, 0)
theorem c_X10_order (s : pS) (α : Nat → Nat) (I : fdI) (L : fdL) (r : Int32) (hs : stOk s) (hx : xSt 8 s I) : Con fd_SX α yX10_order mX10_order [.ref (α 0), .int r] I L (fd_ip (xOut (o_order s r) I L)) := by
  refine Con.of (by decide) rfl (Nat.le_of_ble_eq_true rfl) ?_
  unfold o_order
  have hn7 := hs.n7
  by_cases hok : dayP r (fac s.2.1)
  · rw [if_pos hok]
    obtain ⟨j, hj, rfl⟩ := dayP_nI hok
    have hf := fac_le hn7.2
    rw [nI_clamp (by omega)]
    refine r_aload_n dX10_order_0 rfl ?_
    refine r_aload_n dX10_order_1 rfl ?_
    refine r_getR rfl rfl fl_10_18 dX10_order_2 ?_
    refine r_iload_n dX10_order_5 rfl ?_
    refine r_cVr (As := [_]) (c_X5_tellOrder α _ _ _ hx.n hn7) lk_10_117 rfl rfl (by decide) (by decide) rfl rfl (Nat.le_of_ble_eq_true rfl) dX10_order_6 ?_
    rw [if_pos hok, if_pos hok, hx.num.2.2.2.1]
    refine r_cVr (As := [_]) (c_X10_counted α _ _ _) lk_10_91 rfl rfl (by decide) (by decide) rfl rfl (Nat.le_of_ble_eq_true rfl) dX10_order_9 ?_
    refine r_iret rfl dX10_order_12 ?_
    exact ⟨_, rfl, xOut.cn hx.order ((xFr.rfl'.up (by decide)).up (by decide)) rfl (nI_q (fac_31 hn7.2 hs.num.2.2.2.1))⟩
  · rw [if_neg hok]
    refine r_aload_n dX10_order_0 rfl ?_
    refine r_aload_n dX10_order_1 rfl ?_
    refine r_getR rfl rfl fl_10_18 dX10_order_2 ?_
    refine r_iload_n dX10_order_5 rfl ?_
    refine r_cVr (As := [_]) (c_X5_tellOrder α _ _ _ hx.n hn7) lk_10_117 rfl rfl (by decide) (by decide) rfl rfl (Nat.le_of_ble_eq_true rfl) dX10_order_6 ?_
    rw [if_neg hok, if_neg hok]
    refine r_cVr (As := [_]) (c_X10_counted α _ _ _) lk_10_91 rfl rfl (by decide) (by decide) rfl rfl (Nat.le_of_ble_eq_true rfl) dX10_order_9 ?_
    refine r_iret rfl dX10_order_12 ?_
    exact ⟨_, rfl, xOut.cn hx xFr.rfl' rfl rfl⟩
def o_other (s : pS) (r : Int32) : oT := if dayP r (fac s.2.1) then (nI s.2.2.2.2.2.2.1, opOther s r.toNatClampNeg, 3) else (-2, s, 0)
theorem c_X10_other (s : pS) (α : Nat → Nat) (I : fdI) (L : fdL) (r : Int32) (hs : stOk s) (hx : xSt 8 s I) : Con fd_SX α yX10_other mX10_other [.ref (α 0), .int r] I L (fd_ip (xOut (o_other s r) I L)) := by
  refine Con.of (by decide) rfl (Nat.le_of_ble_eq_true rfl) ?_
  unfold o_other
  have hn7 := hs.n7
  by_cases hok : dayP r (fac s.2.1)
  · rw [if_pos hok]
    obtain ⟨j, hj, rfl⟩ := dayP_nI hok
    have hf := fac_le hn7.2
    rw [nI_clamp (by omega)]
    refine r_aload_n dX10_other_0 rfl ?_
    refine r_aload_n dX10_other_1 rfl ?_
    refine r_getR rfl rfl fl_10_18 dX10_other_2 ?_
    refine r_iload_n dX10_other_5 rfl ?_
    refine r_cVr (As := [_]) (c_X5_tellOther α _ _ _ hx.n hn7) lk_10_235 rfl rfl (by decide) (by decide) rfl rfl (Nat.le_of_ble_eq_true rfl) dX10_other_6 ?_
    rw [if_pos hok, if_pos hok, hx.num.2.2.2.2.1]
    refine r_cVr (As := [_]) (c_X10_counted α _ _ _) lk_10_91 rfl rfl (by decide) (by decide) rfl rfl (Nat.le_of_ble_eq_true rfl) dX10_other_9 ?_
    refine r_iret rfl dX10_other_12 ?_
    exact ⟨_, rfl, xOut.cn hx.other (xFr.rfl'.up (by decide)) rfl (nI_q (fac_31 hn7.2 hs.num.2.2.2.2.1))⟩
  · rw [if_neg hok]
    refine r_aload_n dX10_other_0 rfl ?_
    refine r_aload_n dX10_other_1 rfl ?_
    refine r_getR rfl rfl fl_10_18 dX10_other_2 ?_
    refine r_iload_n dX10_other_5 rfl ?_
    refine r_cVr (As := [_]) (c_X5_tellOther α _ _ _ hx.n hn7) lk_10_235 rfl rfl (by decide) (by decide) rfl rfl (Nat.le_of_ble_eq_true rfl) dX10_other_6 ?_
    rw [if_neg hok, if_neg hok]
    refine r_cVr (As := [_]) (c_X10_counted α _ _ _) lk_10_91 rfl rfl (by decide) (by decide) rfl rfl (Nat.le_of_ble_eq_true rfl) dX10_other_9 ?_
    refine r_iret rfl dX10_other_12 ?_
    exact ⟨_, rfl, xOut.cn hx xFr.rfl' rfl rfl⟩
def o_told (s : pS) (r : Int32) : oT := if dayP r (fac s.2.1) then (if s.2.2.2.2.1 = 3 then (-4, s, 2) else (nI s.2.2.2.2.1, opTold s r, 3)) else (-2, s, 0)
theorem c_X10_told (s : pS) (α : Nat → Nat) (I : fdI) (L : fdL) (r : Int32) (hs : stOk s) (hx : xSt 8 s I) : Con fd_SX α yX10_told mX10_told [.ref (α 0), .int r] I L (fd_ip (xOut (o_told s r) I L)) := by
  refine Con.of (by decide) rfl (Nat.le_of_ble_eq_true rfl) ?_
  unfold o_told
  have hn7 := hs.n7
  have h3 := hs.num.2.2.1
  refine r_aload_n dX10_told_0 rfl ?_
  refine r_aload_n dX10_told_1 rfl ?_
  refine r_getR rfl rfl fl_10_18 dX10_told_2 ?_
  refine r_iload_n dX10_told_5 rfl ?_
  refine r_cVr (As := [_]) (c_X5_tellForNotes α _ _ _ hx.n hn7 hx.num.2.2.1 h3) lk_10_189 rfl rfl (by decide) (by decide) rfl rfl (Nat.le_of_ble_eq_true rfl) dX10_told_6 ?_
  refine r_cVr (As := [_]) (c_X10_counted α _ _ _) lk_10_91 rfl rfl (by decide) (by decide) rfl rfl (Nat.le_of_ble_eq_true rfl) dX10_told_9 ?_
  refine r_iret rfl dX10_told_12 ?_
  refine ⟨_, rfl, ?_⟩
  unfold toR
  by_cases hok : dayP r (fac s.2.1)
  · rw [if_pos hok, if_pos hok]
    by_cases q3 : s.2.2.2.2.1 = 3
    · rw [if_pos q3, if_pos q3, if_neg (fun z => z.2 q3)]
      exact xOut.cn hx xFr.rfl' rfl rfl
    · rw [if_neg q3, if_neg q3, if_pos ⟨hok, q3⟩]
      exact xOut.cn hx.told ((xFr.rfl'.up (by decide)).up (by decide)) rfl (nI_q (by omega))
  · rw [if_neg hok, if_neg hok, if_neg (fun z => hok z.1)]
    exact xOut.cn hx xFr.rfl' rfl rfl
def o_ahead (s : pS) (a b : Int32) : oT := if dayP a s.2.1 ∧ dayP b s.2.1 ∧ ¬ a = b then (if s.2.2.2.1 = 6 then (-4, s, 2) else (nI s.2.2.2.1, opAhead s a b, 3)) else (-2, s, 0)
theorem c_X10_ahead (s : pS) (α : Nat → Nat) (I : fdI) (L : fdL) (a b : Int32) (hs : stOk s) (hx : xSt 8 s I) : Con fd_SX α yX10_ahead mX10_ahead [.ref (α 0), .int a, .int b] I L (fd_ip (xOut (o_ahead s a b) I L)) := by
  refine Con.of (by decide) rfl (Nat.le_of_ble_eq_true rfl) ?_
  unfold o_ahead
  have hn7 := hs.n7
  have h3 := hs.num.2.1
  refine r_aload_n dX10_ahead_0 rfl ?_
  refine r_aload_n dX10_ahead_1 rfl ?_
  refine r_getR rfl rfl fl_10_18 dX10_ahead_2 ?_
  refine r_iload_n dX10_ahead_5 rfl ?_
  refine r_iload_n dX10_ahead_6 rfl ?_
  refine r_cVr (As := [_, _]) (c_X5_tellPair α _ _ _ _ hx.n hn7 hx.num.2.1 h3) lk_10_105 rfl rfl (by decide) (by decide) rfl rfl (Nat.le_of_ble_eq_true rfl) dX10_ahead_7 ?_
  refine r_cVr (As := [_]) (c_X10_counted α _ _ _) lk_10_91 rfl rfl (by decide) (by decide) rfl rfl (Nat.le_of_ble_eq_true rfl) dX10_ahead_10 ?_
  refine r_iret rfl dX10_ahead_13 ?_
  refine ⟨_, rfl, ?_⟩
  unfold ahR
  by_cases hok : dayP a s.2.1 ∧ dayP b s.2.1 ∧ ¬ a = b
  · rw [if_pos hok, if_pos hok]
    by_cases q3 : s.2.2.2.1 = 6
    · rw [if_pos q3, if_pos q3, if_neg (fun z => z.2 q3)]
      exact xOut.cn hx xFr.rfl' rfl rfl
    · rw [if_neg q3, if_neg q3, if_pos ⟨hok, q3⟩]
      exact xOut.cn hx.ahead (((xFr.rfl'.up (by decide)).up (by decide)).up (by decide)) rfl (nI_q (by omega))
  · rw [if_neg hok, if_neg hok, if_neg (fun z => hok z.1)]
    exact xOut.cn hx xFr.rfl' rfl rfl
theorem isNP_x {s : pS} {I : fdI} {d f : Int32} (hx : xSt 8 s I) : orB (fun i => I 14 i = d && I 15 i = f) s.2.2.1 = isNP s d f := by
  unfold isNP
  refine orB_congr fun i hi => ?_
  obtain ⟨a1, a2⟩ := hx.agr.2.1 i hi
  have a1 : I 14 i = s.1 6 i := a1
  have a2 : I 15 i = s.1 7 i := a2
  rw [a1, a2]
def o_note (s : pS) (d f : Int32) : oT := if dayP d s.2.1 ∧ dayP f 6 then (if isNP s d f = true then (-3, s, 1) else if s.2.2.1 = 6 then (-4, s, 2) else (nI s.2.2.1, opNote s d f, 3)) else (-2, s, 0)
theorem c_X10_note (s : pS) (α : Nat → Nat) (I : fdI) (L : fdL) (d f : Int32) (hs : stOk s) (hx : xSt 8 s I) : Con fd_SX α yX10_note mX10_note [.ref (α 0), .int d, .int f] I L (fd_ip (xOut (o_note s d f) I L)) := by
  refine Con.of (by decide) rfl (Nat.le_of_ble_eq_true rfl) ?_
  unfold o_note
  have hn7 := hs.n7
  have h3 := hs.num.1
  have hV : ∀ i, i < s.2.2.1 → dayP (I 15 i) 6 := fun i hi => by
    have a2 : I 15 i = s.1 7 i := (hx.agr.2.1 i hi).2
    rw [a2]; exact (hs.v.2.1 i hi).2
  refine r_aload_n dX10_note_0 rfl ?_
  refine r_aload_n dX10_note_1 rfl ?_
  refine r_getR rfl rfl fl_10_18 dX10_note_2 ?_
  refine r_iload_n dX10_note_5 rfl ?_
  refine r_iload_n dX10_note_6 rfl ?_
  refine r_cVr (As := [_, _]) (c_X5_tellNote α _ _ _ _ hx.n hn7 hx.num.1 h3 hV) lk_10_102 rfl rfl (by decide) (by decide) rfl rfl (Nat.le_of_ble_eq_true rfl) dX10_note_7 ?_
  refine r_cVr (As := [_]) (c_X10_counted α _ _ _) lk_10_91 rfl rfl (by decide) (by decide) rfl rfl (Nat.le_of_ble_eq_true rfl) dX10_note_10 ?_
  refine r_iret rfl dX10_note_13 ?_
  refine ⟨_, rfl, ?_⟩
  rw [isNP_x hx]
  by_cases hok : dayP d s.2.1 ∧ dayP f 6
  · rw [if_pos hok, if_pos hok]
    cases hq : isNP s d f with
    | true =>
      rw [if_pos rfl, if_pos rfl, if_neg (fun z => absurd z.2.1 (by decide))]
      exact xOut.cn hx xFr.rfl' rfl rfl
    | false =>
      rw [if_neg (show ¬ false = true by decide), if_neg (show ¬ false = true by decide)]
      by_cases q3 : s.2.2.1 = 6
      · rw [if_pos q3, if_pos q3, if_neg (fun z => z.2.2 q3)]
        exact xOut.cn hx xFr.rfl' rfl rfl
      · rw [if_neg q3, if_neg q3, if_pos ⟨hok, rfl, q3⟩]
        exact xOut.cn hx.note ((((xFr.rfl'.up (by decide)).up (by decide)).up (by decide)).up (by decide)) rfl (nI_q (by omega))
  · rw [if_neg hok, if_neg hok, if_neg (fun z => hok z.1)]
    exact xOut.cn hx xFr.rfl' rfl rfl
def o_fact (s : pS) (d w f b : Int32) : oT := if dayP d s.2.1 ∧ dayP w 2 ∧ dayP f 6 then (if fd_b (fcB s d.toNatClampNeg w.toNatClampNeg f = true) = b then (-3, s, 1) else (1, opFact s d.toNatClampNeg w.toNatClampNeg f, 3)) else (-2, s, 0)
theorem c_X10_fact (s : pS) (α : Nat → Nat) (I : fdI) (L : fdL) (d w f b : Int32) (hb : b = 0 ∨ b = 1) (hs : stOk s) (hx : xSt 8 s I) : Con fd_SX α yX10_fact mX10_fact [.ref (α 0), .int d, .int w, .int f, .int b] I L (fd_ip (xOut (o_fact s d w f b) I L)) := by
  refine Con.of (by decide) rfl (Nat.le_of_ble_eq_true rfl) ?_
  unfold o_fact
  have hn7 := hs.n7
  by_cases hok : dayP d s.2.1 ∧ dayP w 2 ∧ dayP f 6
  · rw [if_pos hok]
    have e2 := hok.2.1
    obtain ⟨j, hj, rfl⟩ := dayP_nI hok.1
    obtain ⟨i, hi, rfl⟩ := dayP_nI hok.2.1
    have ex : fxH I (nI j) (nI i) = s.1 (2 + i) j := by
      unfold fxH
      rw [nI_clamp (by omega), nI_clamp (by omega)]
      obtain ⟨g1, g2, g3, g4, g5⟩ := hx.kind hj
      rcases (show i = 0 ∨ i = 1 by omega) with rfl | rfl
      · exact g2
      · exact g3
    have ex2 : I (10 + i) j = s.1 (2 + i) j := by
      rw [← ex]
      unfold fxH
      rw [nI_clamp (by omega), nI_clamp (by omega)]
    have ey : fd_b (fcB s j i f = true) = fd_b ((s.1 (2 + i) j >>> (f &&& 31)) &&& 1 = 1) := by
      by_cases z : (s.1 (2 + i) j >>> (f &&& 31)) &&& 1 = 1
      · rw [fd_b_t z, fd_b_t (show fcB s j i f = true from decide_eq_true z)]
      · rw [fd_b_f z, fd_b_f (fun q : fcB s j i f = true => z (of_decide_eq_true q))]
    rw [nI_clamp (by omega), nI_clamp (by omega), ey]
    refine r_aload_n dX10_fact_0 rfl ?_
    refine r_aload_n dX10_fact_1 rfl ?_
    refine r_getR rfl rfl fl_10_18 dX10_fact_2 ?_
    refine r_iload_n dX10_fact_5 rfl ?_
    refine r_iload_n dX10_fact_6 rfl ?_
    refine r_iload_n dX10_fact_7 rfl ?_
    refine r_iload dX10_fact_8 rfl ?_
    refine r_cVr (As := [_, _, _, _]) (c_X5_tellFact α _ _ _ _ _ _ hb hx.n hn7) lk_10_98 rfl rfl (by decide) (by decide) rfl rfl (Nat.le_of_ble_eq_true rfl) dX10_fact_10 ?_
    rw [if_pos hok, ex, nI_clamp (by omega), nI_clamp (by omega)]
    refine r_cVr (As := [_]) (c_X10_counted α _ _ _) lk_10_91 rfl rfl (by decide) (by decide) rfl rfl (Nat.le_of_ble_eq_true rfl) dX10_fact_13 ?_
    refine r_iret rfl dX10_fact_16 ?_
    refine ⟨_, rfl, ?_⟩
    by_cases q : fd_b ((s.1 (2 + i) j >>> (f &&& 31)) &&& 1 = 1) = b
    · rw [if_pos q, if_pos q, if_neg (fun z => z.2 q)]
      exact xOut.cn hx xFr.rfl' rfl rfl
    · rw [if_neg q, if_neg q, if_pos ⟨hok, q⟩, ← ex2]
      exact xOut.cn (hx.fact hi hj) ((xFr.rfl'.up (by omega)).up (by decide)) (by rw [fd_up_cell (by decide), fd_up_cell (by omega)]) rfl
  · rw [if_neg hok]
    refine r_aload_n dX10_fact_0 rfl ?_
    refine r_aload_n dX10_fact_1 rfl ?_
    refine r_getR rfl rfl fl_10_18 dX10_fact_2 ?_
    refine r_iload_n dX10_fact_5 rfl ?_
    refine r_iload_n dX10_fact_6 rfl ?_
    refine r_iload_n dX10_fact_7 rfl ?_
    refine r_iload dX10_fact_8 rfl ?_
    refine r_cVr (As := [_, _, _, _]) (c_X5_tellFact α _ _ _ _ _ _ hb hx.n hn7) lk_10_98 rfl rfl (by decide) (by decide) rfl rfl (Nat.le_of_ble_eq_true rfl) dX10_fact_10 ?_
    rw [if_neg hok, if_neg (fun z => hok z.1)]
    refine r_cVr (As := [_]) (c_X10_counted α _ _ _) lk_10_91 rfl rfl (by decide) (by decide) rfl rfl (Nat.le_of_ble_eq_true rfl) dX10_fact_13 ?_
    refine r_iret rfl dX10_fact_16 ?_
    exact ⟨_, rfl, xOut.cn hx xFr.rfl' rfl rfl⟩
def o_tear (s : pS) (w : Int32) : oT := if dayP w 4 then (if w = 0 then nI s.2.2.1 else if w = 1 then nI s.2.2.2.1 else if w = 2 then nI (dyN s.1 s.2.1) else nI s.2.2.2.2.1, opTear s w, 3) else (-2, s, 0)
theorem dyN_x {s : pS} {I : fdI} (hx : xSt 8 s I) : cnN (fun k => !(I 13 k = -1)) s.2.1 = dyN s.1 s.2.1 := by
  unfold dyN
  exact cnN_congr fun i hi => by rw [(hx.kind hi).2.2.2.2]
theorem c_X10_tear (s : pS) (α : Nat → Nat) (I : fdI) (L : fdL) (w : Int32) (hs : stOk s) (hx : xSt 8 s I) : Con fd_SX α yX10_tear mX10_tear [.ref (α 0), .int w] I L (fd_ip (xOut (o_tear s w) I L)) := by
  refine Con.of (by decide) rfl (Nat.le_of_ble_eq_true rfl) ?_
  unfold o_tear
  have hn7 := hs.n7
  have hnum := hs.num
  have hdy : dyN s.1 s.2.1 ≤ s.2.1 := cnN_le _ _
  by_cases hok : dayP w 4
  · rw [if_pos hok]
    refine r_aload_n dX10_tear_0 rfl ?_
    refine r_aload_n dX10_tear_1 rfl ?_
    refine r_getR rfl rfl fl_10_18 dX10_tear_2 ?_
    refine r_iload_n dX10_tear_5 rfl ?_
    refine r_cVp (As := [_]) (c_X5_tearOut (rk := s.2.2.2.2.2.1) α _ _ _ hx.n hn7 hx.num.1 hx.num.2.1 hx.num.2.2.1 hx.num.2.2.2.1) lk_10_114 rfl rfl (by decide) (by decide) rfl rfl (Nat.le_of_ble_eq_true rfl) dX10_tear_6 (fun v6 I6 L6 q6 => ?_)
    obtain ⟨rfl, y6, -⟩ := q6
    obtain ⟨rfl, z6⟩ := y6 hok
    rw [dyN_x hx]
    refine r_cVr (As := [_]) (c_X10_counted α _ _ _) lk_10_91 rfl rfl (by decide) (by decide) rfl rfl (Nat.le_of_ble_eq_true rfl) dX10_tear_9 ?_
    refine r_iret rfl dX10_tear_12 ?_
    refine ⟨_, rfl, xOut.cn (xSt.tear hs hx z6) (fun a ha => ?_) ?_ ?_⟩
    · revert z6
      repeat' split
      · rintro rfl; rw [fd_up_cell (by omega), fd_up_cell (by omega)]
      · rintro rfl; rw [fd_up_cell (by omega)]
      · intro z; exact z.1 a (by omega)
      · rintro rfl; rw [fd_up_cell (by omega)]
    · revert z6
      repeat' split
      · rintro rfl; rw [fd_up_cell (by omega), fd_up_cell (by omega)]
      · rintro rfl; rw [fd_up_cell (by omega)]
      · intro z; exact z.1 76 (by omega)
      · rintro rfl; rw [fd_up_cell (by omega)]
    · repeat' split
      all_goals exact nI_q (by omega)
  · rw [if_neg hok]
    refine r_aload_n dX10_tear_0 rfl ?_
    refine r_aload_n dX10_tear_1 rfl ?_
    refine r_getR rfl rfl fl_10_18 dX10_tear_2 ?_
    refine r_iload_n dX10_tear_5 rfl ?_
    refine r_cVp (As := [_]) (c_X5_tearOut (rk := s.2.2.2.2.2.1) α _ _ _ hx.n hn7 hx.num.1 hx.num.2.1 hx.num.2.2.1 hx.num.2.2.2.1) lk_10_114 rfl rfl (by decide) (by decide) rfl rfl (Nat.le_of_ble_eq_true rfl) dX10_tear_6 (fun v6 I6 L6 q6 => ?_)
    obtain ⟨rfl, -, y6⟩ := q6
    obtain ⟨rfl, rfl⟩ := y6 hok
    refine r_cVr (As := [_]) (c_X10_counted α _ _ _) lk_10_91 rfl rfl (by decide) (by decide) rfl rfl (Nat.le_of_ble_eq_true rfl) dX10_tear_9 ?_
    refine r_iret rfl dX10_tear_12 ?_
    exact ⟨_, rfl, xOut.cn hx xFr.rfl' rfl rfl⟩
