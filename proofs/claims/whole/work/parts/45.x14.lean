/-! the class: count, digest; an item -/
theorem ctV_q {s : pS} {b k : Nat} (hs : stOk s) (hb : b ≤ 150) : qOf (ctV s.1 s.2.1 s.2.2.1 s.2.2.2.1 s.2.2.2.2.1 s.2.2.2.2.2.1 (nI b) k) = 3 := by
  have h1 := hs.n7
  have h2 := hs.num
  have h3 : dyN s.1 s.2.1 ≤ s.2.1 := cnN_le _ _
  have h4 := fac_31 h1.2 h2.2.2.2.1
  unfold ctV
  repeat' split
  all_goals exact nI_q (by omega)
def o_count (s : pS) (b : Nat) (w : Int32) : oT := if dayP w 7 then (ctV s.1 s.2.1 s.2.2.1 s.2.2.2.1 s.2.2.2.2.1 s.2.2.2.2.2.1 (nI b) w.toNatClampNeg, s, 3) else (-2, s, 0)
theorem c_X10_count (s : pS) (α : Nat → Nat) (I : fdI) (L : fdL) (w : Int32) {b : Nat} (hb : I 54 0 = nI b) (hb150 : b ≤ 150) (hs : stOk s) (hx : xSt 8 s I) : Con fd_SX α yX10_count mX10_count [.ref (α 0), .int w] I L (fd_ip (xOut (o_count s b w) I L)) := by
  refine Con.of (by decide) rfl (Nat.le_of_ble_eq_true rfl) ?_
  unfold o_count
  by_cases hok : dayP w 7
  · rw [if_pos hok]
    obtain ⟨j, hj, rfl⟩ := dayP_nI hok
    rw [nI_clamp (by omega)]
    refine r_aload_n dX10_count_0 rfl ?_
    refine r_aload_n dX10_count_1 rfl ?_
    refine r_iload_n dX10_count_2 rfl ?_
    refine r_cVr (As := [_]) (c_X10_countOf s α _ _ j hj hs hx) lk_10_253 rfl rfl (by decide) (by decide) rfl rfl (Nat.le_of_ble_eq_true rfl) dX10_count_3 ?_
    rw [hb]
    refine r_cVr (As := [_]) (c_X10_counted α _ _ _) lk_10_91 rfl rfl (by decide) (by decide) rfl rfl (Nat.le_of_ble_eq_true rfl) dX10_count_6 ?_
    refine r_iret rfl dX10_count_9 ?_
    exact ⟨_, rfl, xOut.cn hx xFr.rfl' rfl (ctV_q hs hb150)⟩
  · rw [if_neg hok]
    have ho : w.toInt < 0 ∨ 6 < w.toInt := by
      rcases (show w.toInt < 0 ∨ 0 ≤ w.toInt by omega) with q | q
      · exact Or.inl q
      · exact Or.inr (Int.not_le.mp fun z => hok ⟨q, Int.lt_of_le_of_lt z (by decide)⟩)
    have h5 : ¬ w = 5 := fun q => hok (by subst q; decide)
    have cr : Con fd_SX α yX5_countOfRow mX5_countOfRow [.ref (α 8), .int w] I L (fd_is (some (.int (-2))) I L) := by
      refine Con.of (by decide) rfl (Nat.le_of_ble_eq_true rfl) ?_
      refine r_iload_n dX5_countOfRow_0 rfl ?_
      refine r_tswOut (tgt := 74) dX5_countOfRow_1 ho (by decide) ?_
      refine r_bipush (v := (-2)) dX5_countOfRow_74 rfl ?_
      refine r_iret rfl dX5_countOfRow_76 ?_
      exact fd_isI rfl rfl rfl
    have co : Con fd_SX α yX10_countOf mX10_countOf [.ref (α 0), .int w] I L (fd_is (some (.int (-2))) I L) := by
      refine Con.of (by decide) rfl (Nat.le_of_ble_eq_true rfl) ?_
      refine r_iload_n dX10_countOf_0 rfl ?_
      refine r_iconst (v := 5) dX10_countOf_1 rfl ?_
      refine r_icmp_ne 15 dX10_countOf_2 (by decide) (fun h2 => ?_) (fun h2 => absurd h2 h5)
      refine r_aload_n dX10_countOf_15 rfl ?_
      refine r_getR rfl rfl fl_10_18 dX10_countOf_16 ?_
      refine r_iload_n dX10_countOf_19 rfl ?_
      refine r_cVr (As := [_]) (cr) lk_10_267 rfl rfl (by decide) (by decide) rfl rfl (Nat.le_of_ble_eq_true rfl) dX10_countOf_20 ?_
      refine r_iret rfl dX10_countOf_23 ?_
      exact fd_isI rfl rfl rfl
    refine r_aload_n dX10_count_0 rfl ?_
    refine r_aload_n dX10_count_1 rfl ?_
    refine r_iload_n dX10_count_2 rfl ?_
    refine r_cVr (As := [_]) (co) lk_10_253 rfl rfl (by decide) (by decide) rfl rfl (Nat.le_of_ble_eq_true rfl) dX10_count_3 ?_
    refine r_cVr (As := [_]) (c_X10_counted α _ _ _) lk_10_91 rfl rfl (by decide) (by decide) rfl rfl (Nat.le_of_ble_eq_true rfl) dX10_count_6 ?_
    refine r_iret rfl dX10_count_9 ?_
    exact ⟨_, rfl, xOut.cn hx xFr.rfl' rfl rfl⟩
theorem c_X10_digest (s : pS) (α : Nat → Nat) (I : fdI) (L : fdL) (hs : stOk s) (hx : xSt 8 s I) : Con fd_SX α yX10_digest mX10_digest [.ref (α 0)] I L (fd_is (some (.long (dgV s.1 s.2.1 s.2.2.1 s.2.2.2.1 s.2.2.2.2.1 s.2.2.2.2.2.1 (I 54 0) (I 8 5) (I 8 6) (L 0 11) (L 0 12)))) I L) := by
  refine Con.of (by decide) rfl (Nat.le_of_ble_eq_true rfl) ?_
  have loop : ∀ k, k ≤ 7 → Rn fd_SX α mX10_digest 6 [(3, .int (nI k)), (1, .long (dgC s.1 s.2.1 s.2.2.1 s.2.2.2.1 s.2.2.2.2.1 s.2.2.2.2.2.1 (I 54 0) 827 k)), (0, .ref (α 0))] [] I L (fd_is (some (.long (dgV s.1 s.2.1 s.2.2.1 s.2.2.2.1 s.2.2.2.2.1 s.2.2.2.2.2.1 (I 54 0) (I 8 5) (I 8 6) (L 0 11) (L 0 12)))) I L) := by
    refine fd_down (fun k hk ih => ?_)
    by_cases h7 : k = 7
    · subst h7
      refine r_iload_n dX10_digest_6 rfl ?_
      refine r_bipush (v := 6) dX10_digest_7 rfl ?_
      refine r_icmp_gt 31 dX10_digest_9 (by decide) (fun h9 => ?_) (fun h9 => absurd h9 (by decide))
      refine r_aload_n dX10_digest_31 rfl ?_
      refine r_getR rfl rfl fl_10_18 dX10_digest_32 ?_
      refine r_lload_n dX10_digest_35 rfl ?_
      refine r_cVr (As := [_]) (c_X5_digestOfDays s.1 α _ _ _ hx.n hs.n7 hx.agr.1) lk_10_260 rfl rfl (by decide) (by decide) rfl rfl (Nat.le_of_ble_eq_true rfl) dX10_digest_36 ?_
      refine r_lstore_n (lv' := [(1, _), (3, _), (0, _)]) dX10_digest_39 (Nat.le_of_ble_eq_true rfl) rfl ?_
      refine r_aload_n dX10_digest_40 rfl ?_
      refine r_getR rfl rfl fl_10_18 dX10_digest_41 ?_
      refine r_lload_n dX10_digest_44 rfl ?_
      refine r_cVr (As := [_]) (c_X5_digestOfRows s.1 α _ _ _ hx.n hs.n7 hx.num.1 hs.num.1 hx.num.2.1 hs.num.2.1 hx.num.2.2.1 hs.num.2.2.1 hx.agr) lk_10_264 rfl rfl (by decide) (by decide) rfl rfl (Nat.le_of_ble_eq_true rfl) dX10_digest_45 ?_
      refine r_lstore_n (lv' := [(1, _), (3, _), (0, _)]) dX10_digest_48 (Nat.le_of_ble_eq_true rfl) rfl ?_
      refine r_ldc2 (v := (31 : Int64)) (fd_in 914 (by decide +kernel) (by decide +kernel)) dX10_digest_49 ?_
      refine r_lload_n dX10_digest_52 rfl ?_
      refine r_lmul dX10_digest_53 ?_
      refine r_aload_n dX10_digest_54 rfl ?_
      refine r_getJ rfl rfl fl_10_64 dX10_digest_55 ?_
      refine r_ladd dX10_digest_58 ?_
      refine r_lstore_n (lv' := [(1, _), (3, _), (0, _)]) dX10_digest_59 (Nat.le_of_ble_eq_true rfl) rfl ?_
      refine r_ldc2 (v := (31 : Int64)) (fd_in 914 (by decide +kernel) (by decide +kernel)) dX10_digest_60 ?_
      refine r_lload_n dX10_digest_63 rfl ?_
      refine r_lmul dX10_digest_64 ?_
      refine r_aload_n dX10_digest_65 rfl ?_
      refine r_getJ rfl rfl fl_10_68 dX10_digest_66 ?_
      refine r_ladd dX10_digest_69 ?_
      refine r_lret rfl dX10_digest_70 ?_
      exact fd_isI rfl rfl rfl
    · refine r_iload_n dX10_digest_6 rfl ?_
      refine r_bipush (v := 6) dX10_digest_7 rfl ?_
      refine r_icmp_gt 31 dX10_digest_9 (by decide) (fun h9 => absurd h9 (fun q => absurd ((nI_ltI (a := 6) (by decide) (by omega)).mp q) (by omega))) (fun h9 => ?_)
      refine r_ldc2 (v := (31 : Int64)) (fd_in 914 (by decide +kernel) (by decide +kernel)) dX10_digest_12 ?_
      refine r_lload_n dX10_digest_15 rfl ?_
      refine r_lmul dX10_digest_16 ?_
      refine r_aload_n dX10_digest_17 rfl ?_
      refine r_iload_n dX10_digest_18 rfl ?_
      refine r_cVr (As := [_]) (c_X10_countOf s α _ _ k (by omega) hs hx) lk_10_253 rfl rfl (by decide) (by decide) rfl rfl (Nat.le_of_ble_eq_true rfl) dX10_digest_19 ?_
      refine r_i2l dX10_digest_22 rfl ?_
      refine r_ladd dX10_digest_23 ?_
      refine r_lstore_n (lv' := [(1, _), (3, _), (0, _)]) dX10_digest_24 (Nat.le_of_ble_eq_true rfl) rfl ?_
      refine r_iinc (v := _ + 1) (lv' := [(3, _), (1, _), (0, _)]) dX10_digest_25 rfl rfl (Nat.le_of_ble_eq_true rfl) rfl ?_
      refine r_goto (tgt := 6) dX10_digest_28 (by decide) ?_
      rw [nI_1]
      exact r_keep [3, 1, 0] rfl (ih (by omega))
  refine r_ldc2 (v := (827 : Int64)) (fd_in 913 (by decide +kernel) (by decide +kernel)) dX10_digest_0 ?_
  refine r_lstore_n (lv' := [(1, _), (0, _)]) dX10_digest_3 (Nat.le_of_ble_eq_true rfl) rfl ?_
  refine r_iconst (v := 0) dX10_digest_4 rfl ?_
  refine r_istore_n (lv' := [(3, _), (1, _), (0, _)]) dX10_digest_5 (Nat.le_of_ble_eq_true rfl) rfl ?_
  exact r_keep [3, 1, 0] rfl (loop 0 (by omega))
