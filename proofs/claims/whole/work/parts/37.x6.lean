/-! the class: tellings with what is refused counted -/
abbrev xBad (I : fdI) : fdI := fd_up I 76 0 (I 76 0 + 1)
abbrev xNo (I : fdI) : fdI := fd_up I 76 1 (I 76 1 + 1)
abbrev xFull (I : fdI) : fdI := fd_up I 76 2 (I 76 2 + 1)
def cnX (r : Int32) (I : fdI) : fdI := if r = -2 then xBad I else if r = -3 then xNo I else if r = -4 then xFull I else I
theorem i_between {r : Int32} (h1 : ¬ (-2 : Int32) < r) (h2 : ¬ r < -4) : r = -2 ∨ r = -3 ∨ r = -4 := by
  rw [Int32.lt_iff_toInt_lt] at h1 h2
  have a1 : r.toInt ≤ -2 := Int.not_lt.mp h1
  have a2 : -4 ≤ r.toInt := Int.not_lt.mp h2
  rcases (show r.toInt = -2 ∨ r.toInt = -3 ∨ r.toInt = -4 by omega) with q | q | q
  · exact Or.inl (Int32.toInt_inj.mp q)
  · exact Or.inr (Or.inl (Int32.toInt_inj.mp q))
  · exact Or.inr (Or.inr (Int32.toInt_inj.mp q))
theorem cnX_n {r : Int32} {I : fdI} (h1 : ¬ r = -2) (h2 : ¬ r = -3) (h3 : ¬ r = -4) : cnX r I = I := by
  unfold cnX
  rw [if_neg h1, if_neg h2, if_neg h3]
theorem cnX_nn {r : Int32} {I : fdI} (h : -2 < r.toInt) : cnX r I = I := cnX_n (fun q => by subst q; exact absurd h (by decide)) (fun q => by subst q; exact absurd h (by decide)) (fun q => by subst q; exact absurd h (by decide))
theorem c_X10_counted (α : Nat → Nat) (I : fdI) (L : fdL) (r : Int32) : Con fd_SX α yX10_counted mX10_counted [.ref (α 0), .int r] I L (fd_is (some (.int r)) (cnX r I) L) := by
  refine Con.of (by decide) rfl (Nat.le_of_ble_eq_true rfl) ?_
  by_cases q2 : r = -2
  · subst q2
    refine r_iload_n dX10_counted_0 rfl ?_
    refine r_bipush (v := (-2)) dX10_counted_1 rfl ?_
    refine r_icmp_gt 25 dX10_counted_3 (by decide) (fun h3 => absurd h3 (by decide)) (fun h3 => ?_)
    refine r_iload_n dX10_counted_6 rfl ?_
    refine r_bipush (v := (-4)) dX10_counted_7 rfl ?_
    refine r_icmp_lt 25 dX10_counted_9 (by decide) (fun h9 => absurd h9 (by decide)) (fun h9 => ?_)
    refine r_aload_n dX10_counted_12 rfl ?_
    refine r_getR rfl rfl fl_10_61 dX10_counted_13 ?_
    refine r_bipush (v := (-2)) dX10_counted_16 rfl ?_
    refine r_iload_n dX10_counted_18 rfl ?_
    refine r_isub dX10_counted_19 ?_
    refine r_dup2 dX10_counted_20 rfl rfl ?_
    refine r_iald rfl dX10_counted_21 (vp_in_iff.mpr (by decide)) ?_
    refine r_iconst (v := 1) dX10_counted_22 rfl ?_
    refine r_iadd dX10_counted_23 ?_
    refine r_iast rfl dX10_counted_24 (vp_in_iff.mpr (by decide)) ?_
    refine r_iload_n dX10_counted_25 rfl ?_
    refine r_iret rfl dX10_counted_26 ?_
    exact fd_isI rfl rfl rfl
  by_cases q3 : r = -3
  · subst q3
    refine r_iload_n dX10_counted_0 rfl ?_
    refine r_bipush (v := (-2)) dX10_counted_1 rfl ?_
    refine r_icmp_gt 25 dX10_counted_3 (by decide) (fun h3 => absurd h3 (by decide)) (fun h3 => ?_)
    refine r_iload_n dX10_counted_6 rfl ?_
    refine r_bipush (v := (-4)) dX10_counted_7 rfl ?_
    refine r_icmp_lt 25 dX10_counted_9 (by decide) (fun h9 => absurd h9 (by decide)) (fun h9 => ?_)
    refine r_aload_n dX10_counted_12 rfl ?_
    refine r_getR rfl rfl fl_10_61 dX10_counted_13 ?_
    refine r_bipush (v := (-2)) dX10_counted_16 rfl ?_
    refine r_iload_n dX10_counted_18 rfl ?_
    refine r_isub dX10_counted_19 ?_
    refine r_dup2 dX10_counted_20 rfl rfl ?_
    refine r_iald rfl dX10_counted_21 (vp_in_iff.mpr (by decide)) ?_
    refine r_iconst (v := 1) dX10_counted_22 rfl ?_
    refine r_iadd dX10_counted_23 ?_
    refine r_iast rfl dX10_counted_24 (vp_in_iff.mpr (by decide)) ?_
    refine r_iload_n dX10_counted_25 rfl ?_
    refine r_iret rfl dX10_counted_26 ?_
    exact fd_isI rfl rfl rfl
  by_cases q4 : r = -4
  · subst q4
    refine r_iload_n dX10_counted_0 rfl ?_
    refine r_bipush (v := (-2)) dX10_counted_1 rfl ?_
    refine r_icmp_gt 25 dX10_counted_3 (by decide) (fun h3 => absurd h3 (by decide)) (fun h3 => ?_)
    refine r_iload_n dX10_counted_6 rfl ?_
    refine r_bipush (v := (-4)) dX10_counted_7 rfl ?_
    refine r_icmp_lt 25 dX10_counted_9 (by decide) (fun h9 => absurd h9 (by decide)) (fun h9 => ?_)
    refine r_aload_n dX10_counted_12 rfl ?_
    refine r_getR rfl rfl fl_10_61 dX10_counted_13 ?_
    refine r_bipush (v := (-2)) dX10_counted_16 rfl ?_
    refine r_iload_n dX10_counted_18 rfl ?_
    refine r_isub dX10_counted_19 ?_
    refine r_dup2 dX10_counted_20 rfl rfl ?_
    refine r_iald rfl dX10_counted_21 (vp_in_iff.mpr (by decide)) ?_
    refine r_iconst (v := 1) dX10_counted_22 rfl ?_
    refine r_iadd dX10_counted_23 ?_
    refine r_iast rfl dX10_counted_24 (vp_in_iff.mpr (by decide)) ?_
    refine r_iload_n dX10_counted_25 rfl ?_
    refine r_iret rfl dX10_counted_26 ?_
    exact fd_isI rfl rfl rfl
  rw [cnX_n q2 q3 q4]
  refine r_iload_n dX10_counted_0 rfl ?_
  refine r_bipush (v := (-2)) dX10_counted_1 rfl ?_
  refine r_icmp_gt 25 dX10_counted_3 (by decide) (fun h3 => ?_) (fun h3 => ?_)
  · refine r_iload_n dX10_counted_25 rfl ?_
    refine r_iret rfl dX10_counted_26 ?_
    exact fd_isI rfl rfl rfl
  · refine r_iload_n dX10_counted_6 rfl ?_
    refine r_bipush (v := (-4)) dX10_counted_7 rfl ?_
    refine r_icmp_lt 25 dX10_counted_9 (by decide) (fun h9 => ?_) (fun h9 => absurd h9 (fun q => (i_between h3 q).elim q2 (fun z => z.elim q3 q4)))
    refine r_iload_n dX10_counted_25 rfl ?_
    refine r_iret rfl dX10_counted_26 ?_
    exact fd_isI rfl rfl rfl
theorem c_X10_badAs (α : Nat → Nat) (I : fdI) (L : fdL) (r : Int32) : Con fd_SX α yX10_badAs mX10_badAs [.ref (α 0), .int r] I L (fd_is (some (.int r)) (xBad I) L) := by
  refine Con.of (by decide) rfl (Nat.le_of_ble_eq_true rfl) ?_
  refine r_aload_n dX10_badAs_0 rfl ?_
  refine r_getR rfl rfl fl_10_61 dX10_badAs_1 ?_
  refine r_iconst (v := 0) dX10_badAs_4 rfl ?_
  refine r_dup2 dX10_badAs_5 rfl rfl ?_
  refine r_iald rfl dX10_badAs_6 (vp_in_iff.mpr (by decide)) ?_
  refine r_iconst (v := 1) dX10_badAs_7 rfl ?_
  refine r_iadd dX10_badAs_8 ?_
  refine r_iast rfl dX10_badAs_9 (vp_in_iff.mpr (by decide)) ?_
  refine r_iload_n dX10_badAs_10 rfl ?_
  refine r_iret rfl dX10_badAs_11 ?_
  exact fd_isI rfl rfl rfl
