/-! what a call answers and makes of the life, and which refusal it counts; the class's tellings -/
abbrev oT : Type := Int32 × pS × Nat
def qOf (r : Int32) : Nat := if r = -2 then 0 else if r = -3 then 1 else if r = -4 then 2 else 3
theorem qOf_n {r : Int32} (h : -2 < r.toInt) : qOf r = 3 := by
  unfold qOf
  rw [if_neg (fun q => by subst q; exact absurd h (by decide)), if_neg (fun q => by subst q; exact absurd h (by decide)), if_neg (fun q => by subst q; exact absurd h (by decide))]
def bmp (q : Nat) (R : Nat → Int32) : Nat → Int32 := fun j => if j = q then R j + 1 else R j
/-- the scratch: what a call may leave behind as it likes -/
def xFr (I I' : fdI) : Prop := ∀ a, a < 8 ∨ (18 < a ∧ a < 57) → I' a = I a
def xOut (o : oT) (I : fdI) (L : fdL) (v : Value) (I' : fdI) (L' : fdL) : Prop := v = .int o.1 ∧ L' = L ∧ xSt 8 o.2.1 I' ∧ xFr I I' ∧ ∀ j, j < 3 → I' 76 j = bmp o.2.2 (I 76) j
theorem cnX_ref {r : Int32} {I : fdI} {j : Nat} (hj : j < 3) : cnX r I 76 j = bmp (qOf r) (I 76) j := by
  unfold cnX qOf bmp
  by_cases h2 : r = -2
  · rw [if_pos h2, if_pos h2]
    show fd_up _ _ _ _ _ _ = _
    rw [fd_up_at]
    by_cases q : j = 0
    · rw [if_pos q, if_pos q, q]
    · rw [if_neg q, if_neg q]
  rw [if_neg h2, if_neg h2]
  by_cases h3 : r = -3
  · rw [if_pos h3, if_pos h3]
    show fd_up _ _ _ _ _ _ = _
    rw [fd_up_at]
    by_cases q : j = 1
    · rw [if_pos q, if_pos q, q]
    · rw [if_neg q, if_neg q]
  rw [if_neg h3, if_neg h3]
  by_cases h4 : r = -4
  · rw [if_pos h4, if_pos h4]
    show fd_up _ _ _ _ _ _ = _
    rw [fd_up_at]
    by_cases q : j = 2
    · rw [if_pos q, if_pos q, q]
    · rw [if_neg q, if_neg q]
  rw [if_neg h4, if_neg h4, if_neg (by omega)]
theorem cnX_ne {r : Int32} {I : fdI} {a : Nat} (h : a ≠ 76) : cnX r I a = I a := by
  unfold cnX
  repeat' split
  all_goals first | exact fd_up_cell h | rfl
theorem xOut.cn {s' : pS} {r : Int32} {q : Nat} {I I1 : fdI} {L : fdL} (h : xSt 8 s' I1) (fr : xFr I I1) (hr : I1 76 = I 76) (hq : qOf r = q) : xOut (r, s', q) I L (.int r) (cnX r I1) L := by
  refine ⟨rfl, rfl, h.same (fun a _ h2 => cnX_ne (by omega)), fun a ha => (cnX_ne (by omega)).trans (fr a ha), fun j hj => ?_⟩
  rw [cnX_ref hj, hq, hr]
theorem xOut.bad {s : pS} {r : Int32} {I : fdI} {L : fdL} (h : xSt 8 s I) : xOut (r, s, 0) I L (.int r) (xBad I) L := by
  refine ⟨rfl, rfl, h.same (fun a _ h2 => fd_up_cell (by omega)), fun a ha => fd_up_cell (by omega), fun j hj => ?_⟩
  show fd_up I 76 0 _ 76 j = _
  rw [fd_up_at]
  unfold bmp
  by_cases q : j = 0
  · rw [if_pos q, if_pos q, q]
  · rw [if_neg q, if_neg q]
theorem xOut.none {s' : pS} {r : Int32} {I I1 : fdI} {L : fdL} (h : xSt 8 s' I1) (fr : xFr I I1) (hr : I1 76 = I 76) : xOut (r, s', 3) I L (.int r) I1 L :=
  ⟨rfl, rfl, h, fr, fun j hj => by rw [hr]; exact (if_neg (show ¬ j = 3 by omega)).symm⟩
theorem xFr.rfl' {I : fdI} : xFr I I := fun _ _ => rfl
theorem xFr.up {I I1 : fdI} {k j : Nat} {v : Int32} (h : xFr I I1) (hk : 8 ≤ k ∧ k ≤ 18) : xFr I (fd_up I1 k j v) := fun a ha => (fd_up_cell (by omega)).trans (h a ha)
theorem xSt.kind {s : pS} {I : fdI} (h : xSt 8 s I) {d : Nat} (hd : d < s.2.1) : I 9 d = s.1 1 d ∧ I 10 d = s.1 2 d ∧ I 11 d = s.1 3 d ∧ I 12 d = s.1 4 d ∧ I 13 d = s.1 5 d := by
  obtain ⟨V, n, nn, np, nt, rk, ot, ly⟩ := s
  exact h.2.2.2.2.2.2.2.1 d hd
theorem xSt.n {s : pS} {I : fdI} (h : xSt 8 s I) : I 8 0 = nI s.2.1 := by
  obtain ⟨V, n, nn, np, nt, rk, ot, ly⟩ := s
  exact h.1
theorem stOk.n7 {s : pS} (h : stOk s) : 1 ≤ s.2.1 ∧ s.2.1 ≤ 7 := by
  obtain ⟨V, n, nn, np, nt, rk, ot, ly⟩ := s
  exact h.1
theorem stOk.v {s : pS} (h : stOk s) : okV s.1 s.2.1 s.2.2.1 s.2.2.2.1 s.2.2.2.2.1 := by
  obtain ⟨V, n, nn, np, nt, rk, ot, ly⟩ := s
  exact h.2.2.2.2.2.2.2
theorem dayP_q {r : Int32} {n : Nat} (h : dayP r n) : qOf r = 3 := qOf_n (by have := h.1; omega)
theorem nI_q {j : Nat} (h : j < 2 ^ 31) : qOf (nI j) = 3 := qOf_n (by rw [nI_toInt h]; omega)
def o_day (s : pS) (d k : Int32) : oT := if dayP d s.2.1 ∧ dayP k 6 then (s.1 1 d.toNatClampNeg, opDay s d.toNatClampNeg k, 3) else (-2, s, 0)
theorem c_X10_day (s : pS) (α : Nat → Nat) (I : fdI) (L : fdL) (d k : Int32) (hs : stOk s) (hx : xSt 8 s I) : Con fd_SX α yX10_day mX10_day [.ref (α 0), .int d, .int k] I L (fd_ip (xOut (o_day s d k) I L)) := by
  refine Con.of (by decide) rfl (Nat.le_of_ble_eq_true rfl) ?_
  unfold o_day
  have hn7 := hs.n7
  by_cases hok : dayP d s.2.1 ∧ dayP k 6
  · rw [if_pos hok]
    obtain ⟨j, hj, rfl⟩ := dayP_nI hok.1
    rw [nI_clamp (by omega)]
    refine r_aload_n dX10_day_0 rfl ?_
    refine r_aload_n dX10_day_1 rfl ?_
    refine r_getR rfl rfl fl_10_18 dX10_day_2 ?_
    refine r_iload_n dX10_day_5 rfl ?_
    refine r_iload_n dX10_day_6 rfl ?_
    refine r_cVr (As := [_, _]) (c_X5_tellKind α _ _ _ _ hx.n hn7) lk_10_94 rfl rfl (by decide) (by decide) rfl rfl (Nat.le_of_ble_eq_true rfl) dX10_day_7 ?_
    rw [if_pos hok, if_pos hok, nI_clamp (by omega), (hx.kind hj).1]
    refine r_cVr (As := [_]) (c_X10_counted α _ _ _) lk_10_91 rfl rfl (by decide) (by decide) rfl rfl (Nat.le_of_ble_eq_true rfl) dX10_day_10 ?_
    refine r_iret rfl dX10_day_13 ?_
    exact ⟨_, rfl, xOut.cn hx.day ((xFr.rfl'.up (by decide)).up (by decide)) rfl (dayP_q (hs.v.1 j hj).1)⟩
  · rw [if_neg hok]
    refine r_aload_n dX10_day_0 rfl ?_
    refine r_aload_n dX10_day_1 rfl ?_
    refine r_getR rfl rfl fl_10_18 dX10_day_2 ?_
    refine r_iload_n dX10_day_5 rfl ?_
    refine r_iload_n dX10_day_6 rfl ?_
    refine r_cVr (As := [_, _]) (c_X5_tellKind α _ _ _ _ hx.n hn7) lk_10_94 rfl rfl (by decide) (by decide) rfl rfl (Nat.le_of_ble_eq_true rfl) dX10_day_7 ?_
    rw [if_neg hok, if_neg hok]
    refine r_cVr (As := [_]) (c_X10_counted α _ _ _) lk_10_91 rfl rfl (by decide) (by decide) rfl rfl (Nat.le_of_ble_eq_true rfl) dX10_day_10 ?_
    refine r_iret rfl dX10_day_13 ?_
    exact ⟨_, rfl, xOut.cn hx xFr.rfl' rfl rfl⟩
