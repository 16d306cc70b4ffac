/-! the model: what an image holds -/
theorem kp_s0 (I : fdI) (i : Nat) : kpI I i 23 (72 * i) = I 0 1 := by
  unfold kpI kpS
  rw [lyI_ne (by decide)]; rw [lyI_out (by omega)]; rw [lyI_out (by omega)]; rw [lyI_out (by omega)]; rw [lyI_out (by omega)]; rw [lyI_out (by omega)]; rw [lyI_out (by omega)]; rw [lyI_out (by omega)]; rw [lyI_out (by omega)]; rw [lyI_out (by omega)]; rw [lyI_out (by omega)]; rw [fd_up_pl (by omega)]; rw [fd_up_pl (by omega)]; rw [fd_up_pl (by omega)]; rw [fd_up_pl (by omega)]; rw [fd_up_pl (by omega)]; rw [fd_up_same]
theorem kp_s1 (I : fdI) (i : Nat) : kpI I i 23 (72 * i + 1) = I 0 7 := by
  unfold kpI kpS
  rw [lyI_ne (by decide)]; rw [lyI_out (by omega)]; rw [lyI_out (by omega)]; rw [lyI_out (by omega)]; rw [lyI_out (by omega)]; rw [lyI_out (by omega)]; rw [lyI_out (by omega)]; rw [lyI_out (by omega)]; rw [lyI_out (by omega)]; rw [lyI_out (by omega)]; rw [lyI_out (by omega)]; rw [fd_up_pl (by omega)]; rw [fd_up_pl (by omega)]; rw [fd_up_pl (by omega)]; rw [fd_up_pl (by omega)]; rw [fd_up_same]
theorem kp_s2 (I : fdI) (i : Nat) : kpI I i 23 (72 * i + 2) = I 0 10 := by
  unfold kpI kpS
  rw [lyI_ne (by decide)]; rw [lyI_out (by omega)]; rw [lyI_out (by omega)]; rw [lyI_out (by omega)]; rw [lyI_out (by omega)]; rw [lyI_out (by omega)]; rw [lyI_out (by omega)]; rw [lyI_out (by omega)]; rw [lyI_out (by omega)]; rw [lyI_out (by omega)]; rw [lyI_out (by omega)]; rw [fd_up_pl (by omega)]; rw [fd_up_pl (by omega)]; rw [fd_up_pl (by omega)]; rw [fd_up_same]
theorem kp_s3 (I : fdI) (i : Nat) : kpI I i 23 (72 * i + 3) = I 0 13 := by
  unfold kpI kpS
  rw [lyI_ne (by decide)]; rw [lyI_out (by omega)]; rw [lyI_out (by omega)]; rw [lyI_out (by omega)]; rw [lyI_out (by omega)]; rw [lyI_out (by omega)]; rw [lyI_out (by omega)]; rw [lyI_out (by omega)]; rw [lyI_out (by omega)]; rw [lyI_out (by omega)]; rw [lyI_out (by omega)]; rw [fd_up_pl (by omega)]; rw [fd_up_pl (by omega)]; rw [fd_up_same]
theorem kp_s4 (I : fdI) (i : Nat) : kpI I i 23 (72 * i + 4) = I 0 16 := by
  unfold kpI kpS
  rw [lyI_ne (by decide)]; rw [lyI_out (by omega)]; rw [lyI_out (by omega)]; rw [lyI_out (by omega)]; rw [lyI_out (by omega)]; rw [lyI_out (by omega)]; rw [lyI_out (by omega)]; rw [lyI_out (by omega)]; rw [lyI_out (by omega)]; rw [lyI_out (by omega)]; rw [lyI_out (by omega)]; rw [fd_up_pl (by omega)]; rw [fd_up_same]
theorem kp_s5 (I : fdI) (i : Nat) : kpI I i 23 (72 * i + 5) = I 0 17 := by
  unfold kpI kpS
  rw [lyI_ne (by decide)]; rw [lyI_out (by omega)]; rw [lyI_out (by omega)]; rw [lyI_out (by omega)]; rw [lyI_out (by omega)]; rw [lyI_out (by omega)]; rw [lyI_out (by omega)]; rw [lyI_out (by omega)]; rw [lyI_out (by omega)]; rw [lyI_out (by omega)]; rw [lyI_out (by omega)]; rw [fd_up_same]
theorem kp_kinds (I : fdI) (i x : Nat) (h : x < 7) : kpI I i 23 (72 * i + 6 + x) = I 2 x := by
  unfold kpI kpS
  rw [lyI_ne (by decide)]; rw [lyI_out (by omega)]; rw [lyI_out (by omega)]; rw [lyI_out (by omega)]; rw [lyI_out (by omega)]; rw [lyI_out (by omega)]; rw [lyI_out (by omega)]; rw [lyI_out (by omega)]; rw [lyI_out (by omega)]; rw [lyI_out (by omega)]; rw [lyI_in h]; rw [fd_up_ne (by decide)]; rw [fd_up_ne (by decide)]; rw [fd_up_ne (by decide)]; rw [fd_up_ne (by decide)]; rw [fd_up_ne (by decide)]; rw [fd_up_ne (by decide)]; skip
theorem kp_needs (I : fdI) (i x : Nat) (h : x < 7) : kpI I i 23 (72 * i + 13 + x) = I 3 x := by
  unfold kpI kpS
  rw [lyI_ne (by decide)]; rw [lyI_out (by omega)]; rw [lyI_out (by omega)]; rw [lyI_out (by omega)]; rw [lyI_out (by omega)]; rw [lyI_out (by omega)]; rw [lyI_out (by omega)]; rw [lyI_out (by omega)]; rw [lyI_out (by omega)]; rw [lyI_in h]; rw [lyI_ne (by decide)]; rw [fd_up_ne (by decide)]; rw [fd_up_ne (by decide)]; rw [fd_up_ne (by decide)]; rw [fd_up_ne (by decide)]; rw [fd_up_ne (by decide)]; rw [fd_up_ne (by decide)]; skip
theorem kp_teaches (I : fdI) (i x : Nat) (h : x < 7) : kpI I i 23 (72 * i + 20 + x) = I 4 x := by
  unfold kpI kpS
  rw [lyI_ne (by decide)]; rw [lyI_out (by omega)]; rw [lyI_out (by omega)]; rw [lyI_out (by omega)]; rw [lyI_out (by omega)]; rw [lyI_out (by omega)]; rw [lyI_out (by omega)]; rw [lyI_out (by omega)]; rw [lyI_in h]; rw [lyI_ne (by decide)]; rw [lyI_ne (by decide)]; rw [fd_up_ne (by decide)]; rw [fd_up_ne (by decide)]; rw [fd_up_ne (by decide)]; rw [fd_up_ne (by decide)]; rw [fd_up_ne (by decide)]; rw [fd_up_ne (by decide)]; skip
theorem kp_ats (I : fdI) (i x : Nat) (h : x < 7) : kpI I i 23 (72 * i + 27 + x) = I 5 x := by
  unfold kpI kpS
  rw [lyI_ne (by decide)]; rw [lyI_out (by omega)]; rw [lyI_out (by omega)]; rw [lyI_out (by omega)]; rw [lyI_out (by omega)]; rw [lyI_out (by omega)]; rw [lyI_out (by omega)]; rw [lyI_in h]; rw [lyI_ne (by decide)]; rw [lyI_ne (by decide)]; rw [lyI_ne (by decide)]; rw [fd_up_ne (by decide)]; rw [fd_up_ne (by decide)]; rw [fd_up_ne (by decide)]; rw [fd_up_ne (by decide)]; rw [fd_up_ne (by decide)]; rw [fd_up_ne (by decide)]; skip
theorem kp_row (I : fdI) (i x : Nat) (h : x < 7) : kpI I i 23 (72 * i + 34 + x) = I 6 x := by
  unfold kpI kpS
  rw [lyI_ne (by decide)]; rw [lyI_out (by omega)]; rw [lyI_out (by omega)]; rw [lyI_out (by omega)]; rw [lyI_out (by omega)]; rw [lyI_out (by omega)]; rw [lyI_in h]; rw [lyI_ne (by decide)]; rw [lyI_ne (by decide)]; rw [lyI_ne (by decide)]; rw [lyI_ne (by decide)]; rw [fd_up_ne (by decide)]; rw [fd_up_ne (by decide)]; rw [fd_up_ne (by decide)]; rw [fd_up_ne (by decide)]; rw [fd_up_ne (by decide)]; rw [fd_up_ne (by decide)]; skip
theorem kp_diary (I : fdI) (i x : Nat) (h : x < 7) : kpI I i 23 (72 * i + 41 + x) = I 12 x := by
  unfold kpI kpS
  rw [lyI_ne (by decide)]; rw [lyI_out (by omega)]; rw [lyI_out (by omega)]; rw [lyI_out (by omega)]; rw [lyI_out (by omega)]; rw [lyI_in h]; rw [lyI_ne (by decide)]; rw [lyI_ne (by decide)]; rw [lyI_ne (by decide)]; rw [lyI_ne (by decide)]; rw [lyI_ne (by decide)]; rw [fd_up_ne (by decide)]; rw [fd_up_ne (by decide)]; rw [fd_up_ne (by decide)]; rw [fd_up_ne (by decide)]; rw [fd_up_ne (by decide)]; rw [fd_up_ne (by decide)]; skip
theorem kp_noteDays (I : fdI) (i x : Nat) (h : x < 6) : kpI I i 23 (72 * i + 48 + x) = I 7 x := by
  unfold kpI kpS
  rw [lyI_ne (by decide)]; rw [lyI_out (by omega)]; rw [lyI_out (by omega)]; rw [lyI_out (by omega)]; rw [lyI_in h]; rw [lyI_ne (by decide)]; rw [lyI_ne (by decide)]; rw [lyI_ne (by decide)]; rw [lyI_ne (by decide)]; rw [lyI_ne (by decide)]; rw [lyI_ne (by decide)]; rw [fd_up_ne (by decide)]; rw [fd_up_ne (by decide)]; rw [fd_up_ne (by decide)]; rw [fd_up_ne (by decide)]; rw [fd_up_ne (by decide)]; rw [fd_up_ne (by decide)]; skip
theorem kp_noteFacts (I : fdI) (i x : Nat) (h : x < 6) : kpI I i 23 (72 * i + 54 + x) = I 8 x := by
  unfold kpI kpS
  rw [lyI_ne (by decide)]; rw [lyI_out (by omega)]; rw [lyI_out (by omega)]; rw [lyI_in h]; rw [lyI_ne (by decide)]; rw [lyI_ne (by decide)]; rw [lyI_ne (by decide)]; rw [lyI_ne (by decide)]; rw [lyI_ne (by decide)]; rw [lyI_ne (by decide)]; rw [lyI_ne (by decide)]; rw [fd_up_ne (by decide)]; rw [fd_up_ne (by decide)]; rw [fd_up_ne (by decide)]; rw [fd_up_ne (by decide)]; rw [fd_up_ne (by decide)]; rw [fd_up_ne (by decide)]; skip
theorem kp_firsts (I : fdI) (i x : Nat) (h : x < 6) : kpI I i 23 (72 * i + 60 + x) = I 9 x := by
  unfold kpI kpS
  rw [lyI_ne (by decide)]; rw [lyI_out (by omega)]; rw [lyI_in h]; rw [lyI_ne (by decide)]; rw [lyI_ne (by decide)]; rw [lyI_ne (by decide)]; rw [lyI_ne (by decide)]; rw [lyI_ne (by decide)]; rw [lyI_ne (by decide)]; rw [lyI_ne (by decide)]; rw [lyI_ne (by decide)]; rw [fd_up_ne (by decide)]; rw [fd_up_ne (by decide)]; rw [fd_up_ne (by decide)]; rw [fd_up_ne (by decide)]; rw [fd_up_ne (by decide)]; rw [fd_up_ne (by decide)]; skip
theorem kp_seconds (I : fdI) (i x : Nat) (h : x < 6) : kpI I i 23 (72 * i + 66 + x) = I 10 x := by
  unfold kpI kpS
  rw [lyI_ne (by decide)]; rw [lyI_in h]; rw [lyI_ne (by decide)]; rw [lyI_ne (by decide)]; rw [lyI_ne (by decide)]; rw [lyI_ne (by decide)]; rw [lyI_ne (by decide)]; rw [lyI_ne (by decide)]; rw [lyI_ne (by decide)]; rw [lyI_ne (by decide)]; rw [lyI_ne (by decide)]; rw [fd_up_ne (by decide)]; rw [fd_up_ne (by decide)]; rw [fd_up_ne (by decide)]; rw [fd_up_ne (by decide)]; rw [fd_up_ne (by decide)]; rw [fd_up_ne (by decide)]; skip
theorem kp_told (I : fdI) (i x : Nat) (h : x < 3) : kpI I i 24 (3 * i + x) = I 11 x := by
  unfold kpI kpS
  rw [lyI_in h]; rw [lyI_ne (by decide)]; rw [lyI_ne (by decide)]; rw [lyI_ne (by decide)]; rw [lyI_ne (by decide)]; rw [lyI_ne (by decide)]; rw [lyI_ne (by decide)]; rw [lyI_ne (by decide)]; rw [lyI_ne (by decide)]; rw [lyI_ne (by decide)]; rw [lyI_ne (by decide)]; rw [fd_up_ne (by decide)]; rw [fd_up_ne (by decide)]; rw [fd_up_ne (by decide)]; rw [fd_up_ne (by decide)]; rw [fd_up_ne (by decide)]; rw [fd_up_ne (by decide)]; skip
theorem kp_n (I : fdI) (i a : Nat) (h : a ≠ 23) (h2 : a ≠ 24) : kpI I i a = I a := by
  unfold kpI kpS
  simp only [lyI_ne h, lyI_ne h2, fd_up_cell h]
theorem kp_o (I : fdI) (i x : Nat) (h : x < 72 * i ∨ 72 * i + 72 ≤ x) : kpI I i 23 x = I 23 x := by
  unfold kpI kpS
  rw [lyI_ne (by decide)]; rw [lyI_out (by omega)]; rw [lyI_out (by omega)]; rw [lyI_out (by omega)]; rw [lyI_out (by omega)]; rw [lyI_out (by omega)]; rw [lyI_out (by omega)]; rw [lyI_out (by omega)]; rw [lyI_out (by omega)]; rw [lyI_out (by omega)]; rw [lyI_out (by omega)]; rw [fd_up_pl (by omega)]; rw [fd_up_pl (by omega)]; rw [fd_up_pl (by omega)]; rw [fd_up_pl (by omega)]; rw [fd_up_pl (by omega)]; rw [fd_up_pl (by omega)]; skip
theorem kp_p (I : fdI) (i x : Nat) (h : x < 3 * i ∨ 3 * i + 3 ≤ x) : kpI I i 24 x = I 24 x := by
  unfold kpI kpS
  rw [lyI_out (by omega)]; rw [lyI_ne (by decide)]; rw [lyI_ne (by decide)]; rw [lyI_ne (by decide)]; rw [lyI_ne (by decide)]; rw [lyI_ne (by decide)]; rw [lyI_ne (by decide)]; rw [lyI_ne (by decide)]; rw [lyI_ne (by decide)]; rw [lyI_ne (by decide)]; rw [lyI_ne (by decide)]; rw [fd_up_ne (by decide)]; rw [fd_up_ne (by decide)]; rw [fd_up_ne (by decide)]; rw [fd_up_ne (by decide)]; rw [fd_up_ne (by decide)]; rw [fd_up_ne (by decide)]; skip
theorem go_s0 (I : fdI) (i : Nat) : goI I i 0 1 = I 23 (72 * i) := by
  unfold goI goS
  rw [gvI_ne (by decide)]; rw [gvI_ne (by decide)]; rw [gvI_ne (by decide)]; rw [gvI_ne (by decide)]; rw [gvI_ne (by decide)]; rw [gvI_ne (by decide)]; rw [gvI_ne (by decide)]; rw [gvI_ne (by decide)]; rw [gvI_ne (by decide)]; rw [gvI_ne (by decide)]; rw [gvI_ne (by decide)]; rw [fd_up_pl (by decide)]; rw [fd_up_pl (by decide)]; rw [fd_up_pl (by decide)]; rw [fd_up_pl (by decide)]; rw [fd_up_pl (by decide)]; rw [fd_up_same]
theorem go_s1 (I : fdI) (i : Nat) : goI I i 0 7 = I 23 (72 * i + 1) := by
  unfold goI goS
  rw [gvI_ne (by decide)]; rw [gvI_ne (by decide)]; rw [gvI_ne (by decide)]; rw [gvI_ne (by decide)]; rw [gvI_ne (by decide)]; rw [gvI_ne (by decide)]; rw [gvI_ne (by decide)]; rw [gvI_ne (by decide)]; rw [gvI_ne (by decide)]; rw [gvI_ne (by decide)]; rw [gvI_ne (by decide)]; rw [fd_up_pl (by decide)]; rw [fd_up_pl (by decide)]; rw [fd_up_pl (by decide)]; rw [fd_up_pl (by decide)]; rw [fd_up_same]
theorem go_s2 (I : fdI) (i : Nat) : goI I i 0 10 = I 23 (72 * i + 2) := by
  unfold goI goS
  rw [gvI_ne (by decide)]; rw [gvI_ne (by decide)]; rw [gvI_ne (by decide)]; rw [gvI_ne (by decide)]; rw [gvI_ne (by decide)]; rw [gvI_ne (by decide)]; rw [gvI_ne (by decide)]; rw [gvI_ne (by decide)]; rw [gvI_ne (by decide)]; rw [gvI_ne (by decide)]; rw [gvI_ne (by decide)]; rw [fd_up_pl (by decide)]; rw [fd_up_pl (by decide)]; rw [fd_up_pl (by decide)]; rw [fd_up_same]
theorem go_s3 (I : fdI) (i : Nat) : goI I i 0 13 = I 23 (72 * i + 3) := by
  unfold goI goS
  rw [gvI_ne (by decide)]; rw [gvI_ne (by decide)]; rw [gvI_ne (by decide)]; rw [gvI_ne (by decide)]; rw [gvI_ne (by decide)]; rw [gvI_ne (by decide)]; rw [gvI_ne (by decide)]; rw [gvI_ne (by decide)]; rw [gvI_ne (by decide)]; rw [gvI_ne (by decide)]; rw [gvI_ne (by decide)]; rw [fd_up_pl (by decide)]; rw [fd_up_pl (by decide)]; rw [fd_up_same]
theorem go_s4 (I : fdI) (i : Nat) : goI I i 0 16 = I 23 (72 * i + 4) := by
  unfold goI goS
  rw [gvI_ne (by decide)]; rw [gvI_ne (by decide)]; rw [gvI_ne (by decide)]; rw [gvI_ne (by decide)]; rw [gvI_ne (by decide)]; rw [gvI_ne (by decide)]; rw [gvI_ne (by decide)]; rw [gvI_ne (by decide)]; rw [gvI_ne (by decide)]; rw [gvI_ne (by decide)]; rw [gvI_ne (by decide)]; rw [fd_up_pl (by decide)]; rw [fd_up_same]
theorem go_s5 (I : fdI) (i : Nat) : goI I i 0 17 = I 23 (72 * i + 5) := by
  unfold goI goS
  rw [gvI_ne (by decide)]; rw [gvI_ne (by decide)]; rw [gvI_ne (by decide)]; rw [gvI_ne (by decide)]; rw [gvI_ne (by decide)]; rw [gvI_ne (by decide)]; rw [gvI_ne (by decide)]; rw [gvI_ne (by decide)]; rw [gvI_ne (by decide)]; rw [gvI_ne (by decide)]; rw [gvI_ne (by decide)]; rw [fd_up_same]
theorem go_kinds (I : fdI) (i x : Nat) (h : x < 7) : goI I i 2 x = I 23 (72 * i + 6 + x) := by
  unfold goI goS
  rw [gvI_ne (by decide)]; rw [gvI_ne (by decide)]; rw [gvI_ne (by decide)]; rw [gvI_ne (by decide)]; rw [gvI_ne (by decide)]; rw [gvI_ne (by decide)]; rw [gvI_ne (by decide)]; rw [gvI_ne (by decide)]; rw [gvI_ne (by decide)]; rw [gvI_ne (by decide)]; rw [gvI_in h]; rw [fd_up_ne (by decide)]; rw [fd_up_ne (by decide)]; rw [fd_up_ne (by decide)]; rw [fd_up_ne (by decide)]; rw [fd_up_ne (by decide)]; rw [fd_up_ne (by decide)]; skip
theorem go_needs (I : fdI) (i x : Nat) (h : x < 7) : goI I i 3 x = I 23 (72 * i + 13 + x) := by
  unfold goI goS
  rw [gvI_ne (by decide)]; rw [gvI_ne (by decide)]; rw [gvI_ne (by decide)]; rw [gvI_ne (by decide)]; rw [gvI_ne (by decide)]; rw [gvI_ne (by decide)]; rw [gvI_ne (by decide)]; rw [gvI_ne (by decide)]; rw [gvI_ne (by decide)]; rw [gvI_in h]; rw [gvI_ne (by decide)]; rw [fd_up_ne (by decide)]; rw [fd_up_ne (by decide)]; rw [fd_up_ne (by decide)]; rw [fd_up_ne (by decide)]; rw [fd_up_ne (by decide)]; rw [fd_up_ne (by decide)]; skip
theorem go_teaches (I : fdI) (i x : Nat) (h : x < 7) : goI I i 4 x = I 23 (72 * i + 20 + x) := by
  unfold goI goS
  rw [gvI_ne (by decide)]; rw [gvI_ne (by decide)]; rw [gvI_ne (by decide)]; rw [gvI_ne (by decide)]; rw [gvI_ne (by decide)]; rw [gvI_ne (by decide)]; rw [gvI_ne (by decide)]; rw [gvI_ne (by decide)]; rw [gvI_in h]; rw [gvI_ne (by decide)]; rw [gvI_ne (by decide)]; rw [fd_up_ne (by decide)]; rw [fd_up_ne (by decide)]; rw [fd_up_ne (by decide)]; rw [fd_up_ne (by decide)]; rw [fd_up_ne (by decide)]; rw [fd_up_ne (by decide)]; skip
theorem go_ats (I : fdI) (i x : Nat) (h : x < 7) : goI I i 5 x = I 23 (72 * i + 27 + x) := by
  unfold goI goS
  rw [gvI_ne (by decide)]; rw [gvI_ne (by decide)]; rw [gvI_ne (by decide)]; rw [gvI_ne (by decide)]; rw [gvI_ne (by decide)]; rw [gvI_ne (by decide)]; rw [gvI_ne (by decide)]; rw [gvI_in h]; rw [gvI_ne (by decide)]; rw [gvI_ne (by decide)]; rw [gvI_ne (by decide)]; rw [fd_up_ne (by decide)]; rw [fd_up_ne (by decide)]; rw [fd_up_ne (by decide)]; rw [fd_up_ne (by decide)]; rw [fd_up_ne (by decide)]; rw [fd_up_ne (by decide)]; skip
theorem go_row (I : fdI) (i x : Nat) (h : x < 7) : goI I i 6 x = I 23 (72 * i + 34 + x) := by
  unfold goI goS
  rw [gvI_ne (by decide)]; rw [gvI_ne (by decide)]; rw [gvI_ne (by decide)]; rw [gvI_ne (by decide)]; rw [gvI_ne (by decide)]; rw [gvI_ne (by decide)]; rw [gvI_in h]; rw [gvI_ne (by decide)]; rw [gvI_ne (by decide)]; rw [gvI_ne (by decide)]; rw [gvI_ne (by decide)]; rw [fd_up_ne (by decide)]; rw [fd_up_ne (by decide)]; rw [fd_up_ne (by decide)]; rw [fd_up_ne (by decide)]; rw [fd_up_ne (by decide)]; rw [fd_up_ne (by decide)]; skip
theorem go_diary (I : fdI) (i x : Nat) (h : x < 7) : goI I i 12 x = I 23 (72 * i + 41 + x) := by
  unfold goI goS
  rw [gvI_ne (by decide)]; rw [gvI_ne (by decide)]; rw [gvI_ne (by decide)]; rw [gvI_ne (by decide)]; rw [gvI_ne (by decide)]; rw [gvI_in h]; rw [gvI_ne (by decide)]; rw [gvI_ne (by decide)]; rw [gvI_ne (by decide)]; rw [gvI_ne (by decide)]; rw [gvI_ne (by decide)]; rw [fd_up_ne (by decide)]; rw [fd_up_ne (by decide)]; rw [fd_up_ne (by decide)]; rw [fd_up_ne (by decide)]; rw [fd_up_ne (by decide)]; rw [fd_up_ne (by decide)]; skip
theorem go_noteDays (I : fdI) (i x : Nat) (h : x < 6) : goI I i 7 x = I 23 (72 * i + 48 + x) := by
  unfold goI goS
  rw [gvI_ne (by decide)]; rw [gvI_ne (by decide)]; rw [gvI_ne (by decide)]; rw [gvI_ne (by decide)]; rw [gvI_in h]; rw [gvI_ne (by decide)]; rw [gvI_ne (by decide)]; rw [gvI_ne (by decide)]; rw [gvI_ne (by decide)]; rw [gvI_ne (by decide)]; rw [gvI_ne (by decide)]; rw [fd_up_ne (by decide)]; rw [fd_up_ne (by decide)]; rw [fd_up_ne (by decide)]; rw [fd_up_ne (by decide)]; rw [fd_up_ne (by decide)]; rw [fd_up_ne (by decide)]; skip
theorem go_noteFacts (I : fdI) (i x : Nat) (h : x < 6) : goI I i 8 x = I 23 (72 * i + 54 + x) := by
  unfold goI goS
  rw [gvI_ne (by decide)]; rw [gvI_ne (by decide)]; rw [gvI_ne (by decide)]; rw [gvI_in h]; rw [gvI_ne (by decide)]; rw [gvI_ne (by decide)]; rw [gvI_ne (by decide)]; rw [gvI_ne (by decide)]; rw [gvI_ne (by decide)]; rw [gvI_ne (by decide)]; rw [gvI_ne (by decide)]; rw [fd_up_ne (by decide)]; rw [fd_up_ne (by decide)]; rw [fd_up_ne (by decide)]; rw [fd_up_ne (by decide)]; rw [fd_up_ne (by decide)]; rw [fd_up_ne (by decide)]; skip
theorem go_firsts (I : fdI) (i x : Nat) (h : x < 6) : goI I i 9 x = I 23 (72 * i + 60 + x) := by
  unfold goI goS
  rw [gvI_ne (by decide)]; rw [gvI_ne (by decide)]; rw [gvI_in h]; rw [gvI_ne (by decide)]; rw [gvI_ne (by decide)]; rw [gvI_ne (by decide)]; rw [gvI_ne (by decide)]; rw [gvI_ne (by decide)]; rw [gvI_ne (by decide)]; rw [gvI_ne (by decide)]; rw [gvI_ne (by decide)]; rw [fd_up_ne (by decide)]; rw [fd_up_ne (by decide)]; rw [fd_up_ne (by decide)]; rw [fd_up_ne (by decide)]; rw [fd_up_ne (by decide)]; rw [fd_up_ne (by decide)]; skip
theorem go_seconds (I : fdI) (i x : Nat) (h : x < 6) : goI I i 10 x = I 23 (72 * i + 66 + x) := by
  unfold goI goS
  rw [gvI_ne (by decide)]; rw [gvI_in h]; rw [gvI_ne (by decide)]; rw [gvI_ne (by decide)]; rw [gvI_ne (by decide)]; rw [gvI_ne (by decide)]; rw [gvI_ne (by decide)]; rw [gvI_ne (by decide)]; rw [gvI_ne (by decide)]; rw [gvI_ne (by decide)]; rw [gvI_ne (by decide)]; rw [fd_up_ne (by decide)]; rw [fd_up_ne (by decide)]; rw [fd_up_ne (by decide)]; rw [fd_up_ne (by decide)]; rw [fd_up_ne (by decide)]; rw [fd_up_ne (by decide)]; skip
theorem go_told (I : fdI) (i x : Nat) (h : x < 3) : goI I i 11 x = I 24 (3 * i + x) := by
  unfold goI goS
  rw [gvI_in h]; rw [gvI_ne (by decide)]; rw [gvI_ne (by decide)]; rw [gvI_ne (by decide)]; rw [gvI_ne (by decide)]; rw [gvI_ne (by decide)]; rw [gvI_ne (by decide)]; rw [gvI_ne (by decide)]; rw [gvI_ne (by decide)]; rw [gvI_ne (by decide)]; rw [gvI_ne (by decide)]; rw [fd_up_ne (by decide)]; rw [fd_up_ne (by decide)]; rw [fd_up_ne (by decide)]; rw [fd_up_ne (by decide)]; rw [fd_up_ne (by decide)]; rw [fd_up_ne (by decide)]; skip
theorem go_n (I : fdI) (i a : Nat) (h0 : a ≠ 0) (h2 : a ≠ 2) (h3 : a ≠ 3) (h4 : a ≠ 4) (h5 : a ≠ 5) (h6 : a ≠ 6) (h12 : a ≠ 12) (h7 : a ≠ 7) (h8 : a ≠ 8) (h9 : a ≠ 9) (h10 : a ≠ 10) (h11 : a ≠ 11) : goI I i a = I a := by
  unfold goI goS
  simp only [gvI_ne h2, gvI_ne h3, gvI_ne h4, gvI_ne h5, gvI_ne h6, gvI_ne h12, gvI_ne h7, gvI_ne h8, gvI_ne h9, gvI_ne h10, gvI_ne h11, fd_up_cell h0]
theorem go_z (I : fdI) (i j : Nat) (h1 : j ≠ 1) (h7 : j ≠ 7) (h10 : j ≠ 10) (h13 : j ≠ 13) (h16 : j ≠ 16) (h17 : j ≠ 17) : goI I i 0 j = I 0 j := by
  unfold goI goS
  rw [gvI_ne (by decide)]; rw [gvI_ne (by decide)]; rw [gvI_ne (by decide)]; rw [gvI_ne (by decide)]; rw [gvI_ne (by decide)]; rw [gvI_ne (by decide)]; rw [gvI_ne (by decide)]; rw [gvI_ne (by decide)]; rw [gvI_ne (by decide)]; rw [gvI_ne (by decide)]; rw [gvI_ne (by decide)]; rw [fd_up_pl h17]; rw [fd_up_pl h16]; rw [fd_up_pl h13]; rw [fd_up_pl h10]; rw [fd_up_pl h7]; rw [fd_up_pl h1]; skip
theorem c_X11_image (α : Nat → Nat) (I : fdI) (L : fdL) (i : Int32) : Con fd_SM α yX11_image mX11_image [.ref (α 0), .int i] I L (fd_is (some (.int (if dayP i 2 then 1 else -2))) (if dayP i 2 then kpI I i.toNatClampNeg else mBad I) L) := by
  refine Con.of (by decide) rfl (Nat.le_of_ble_eq_true rfl) ?_
  by_cases hok : dayP i 2
  · rw [if_pos hok, if_pos hok]
    obtain ⟨j, hj, rfl⟩ := dayP_nI hok
    rw [nI_clamp (by omega)]
    refine r_iload_n dX11_image_0 rfl ?_
    refine r_i2l dX11_image_1 rfl ?_
    refine r_lconst (v := 0) dX11_image_2 rfl ?_
    refine r_lconst (v := 1) dX11_image_3 rfl ?_
    refine r_cSr (As := [_, _, _]) (c_in1 α _ _ _) lk_11_97 (by decide) (by decide) rfl rfl (Nat.le_of_ble_eq_true rfl) dX11_image_4 ?_
    refine r_if_ne 17 dX11_image_7 (by decide) (fun h7 => ?_) (fun h7 => absurd h7 (fd_bn.mpr hok))
    refine r_aload_n dX11_image_17 rfl ?_
    refine r_iload_n dX11_image_18 rfl ?_
    refine r_cVn (As := [_]) (c_keeps α _ _ j (by omega)) lk_11_291 rfl rfl (by decide) (by decide) rfl rfl (Nat.le_of_ble_eq_true rfl) dX11_image_19 ?_
    refine r_iconst (v := 1) dX11_image_22 rfl ?_
    refine r_iret rfl dX11_image_23 ?_
    exact fd_isI rfl rfl rfl
  · rw [if_neg hok, if_neg hok]
    refine r_iload_n dX11_image_0 rfl ?_
    refine r_i2l dX11_image_1 rfl ?_
    refine r_lconst (v := 0) dX11_image_2 rfl ?_
    refine r_lconst (v := 1) dX11_image_3 rfl ?_
    refine r_cSr (As := [_, _, _]) (c_in1 α _ _ _) lk_11_97 (by decide) (by decide) rfl rfl (Nat.le_of_ble_eq_true rfl) dX11_image_4 ?_
    refine r_if_ne 17 dX11_image_7 (by decide) (fun h7 => absurd h7 (not_not_intro (fd_b0.mpr hok))) (fun h7 => ?_)
    refine r_aload_n dX11_image_10 rfl ?_
    refine r_bipush (v := (-2)) dX11_image_11 rfl ?_
    refine r_cVr (As := [_]) (c_X11_bad α _ _ _) lk_11_120 rfl rfl (by decide) (by decide) rfl rfl (Nat.le_of_ble_eq_true rfl) dX11_image_13 ?_
    refine r_iret rfl dX11_image_16 ?_
    exact fd_isI rfl rfl rfl
theorem c_X11_from (α : Nat → Nat) (I : fdI) (L : fdL) (i : Int32) : Con fd_SM α yX11_from mX11_from [.ref (α 0), .int i] I L (fd_is (some (.int (if dayP i 2 then (if I 23 (72 * i.toNatClampNeg) = 0 then -3 else 1) else -2))) (if dayP i 2 then (if I 23 (72 * i.toNatClampNeg) = 0 then mNo I else goI I i.toNatClampNeg) else mBad I) L) := by
  refine Con.of (by decide) rfl (Nat.le_of_ble_eq_true rfl) ?_
  by_cases hok : dayP i 2
  · rw [if_pos hok, if_pos hok]
    obtain ⟨j, hj, rfl⟩ := dayP_nI hok
    rw [nI_clamp (by omega)]
    have e72 : (72 : Int32) * nI j = nI (72 * j) := pk_mul 72 j
    by_cases hz : I 23 (72 * j) = 0
    · rw [if_pos hz, if_pos hz]
      refine r_iload_n dX11_from_0 rfl ?_
      refine r_i2l dX11_from_1 rfl ?_
      refine r_lconst (v := 0) dX11_from_2 rfl ?_
      refine r_lconst (v := 1) dX11_from_3 rfl ?_
      refine r_cSr (As := [_, _, _]) (c_in1 α _ _ _) lk_11_97 (by decide) (by decide) rfl rfl (Nat.le_of_ble_eq_true rfl) dX11_from_4 ?_
      refine r_if_ne 17 dX11_from_7 (by decide) (fun h7 => ?_) (fun h7 => absurd h7 (fd_bn.mpr hok))
      refine r_aload_n dX11_from_17 rfl ?_
      refine r_getR rfl rfl fl_11_76 dX11_from_18 ?_
      refine r_bipush (v := 72) dX11_from_21 rfl ?_
      refine r_iload_n dX11_from_23 rfl ?_
      refine r_imul dX11_from_24 ?_
      rw [e72]
      refine r_ialdN rfl dX11_from_25 (by omega) (by omega) rfl ?_
      refine r_if_ne 34 dX11_from_26 (by decide) (fun h26 => absurd h26 (not_not_intro hz)) (fun h26 => ?_)
      refine r_aload_n dX11_from_29 rfl ?_
      refine r_cVr (As := []) (c_X11_no α _ _) lk_11_131 rfl rfl (by decide) (by decide) rfl rfl (Nat.le_of_ble_eq_true rfl) dX11_from_30 ?_
      refine r_iret rfl dX11_from_33 ?_
      exact fd_isI rfl rfl rfl
    · rw [if_neg hz, if_neg hz]
      refine r_iload_n dX11_from_0 rfl ?_
      refine r_i2l dX11_from_1 rfl ?_
      refine r_lconst (v := 0) dX11_from_2 rfl ?_
      refine r_lconst (v := 1) dX11_from_3 rfl ?_
      refine r_cSr (As := [_, _, _]) (c_in1 α _ _ _) lk_11_97 (by decide) (by decide) rfl rfl (Nat.le_of_ble_eq_true rfl) dX11_from_4 ?_
      refine r_if_ne 17 dX11_from_7 (by decide) (fun h7 => ?_) (fun h7 => absurd h7 (fd_bn.mpr hok))
      refine r_aload_n dX11_from_17 rfl ?_
      refine r_getR rfl rfl fl_11_76 dX11_from_18 ?_
      refine r_bipush (v := 72) dX11_from_21 rfl ?_
      refine r_iload_n dX11_from_23 rfl ?_
      refine r_imul dX11_from_24 ?_
      rw [e72]
      refine r_ialdN rfl dX11_from_25 (by omega) (by omega) rfl ?_
      refine r_if_ne 34 dX11_from_26 (by decide) (fun h26 => ?_) (fun h26 => absurd h26 hz)
      refine r_aload_n dX11_from_34 rfl ?_
      refine r_iload_n dX11_from_35 rfl ?_
      refine r_cVn (As := [_]) (c_goesOn α _ _ j (by omega)) lk_11_297 rfl rfl (by decide) (by decide) rfl rfl (Nat.le_of_ble_eq_true rfl) dX11_from_36 ?_
      refine r_iconst (v := 1) dX11_from_39 rfl ?_
      refine r_iret rfl dX11_from_40 ?_
      exact fd_isI rfl rfl rfl
  · rw [if_neg hok, if_neg hok]
    refine r_iload_n dX11_from_0 rfl ?_
    refine r_i2l dX11_from_1 rfl ?_
    refine r_lconst (v := 0) dX11_from_2 rfl ?_
    refine r_lconst (v := 1) dX11_from_3 rfl ?_
    refine r_cSr (As := [_, _, _]) (c_in1 α _ _ _) lk_11_97 (by decide) (by decide) rfl rfl (Nat.le_of_ble_eq_true rfl) dX11_from_4 ?_
    refine r_if_ne 17 dX11_from_7 (by decide) (fun h7 => absurd h7 (not_not_intro (fd_b0.mpr hok))) (fun h7 => ?_)
    refine r_aload_n dX11_from_10 rfl ?_
    refine r_bipush (v := (-2)) dX11_from_11 rfl ?_
    refine r_cVr (As := [_]) (c_X11_bad α _ _ _) lk_11_120 rfl rfl (by decide) (by decide) rfl rfl (Nat.le_of_ble_eq_true rfl) dX11_from_13 ?_
    refine r_iret rfl dX11_from_16 ?_
    exact fd_isI rfl rfl rfl
