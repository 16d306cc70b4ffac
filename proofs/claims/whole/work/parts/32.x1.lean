/-! the class: small methods of a life -/
/-- how the class's cells hold a life from cell b on -/
def xSt (b : Nat) (s : pS) (I : fdI) : Prop := match s with
  | (V, n, nn, np, nt, rk, ot, ly) => I b 0 = nI n ∧ I b 1 = nI nn ∧ I b 2 = nI np ∧ I b 3 = nI nt ∧ I b 4 = nI rk ∧ I b 5 = nI ot ∧ I b 6 = nI ly ∧ agr V (fun c => I (b + c)) n nn np nt
theorem i_lt0 {d : Int32} : d < 0 ↔ d.toInt < 0 := Int32.lt_iff_toInt_lt
theorem i_leN {d : Int32} {n : Nat} (hn : n < 2 ^ 31) : nI n ≤ d ↔ (n : Int) ≤ d.toInt := by rw [Int32.le_iff_toInt_le, nI_toInt hn]
theorem i_ltN {d : Int32} {n : Nat} (hn : n < 2 ^ 31) : d < nI n ↔ d.toInt < (n : Int) := by rw [Int32.lt_iff_toInt_lt, nI_toInt hn]
theorem c_X5_hasDay (α : Nat → Nat) (I : fdI) (L : fdL) (d : Int32) {n : Nat} (hn : I 8 0 = nI n) (hn7 : 1 ≤ n ∧ n ≤ 7) : Con fd_SX α yX5_hasDay mX5_hasDay [.ref (α 8), .int d] I L (fd_is (some (.int (fd_b (dayP d n)))) I L) := by
  refine Con.of (by decide) rfl (Nat.le_of_ble_eq_true rfl) ?_
  by_cases g0 : d < 0
  · refine r_iload_n dX5_hasDay_0 rfl ?_
    refine r_if_lt 16 dX5_hasDay_1 (by decide) (fun h1 => ?_) (fun h1 => absurd h1 (not_not_intro g0))
    refine r_iconst (v := 0) dX5_hasDay_16 rfl ?_
    refine r_zret rfl (by decide) dX5_hasDay_17 ?_
    exact fd_isi (fd_b_f (fun q => absurd q.1 (by have := i_lt0.mp g0; omega))).symm rfl rfl
  · by_cases g1 : nI n ≤ d
    · refine r_iload_n dX5_hasDay_0 rfl ?_
      refine r_if_lt 16 dX5_hasDay_1 (by decide) (fun h1 => absurd h1 g0) (fun h1 => ?_)
      refine r_iload_n dX5_hasDay_4 rfl ?_
      refine r_aload_n dX5_hasDay_5 rfl ?_
      refine r_getV rfl rfl fl_5_46 dX5_hasDay_6 hn ?_
      refine r_icmp_ge 16 dX5_hasDay_9 (by decide) (fun h9 => ?_) (fun h9 => absurd h9 (not_not_intro g1))
      refine r_iconst (v := 0) dX5_hasDay_16 rfl ?_
      refine r_zret rfl (by decide) dX5_hasDay_17 ?_
      exact fd_isi (fd_b_f (fun q => absurd q.2 (by have := (i_leN (n := n) (by omega)).mp g1; omega))).symm rfl rfl
    · refine r_iload_n dX5_hasDay_0 rfl ?_
      refine r_if_lt 16 dX5_hasDay_1 (by decide) (fun h1 => absurd h1 g0) (fun h1 => ?_)
      refine r_iload_n dX5_hasDay_4 rfl ?_
      refine r_aload_n dX5_hasDay_5 rfl ?_
      refine r_getV rfl rfl fl_5_46 dX5_hasDay_6 hn ?_
      refine r_icmp_ge 16 dX5_hasDay_9 (by decide) (fun h9 => absurd h9 g1) (fun h9 => ?_)
      refine r_iconst (v := 1) dX5_hasDay_12 rfl ?_
      refine r_goto (tgt := 17) dX5_hasDay_13 (by decide) ?_
      refine r_zret rfl (by decide) dX5_hasDay_17 ?_
      exact fd_isi (fd_b_t ⟨Int.not_lt.mp (fun q => g0 (i_lt0.mpr q)), Int.not_le.mp (fun q => g1 ((i_leN (n := n) (by omega)).mpr q))⟩).symm rfl rfl
theorem fac_getD {n : Nat} (h : n ≤ 7) : fd_facts.getD n 0 = nI (fac n) := by
  rcases (show n = 0 ∨ n = 1 ∨ n = 2 ∨ n = 3 ∨ n = 4 ∨ n = 5 ∨ n = 6 ∨ n = 7 by omega) with rfl | rfl | rfl | rfl | rfl | rfl | rfl | rfl <;> rfl
theorem c_X5_orders (α : Nat → Nat) (I : fdI) (L : fdL) {n : Nat} (hn : I 8 0 = nI n) (hn7 : 1 ≤ n ∧ n ≤ 7) : Con fd_SX α yX5_orders mX5_orders [.ref (α 8)] I L (fd_is (some (.int (nI (fac n)))) I L) := by
  refine Con.of (by decide) rfl (Nat.le_of_ble_eq_true rfl) ?_
  refine r_orders rfl (by decide) dX5_orders_0 ?_
  refine r_aload_n dX5_orders_3 rfl ?_
  refine r_getV rfl rfl fl_5_46 dX5_orders_4 hn ?_
  refine r_oald dX5_orders_7 (dayP_in (nI_dayP (by omega) (by decide))) ?_
  rw [nI_clamp (by omega), fac_getD (by omega)]
  refine r_iret rfl dX5_orders_8 ?_
  exact fd_isI rfl rfl rfl
theorem c_X5_hasRank (α : Nat → Nat) (I : fdI) (L : fdL) (r : Int32) {n : Nat} (hn : I 8 0 = nI n) (hn7 : 1 ≤ n ∧ n ≤ 7) : Con fd_SX α yX5_hasRank mX5_hasRank [.ref (α 8), .int r] I L (fd_is (some (.int (fd_b (dayP r (fac n))))) I L) := by
  refine Con.of (by decide) rfl (Nat.le_of_ble_eq_true rfl) ?_
  have hf := fac_le hn7.2
  by_cases g0 : r < 0
  · refine r_iload_n dX5_hasRank_0 rfl ?_
    refine r_if_lt 16 dX5_hasRank_1 (by decide) (fun h1 => ?_) (fun h1 => absurd h1 (not_not_intro g0))
    refine r_iconst (v := 0) dX5_hasRank_16 rfl ?_
    refine r_zret rfl (by decide) dX5_hasRank_17 ?_
    exact fd_isi (fd_b_f (fun q => absurd q.1 (by have := i_lt0.mp g0; omega))).symm rfl rfl
  · by_cases g1 : nI (fac n) ≤ r
    · refine r_iload_n dX5_hasRank_0 rfl ?_
      refine r_if_lt 16 dX5_hasRank_1 (by decide) (fun h1 => absurd h1 g0) (fun h1 => ?_)
      refine r_iload_n dX5_hasRank_4 rfl ?_
      refine r_aload_n dX5_hasRank_5 rfl ?_
      refine r_cVr (As := []) (c_X5_orders α _ _ hn hn7) lk_5_77 rfl rfl (by decide) (by decide) rfl rfl (Nat.le_of_ble_eq_true rfl) dX5_hasRank_6 ?_
      refine r_icmp_ge 16 dX5_hasRank_9 (by decide) (fun h9 => ?_) (fun h9 => absurd h9 (not_not_intro g1))
      refine r_iconst (v := 0) dX5_hasRank_16 rfl ?_
      refine r_zret rfl (by decide) dX5_hasRank_17 ?_
      exact fd_isi (fd_b_f (fun q => absurd q.2 (by have := (i_leN (n := fac n) (by omega)).mp g1; omega))).symm rfl rfl
    · refine r_iload_n dX5_hasRank_0 rfl ?_
      refine r_if_lt 16 dX5_hasRank_1 (by decide) (fun h1 => absurd h1 g0) (fun h1 => ?_)
      refine r_iload_n dX5_hasRank_4 rfl ?_
      refine r_aload_n dX5_hasRank_5 rfl ?_
      refine r_cVr (As := []) (c_X5_orders α _ _ hn hn7) lk_5_77 rfl rfl (by decide) (by decide) rfl rfl (Nat.le_of_ble_eq_true rfl) dX5_hasRank_6 ?_
      refine r_icmp_ge 16 dX5_hasRank_9 (by decide) (fun h9 => absurd h9 g1) (fun h9 => ?_)
      refine r_iconst (v := 1) dX5_hasRank_12 rfl ?_
      refine r_goto (tgt := 17) dX5_hasRank_13 (by decide) ?_
      refine r_zret rfl (by decide) dX5_hasRank_17 ?_
      exact fd_isi (fd_b_t ⟨Int.not_lt.mp (fun q => g0 (i_lt0.mpr q)), Int.not_le.mp (fun q => g1 ((i_leN (n := fac n) (by omega)).mpr q))⟩).symm rfl rfl
theorem c_X10_isFact {S : List fdE} (α : Nat → Nat) (I : fdI) (L : fdL) (f : Int32) : Con S α yX10_isFact mX10_isFact [.int f] I L (fd_is (some (.int (fd_b (dayP f 6)))) I L) := by
  refine Con.of (by decide) rfl (Nat.le_of_ble_eq_true rfl) ?_
  by_cases g0 : f < 0
  · refine r_iload_n dX10_isFact_0 rfl ?_
    refine r_if_lt 14 dX10_isFact_1 (by decide) (fun h1 => ?_) (fun h1 => absurd h1 (not_not_intro g0))
    refine r_iconst (v := 0) dX10_isFact_14 rfl ?_
    refine r_zret rfl (by decide) dX10_isFact_15 ?_
    exact fd_isi (fd_b_f (fun q => absurd q.1 (by have := i_lt0.mp g0; omega))).symm rfl rfl
  · by_cases g1 : (6 : Int32) ≤ f
    · refine r_iload_n dX10_isFact_0 rfl ?_
      refine r_if_lt 14 dX10_isFact_1 (by decide) (fun h1 => absurd h1 g0) (fun h1 => ?_)
      refine r_iload_n dX10_isFact_4 rfl ?_
      refine r_bipush (v := 6) dX10_isFact_5 rfl ?_
      refine r_icmp_ge 14 dX10_isFact_7 (by decide) (fun h7 => ?_) (fun h7 => absurd h7 (not_not_intro g1))
      refine r_iconst (v := 0) dX10_isFact_14 rfl ?_
      refine r_zret rfl (by decide) dX10_isFact_15 ?_
      exact fd_isi (fd_b_f (fun q => absurd q.2 (by have := (i_leN (n := 6) (by omega)).mp g1; omega))).symm rfl rfl
    · refine r_iload_n dX10_isFact_0 rfl ?_
      refine r_if_lt 14 dX10_isFact_1 (by decide) (fun h1 => absurd h1 g0) (fun h1 => ?_)
      refine r_iload_n dX10_isFact_4 rfl ?_
      refine r_bipush (v := 6) dX10_isFact_5 rfl ?_
      refine r_icmp_ge 14 dX10_isFact_7 (by decide) (fun h7 => absurd h7 g1) (fun h7 => ?_)
      refine r_iconst (v := 1) dX10_isFact_10 rfl ?_
      refine r_goto (tgt := 15) dX10_isFact_11 (by decide) ?_
      refine r_zret rfl (by decide) dX10_isFact_15 ?_
      exact fd_isi (fd_b_t ⟨Int.not_lt.mp (fun q => g0 (i_lt0.mpr q)), Int.not_le.mp (fun q => g1 ((i_leN (n := 6) (by omega)).mpr q))⟩).symm rfl rfl
