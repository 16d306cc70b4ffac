/-! the class: the game -/
section FDR3
variable {S : List fdE} {α : Nat → Nat} {y : fdM} {pc : Nat} {lv : List (Nat × Value)} {st : List Value} {I : fdI} {L : fdL} {Q : Option Value → fdI → fdL → Prop}
theorem r_ldcw {index : Nat} {v : Int32} (hw : Cond.constant y.2.2.1 index v ∈ fd_tb) (hdg : decode y.1 pc = .ok (.ldc_w index, 3)) (K : Rn S α y (pc + 3) lv (.int v :: st) I L Q) : Rn S α y pc lv st I L Q := by
  intro p l e s m args below meth c A dC dI dA F H locs ls hP hS hl
  exact lv_ldcw F.1 F.2.1 F.2.2.2.1 (F.2.2.2.2.2.2.1 _ hw) hdg (K p l e s m args below meth c A dC dI dA F H locs ls hP hS hl)
theorem r_iushr {x z v : Int32} (hdg : decode y.1 pc = .ok (.iushr, 1)) (hv : (x.toUInt32 >>> (z.toUInt32 &&& Int32.toUInt32 31)).toInt32 = v) (K : Rn S α y (pc + 1) lv (.int v :: st) I L Q) : Rn S α y pc lv (.int z :: .int x :: st) I L Q := by
  intro p l e s m args below meth c A dC dI dA F H locs ls hP hS hl
  exact lv_iushr F.1 F.2.1 hdg hv (K p l e s m args below meth c A dC dI dA F H locs ls hP hS hl)
end FDR3
def bcS (x z : Int32) : Int32 := (x.toUInt32 >>> (z.toUInt32 &&& Int32.toUInt32 31)).toInt32
def bcA (x : Int32) : Int32 := x - (bcS x 1 &&& 1431655765)
def bcB (x : Int32) : Int32 := (x &&& 858993459) + (bcS x 2 &&& 858993459)
def bcC (x : Int32) : Int32 := (x + bcS x 4) &&& 252645135
def bcD (x : Int32) : Int32 := x + bcS x 8
def bcE (x : Int32) : Int32 := x + bcS x 16
theorem bc64 : ∀ x, x < 64 → bcE (bcD (bcC (bcB (bcA (nI x))))) &&& 63 = nI (pc6 x) := by decide +kernel
theorem c_bitCount {S : List fdE} (α : Nat → Nat) (I : fdI) (L : fdL) (v : Int32) (hv : dayP v 64) : Con S α yJ6_bitCount_0f7a4 mJ6_bitCount_0f7a4 [.int v] I L (fd_is (some (.int (pcI v))) I L) := by
  refine Con.of (by decide) rfl (Nat.le_of_ble_eq_true rfl) ?_
  obtain ⟨x, hx, rfl⟩ := dayP_nI hv
  have e : pcI (nI x) = nI (pc6 x) := by unfold pcI; rw [nI_clamp (by omega)]
  rw [e, ← bc64 x hx]
  refine r_iload_n dJ6_bitCount_0f7a4_0 rfl ?_
  refine r_iload_n dJ6_bitCount_0f7a4_1 rfl ?_
  refine r_iconst (v := 1) dJ6_bitCount_0f7a4_2 rfl ?_
  refine r_iushr dJ6_bitCount_0f7a4_3 rfl ?_
  refine r_ldcw (v := (1431655765 : Int32)) (fd_in 865 (by decide +kernel) (by decide +kernel)) dJ6_bitCount_0f7a4_4 ?_
  refine r_iand dJ6_bitCount_0f7a4_7 ?_
  refine r_isub dJ6_bitCount_0f7a4_8 ?_
  refine r_istore_n (lv' := [(0, _)]) dJ6_bitCount_0f7a4_9 (Nat.le_of_ble_eq_true rfl) rfl ?_
  refine r_iload_n dJ6_bitCount_0f7a4_10 rfl ?_
  refine r_ldcw (v := (858993459 : Int32)) (fd_in 866 (by decide +kernel) (by decide +kernel)) dJ6_bitCount_0f7a4_11 ?_
  refine r_iand dJ6_bitCount_0f7a4_14 ?_
  refine r_iload_n dJ6_bitCount_0f7a4_15 rfl ?_
  refine r_iconst (v := 2) dJ6_bitCount_0f7a4_16 rfl ?_
  refine r_iushr dJ6_bitCount_0f7a4_17 rfl ?_
  refine r_ldcw (v := (858993459 : Int32)) (fd_in 866 (by decide +kernel) (by decide +kernel)) dJ6_bitCount_0f7a4_18 ?_
  refine r_iand dJ6_bitCount_0f7a4_21 ?_
  refine r_iadd dJ6_bitCount_0f7a4_22 ?_
  refine r_istore_n (lv' := [(0, _)]) dJ6_bitCount_0f7a4_23 (Nat.le_of_ble_eq_true rfl) rfl ?_
  refine r_iload_n dJ6_bitCount_0f7a4_24 rfl ?_
  refine r_iload_n dJ6_bitCount_0f7a4_25 rfl ?_
  refine r_iconst (v := 4) dJ6_bitCount_0f7a4_26 rfl ?_
  refine r_iushr dJ6_bitCount_0f7a4_27 rfl ?_
  refine r_iadd dJ6_bitCount_0f7a4_28 ?_
  refine r_ldcw (v := (252645135 : Int32)) (fd_in 867 (by decide +kernel) (by decide +kernel)) dJ6_bitCount_0f7a4_29 ?_
  refine r_iand dJ6_bitCount_0f7a4_32 ?_
  refine r_istore_n (lv' := [(0, _)]) dJ6_bitCount_0f7a4_33 (Nat.le_of_ble_eq_true rfl) rfl ?_
  refine r_iload_n dJ6_bitCount_0f7a4_34 rfl ?_
  refine r_iload_n dJ6_bitCount_0f7a4_35 rfl ?_
  refine r_bipush (v := 8) dJ6_bitCount_0f7a4_36 rfl ?_
  refine r_iushr dJ6_bitCount_0f7a4_38 rfl ?_
  refine r_iadd dJ6_bitCount_0f7a4_39 ?_
  refine r_istore_n (lv' := [(0, _)]) dJ6_bitCount_0f7a4_40 (Nat.le_of_ble_eq_true rfl) rfl ?_
  refine r_iload_n dJ6_bitCount_0f7a4_41 rfl ?_
  refine r_iload_n dJ6_bitCount_0f7a4_42 rfl ?_
  refine r_bipush (v := 16) dJ6_bitCount_0f7a4_43 rfl ?_
  refine r_iushr dJ6_bitCount_0f7a4_45 rfl ?_
  refine r_iadd dJ6_bitCount_0f7a4_46 ?_
  refine r_istore_n (lv' := [(0, _)]) dJ6_bitCount_0f7a4_47 (Nat.le_of_ble_eq_true rfl) rfl ?_
  refine r_iload_n dJ6_bitCount_0f7a4_48 rfl ?_
  refine r_bipush (v := 63) dJ6_bitCount_0f7a4_49 rfl ?_
  refine r_iand dJ6_bitCount_0f7a4_51 ?_
  refine r_iret rfl dJ6_bitCount_0f7a4_52 ?_
  exact fd_isI rfl rfl rfl
theorem c_X5_taughtBy (s : pS) (α : Nat → Nat) (I : fdI) (L : fdL) (m : Nat) (hs : stOk s) (hx : xSt 8 s I) (hm : m < 2 ^ s.2.1) : Con fd_SX α yX5_taughtBy mX5_taughtBy [.ref (α 8), .int (nI m)] I L (fd_is (some (.int (hsV s.1 s.2.1 m))) I L) := by
  refine Con.of (by decide) rfl (Nat.le_of_ble_eq_true rfl) ?_
  have hn7 := hs.n7
  have h2n := pow7 hn7.2
  unfold hsV
  have loop : ∀ k, k ≤ s.2.1 → Rn fd_SX α mX5_taughtBy 4 [(3, .int (nI k)), (2, .int (orN (fun e => if m / 2 ^ e % 2 = 1 then s.1 3 e else 0) k)), (0, .ref (α 8)), (1, .int (nI m))] [] I L (fd_is (some (.int (orN (fun e => if m / 2 ^ e % 2 = 1 then s.1 3 e else 0) s.2.1))) I L) := by
    refine fd_down (fun k hk ih => ?_)
    by_cases hx2 : k = s.2.1
    · refine r_iload_n dX5_taughtBy_4 rfl ?_
      refine r_aload_n dX5_taughtBy_5 rfl ?_
      refine r_getV rfl rfl fl_5_46 dX5_taughtBy_6 hx.n ?_
      refine r_icmp_ge 35 dX5_taughtBy_9 (by decide) (fun h9 => ?_) (fun h9 => absurd h9 (not_not_intro (by rw [hx2]; exact Int32.le_refl _)))
      refine r_iload_n dX5_taughtBy_35 rfl ?_
      refine r_iret rfl dX5_taughtBy_36 ?_
      exact fd_isi (by rw [hx2]) rfl rfl
    · have hk1 : k < s.2.1 := by omega
      have ih := ih hk1
      by_cases hb : m / 2 ^ k % 2 = 1
      · have ev : orN (fun e => if m / 2 ^ e % 2 = 1 then s.1 3 e else 0) (k + 1) = orN (fun e => if m / 2 ^ e % 2 = 1 then s.1 3 e else 0) k ||| s.1 3 k := congrArg (fun z => orN (fun e => if m / 2 ^ e % 2 = 1 then s.1 3 e else 0) k ||| z) (if_pos hb)
        rw [ev] at ih
        refine r_iload_n dX5_taughtBy_4 rfl ?_
        refine r_aload_n dX5_taughtBy_5 rfl ?_
        refine r_getV rfl rfl fl_5_46 dX5_taughtBy_6 hx.n ?_
        refine r_icmp_ge 35 dX5_taughtBy_9 (by decide) (fun h9 => absurd h9 (fun q => absurd ((nI_leI (by omega) (by omega)).mp q) (by omega))) (fun h9 => ?_)
        refine r_iload_n dX5_taughtBy_12 rfl ?_
        refine r_iload_n dX5_taughtBy_13 rfl ?_
        refine r_ishr dX5_taughtBy_14 ?_
        rw [nI_shr (by omega) (by omega)]
        refine r_iconst (v := 1) dX5_taughtBy_15 rfl ?_
        refine r_iand dX5_taughtBy_16 ?_
        rw [nI_and1, hb]
        refine r_if_eq 29 dX5_taughtBy_17 (by decide) (fun h17 => absurd h17 (by decide)) (fun h17 => ?_)
        refine r_iload_n dX5_taughtBy_20 rfl ?_
        refine r_aload_n dX5_taughtBy_21 rfl ?_
        refine r_getR rfl rfl fl_5_18 dX5_taughtBy_22 ?_
        refine r_iload_n dX5_taughtBy_25 rfl ?_
        refine r_ialdN rfl dX5_taughtBy_26 (by omega) (by omega) (hx.kind hk1).2.2.1 ?_
        refine r_ior dX5_taughtBy_27 ?_
        refine r_istore_n (lv' := [(2, _), (3, _), (0, _), (1, _)]) dX5_taughtBy_28 (Nat.le_of_ble_eq_true rfl) rfl ?_
        refine r_iinc (v := _ + 1) (lv' := [(3, _), (2, _), (0, _), (1, _)]) dX5_taughtBy_29 rfl rfl (Nat.le_of_ble_eq_true rfl) rfl ?_
        refine r_goto (tgt := 4) dX5_taughtBy_32 (by decide) ?_
        rw [nI_1]
        exact r_keep [3, 2, 0, 1] rfl ih
      · have ev : orN (fun e => if m / 2 ^ e % 2 = 1 then s.1 3 e else 0) (k + 1) = orN (fun e => if m / 2 ^ e % 2 = 1 then s.1 3 e else 0) k := (congrArg (fun z => orN (fun e => if m / 2 ^ e % 2 = 1 then s.1 3 e else 0) k ||| z) (if_neg hb)).trans Int32.or_zero
        rw [ev] at ih
        refine r_iload_n dX5_taughtBy_4 rfl ?_
        refine r_aload_n dX5_taughtBy_5 rfl ?_
        refine r_getV rfl rfl fl_5_46 dX5_taughtBy_6 hx.n ?_
        refine r_icmp_ge 35 dX5_taughtBy_9 (by decide) (fun h9 => absurd h9 (fun q => absurd ((nI_leI (by omega) (by omega)).mp q) (by omega))) (fun h9 => ?_)
        refine r_iload_n dX5_taughtBy_12 rfl ?_
        refine r_iload_n dX5_taughtBy_13 rfl ?_
        refine r_ishr dX5_taughtBy_14 ?_
        rw [nI_shr (by omega) (by omega)]
        refine r_iconst (v := 1) dX5_taughtBy_15 rfl ?_
        refine r_iand dX5_taughtBy_16 ?_
        rw [nI_and1, show m / 2 ^ k % 2 = 0 by omega]
        refine r_if_eq 29 dX5_taughtBy_17 (by decide) (fun h17 => ?_) (fun h17 => absurd h17 (not_not_intro rfl))
        refine r_iinc (v := _ + 1) (lv' := [(3, _), (2, _), (0, _), (1, _)]) dX5_taughtBy_29 rfl rfl (Nat.le_of_ble_eq_true rfl) rfl ?_
        refine r_goto (tgt := 4) dX5_taughtBy_32 (by decide) ?_
        rw [nI_1]
        exact r_keep [3, 2, 0, 1] rfl ih
  refine r_iconst (v := 0) dX5_taughtBy_0 rfl ?_
  refine r_istore_n (lv' := [(2, _), (0, _), (1, _)]) dX5_taughtBy_1 (Nat.le_of_ble_eq_true rfl) rfl ?_
  refine r_iconst (v := 0) dX5_taughtBy_2 rfl ?_
  refine r_istore_n (lv' := [(3, _), (2, _), (0, _), (1, _)]) dX5_taughtBy_3 (Nat.le_of_ble_eq_true rfl) rfl ?_
  exact r_keep [3, 2, 0, 1] rfl (loop 0 (by omega))
theorem c_X10_leadByNaming (s : pS) (α : Nat → Nat) (I : fdI) (L : fdL) (m d : Nat) (hs : stOk s) (hx : xSt 8 s I) (hm : m < 2 ^ s.2.1) (hd : d < s.2.1) : Con fd_SX α yX10_leadByNaming mX10_leadByNaming [.ref (α 0), .int (nI m), .int (nI d)] I L (fd_is (some (.int (nmV s.1 s.2.1 (I 75) m d))) I L) := by
  refine Con.of (by decide) rfl (Nat.le_of_ble_eq_true rfl) ?_
  have hn7 := hs.n7
  have h2n := pow7 hn7.2
  have hod := or128 hm hd
  refine r_aload_n dX10_leadByNaming_0 rfl ?_
  refine r_getR rfl rfl fl_10_18 dX10_leadByNaming_1 ?_
  refine r_getR rfl rfl fl_10_290 dX10_leadByNaming_4 ?_
  refine r_iload_n dX10_leadByNaming_7 rfl ?_
  refine r_ialdN rfl dX10_leadByNaming_8 (by omega) (by omega) (hx.kind hd).2.2.1 ?_
  refine r_aload_n dX10_leadByNaming_9 rfl ?_
  refine r_getR rfl rfl fl_10_18 dX10_leadByNaming_10 ?_
  refine r_iload_n dX10_leadByNaming_13 rfl ?_
  refine r_cVr (As := [_]) (c_X5_taughtBy s α _ _ m hs hx hm) lk_10_293 rfl rfl (by decide) (by decide) rfl rfl (Nat.le_of_ble_eq_true rfl) dX10_leadByNaming_14 ?_
  refine r_iconst (v := (-1)) dX10_leadByNaming_17 rfl ?_
  refine r_ixor dX10_leadByNaming_18 ?_
  refine r_iand dX10_leadByNaming_19 ?_
  refine r_istore_n (lv' := [(3, _), (0, _), (1, _), (2, _)]) dX10_leadByNaming_20 (Nat.le_of_ble_eq_true rfl) rfl ?_
  refine r_iload_n dX10_leadByNaming_21 rfl ?_
  refine r_cSr (As := [_]) (c_bitCount α _ _ _ (and64 (hs.v.1 d hd).2.2.1)) lk_10_296 (by decide) (by decide) rfl rfl (Nat.le_of_ble_eq_true rfl) dX10_leadByNaming_22 ?_
  refine r_aload_n dX10_leadByNaming_25 rfl ?_
  refine r_getR rfl rfl fl_10_58 dX10_leadByNaming_26 ?_
  refine r_iload_n dX10_leadByNaming_29 rfl ?_
  refine r_iconst (v := 1) dX10_leadByNaming_30 rfl ?_
  refine r_iload_n dX10_leadByNaming_31 rfl ?_
  refine r_ishl dX10_leadByNaming_32 ?_
  rw [nI_shl1 (by omega)]
  refine r_ior dX10_leadByNaming_33 ?_
  rw [nI_or]
  refine r_ialdN rfl dX10_leadByNaming_34 (show m ||| 2 ^ d < 128 by omega) (by omega) rfl ?_
  refine r_isub dX10_leadByNaming_35 ?_
  refine r_iret rfl dX10_leadByNaming_36 ?_
  exact fd_isI rfl rfl rfl
/-! how far a lead can go -/
def unB (s d : Nat) : Bool := !s.testBit d
def unN (n s : Nat) : Nat := cnN (unB s) n
theorem unB_0 {s d : Nat} : unB s d = true ↔ ¬ s / 2 ^ d % 2 = 1 := by
  unfold unB
  rw [Nat.testBit_eq_decide_div_mod_eq]
  simp
theorem un_or {n s d : Nat} (hd : d < n) (hb : ¬ s / 2 ^ d % 2 = 1) : unN n (s ||| 2 ^ d) + 1 = unN n s := by
  have h := cnN_up (g := unB (s ||| 2 ^ d)) (h := unB s) hd (fun i _ hne => by
    unfold unB
    rw [Nat.testBit_or, Nat.testBit_two_pow, decide_eq_false (fun q => hne q.symm), Bool.or_false])
  rw [if_pos (unB_0.mpr hb)] at h
  have h2 : unB (s ||| 2 ^ d) d = false := by
    unfold unB
    rw [Nat.testBit_or, Nat.testBit_two_pow, decide_eq_true rfl, Bool.or_true]
    rfl
  rw [h2] at h
  exact h
theorem un_ex {n s : Nat} (hs : s < 2 ^ n - 1) : ¬ ∀ d, d < n → s / 2 ^ d % 2 = 1 := by
  intro h
  have : s = 2 ^ n - 1 := by
    refine Nat.eq_of_testBit_eq fun i => ?_
    rw [Nat.testBit_two_pow_sub_one]
    by_cases q : i < n
    · rw [Nat.testBit_eq_decide_div_mod_eq, decide_eq_true (h i q), decide_eq_true q]
    · rw [decide_eq_false q]
      exact Nat.testBit_lt_two_pow (Nat.lt_of_lt_of_le (show s < 2 ^ n by omega) (Nat.pow_le_pow_right (by omega) (by omega)))
  omega
def bdP (n : Nat) (G : Nat → Int32) (lo : Nat) : Prop := ∀ x, lo ≤ x → x < 2 ^ n → -(6 * (unN n x : Int)) ≤ (G x).toInt ∧ (G x).toInt ≤ 6 * (unN n x : Int)
theorem pcI_b {v : Int32} (h : dayP v 64) : 0 ≤ (pcI v).toInt ∧ (pcI v).toInt ≤ 6 := by
  obtain ⟨x, hx, rfl⟩ := dayP_nI h
  have : pc6 x ≤ 6 := by unfold pc6; omega
  unfold pcI
  rw [nI_clamp (by omega), nI_toInt (by omega)]
  omega
theorem i_subT {x y : Int32} (h1 : -2147483648 ≤ x.toInt - y.toInt) (h2 : x.toInt - y.toInt < 2147483648) : (x - y).toInt = x.toInt - y.toInt := by
  rw [Int32.toInt_sub]
  exact Int.bmod_eq_of_le_mul_two (by omega) (by omega)
theorem nmV_b {V : pV} {n s d : Nat} {G : Nat → Int32} (hV : dayP (V 3 d) 64) (hn : n ≤ 7) (hd : d < n) (hs : s < 2 ^ n) (hb : ¬ s / 2 ^ d % 2 = 1) (hG : bdP n G (s + 1)) : -(6 * ((unN n s : Int) - 1)) ≤ (nmV V n G s d).toInt ∧ (nmV V n G s d).toInt ≤ 6 * (unN n s : Int) ∧ unN n s ≤ 7 := by
  have h1 := hG _ (or_gt hb) (or128 hs hd)
  have h2 := un_or hd hb
  have h3 := pcI_b (and64 (y := hsV V n s ^^^ -1) hV)
  have h4 : unN n s ≤ n := cnN_le _ _
  unfold nmV
  rw [i_subT (by omega) (by omega)]
  omega
def bnP (V : pV) (n : Nat) (s : Nat) (I : fdI) (L : fdL) (v : Value) (I' : fdI) (L' : fdL) : Prop := I' = I ∧ L' = L ∧ ∃ b, b < n ∧ ¬ s / 2 ^ b % 2 = 1 ∧ v = .int (nI b) ∧ ∀ f0, gmO V n (I 75) s f0 n = (nmV V n (I 75) s b, nI b)
theorem c_X10_bestNaming (s : pS) (α : Nat → Nat) (I : fdI) (L : fdL) (m : Nat) (hs : stOk s) (hx : xSt 8 s I) (hm : m < 2 ^ s.2.1 - 1) (hG : bdP s.2.1 (I 75) (m + 1)) : Con fd_SX α yX10_bestNaming mX10_bestNaming [.ref (α 0), .int (nI m)] I L (fd_ip (bnP s.1 s.2.1 m I L)) := by
  refine Con.of (by decide) rfl (Nat.le_of_ble_eq_true rfl) ?_
  have hn7 := hs.n7
  have h2n := pow7 hn7.2
  have hm2 : m < 2 ^ s.2.1 := by omega
  have hbd : ∀ d, d < s.2.1 → ¬ m / 2 ^ d % 2 = 1 → (-36 : Int) ≤ (nmV s.1 s.2.1 (I 75) m d).toInt := fun d hd hb => by
    have := nmV_b (hs.v.1 d hd).2.2.1 hn7.2 hd hm2 hb hG
    omega
  have n99 : ∀ x : Int32, (-36 : Int) ≤ x.toInt → ¬ x < -99 ∧ (-99 : Int32) < x ∧ ¬ x ≤ -42 := fun x h => by
    rw [Int32.lt_iff_toInt_lt, Int32.lt_iff_toInt_lt, Int32.le_iff_toInt_le, show (-99 : Int32).toInt = -99 from by decide, show (-42 : Int32).toInt = -42 from by decide]
    omega
  have loop : ∀ d, d ≤ s.2.1 → ∀ (x : Int32) (b : Nat), (((∀ e, e < d → m / 2 ^ e % 2 = 1) ∧ x = -42 ∧ b = 0 ∧ ∀ f0, gmO s.1 s.2.1 (I 75) m f0 d = (-99, f0)) ∨ (b < d ∧ ¬ m / 2 ^ b % 2 = 1 ∧ x = nmV s.1 s.2.1 (I 75) m b ∧ ∀ f0, gmO s.1 s.2.1 (I 75) m f0 d = (x, nI b))) → Rn fd_SX α mX10_bestNaming 8 [(4, .int (nI d)), (3, .int x), (2, .int (nI b)), (0, .ref (α 0)), (1, .int (nI m))] [] I L (fd_ip (bnP s.1 s.2.1 m I L)) := by
    refine fd_down (fun d hd ih => ?_)
    intro x b hAB
    by_cases hx2 : d = s.2.1
    · rcases hAB with ⟨a1, _⟩ | ⟨b1, b2, b3, b4⟩
      · rw [hx2] at a1
        exact absurd a1 (un_ex hm)
      · rw [hx2] at b1 b4
        refine r_iload dX10_bestNaming_8 rfl ?_
        refine r_aload_n dX10_bestNaming_10 rfl ?_
        refine r_getR rfl rfl fl_10_18 dX10_bestNaming_11 ?_
        refine r_getV rfl rfl fl_10_170 dX10_bestNaming_14 hx.n ?_
        refine r_icmp_ge 56 dX10_bestNaming_17 (by decide) (fun h17 => ?_) (fun h17 => absurd h17 (not_not_intro (by rw [hx2]; exact Int32.le_refl _)))
        refine r_iload_n dX10_bestNaming_56 rfl ?_
        refine r_iret rfl dX10_bestNaming_57 ?_
        exact ⟨_, rfl, rfl, rfl, b, b1, b2, rfl, by rw [b3] at b4; exact b4⟩
    · have hd1 : d < s.2.1 := by omega
      have ih := ih hd1
      by_cases hb : m / 2 ^ d % 2 = 1
      · have hAB2 : ((∀ e, e < d + 1 → m / 2 ^ e % 2 = 1) ∧ x = -42 ∧ b = 0 ∧ ∀ f0, gmO s.1 s.2.1 (I 75) m f0 (d + 1) = (-99, f0)) ∨ (b < d + 1 ∧ ¬ m / 2 ^ b % 2 = 1 ∧ x = nmV s.1 s.2.1 (I 75) m b ∧ ∀ f0, gmO s.1 s.2.1 (I 75) m f0 (d + 1) = (x, nI b)) := by
          have e1 : ∀ f0, ¬ (gmO s.1 s.2.1 (I 75) m f0 d).1 < -99 → gmO s.1 s.2.1 (I 75) m f0 (d + 1) = gmO s.1 s.2.1 (I 75) m f0 d := fun f0 hz => by
            show (if (gmO s.1 s.2.1 (I 75) m f0 d).1 < (if m / 2 ^ d % 2 = 1 then -99 else nmV s.1 s.2.1 (I 75) m d) then _ else _) = _
            rw [if_pos hb, if_neg hz]
          rcases hAB with ⟨a1, a2, a3, a4⟩ | ⟨b1, b2, b3, b4⟩
          · refine Or.inl ⟨fun e he => ?_, a2, a3, fun f0 => ?_⟩
            · by_cases q : e = d
              · rw [q]; exact hb
              · exact a1 e (by omega)
            · rw [e1 f0 (by rw [a4]; exact Int32.lt_irrefl), a4]
          · refine Or.inr ⟨by omega, b2, b3, fun f0 => ?_⟩
            rw [e1 f0 (by rw [b4, b3]; exact (n99 _ (hbd b (by omega) b2)).1), b4]
        refine r_iload dX10_bestNaming_8 rfl ?_
        refine r_aload_n dX10_bestNaming_10 rfl ?_
        refine r_getR rfl rfl fl_10_18 dX10_bestNaming_11 ?_
        refine r_getV rfl rfl fl_10_170 dX10_bestNaming_14 hx.n ?_
        refine r_icmp_ge 56 dX10_bestNaming_17 (by decide) (fun h17 => absurd h17 (fun q => absurd ((nI_leI (by omega) (by omega)).mp q) (by omega))) (fun h17 => ?_)
        refine r_iload_n dX10_bestNaming_20 rfl ?_
        refine r_iload dX10_bestNaming_21 rfl ?_
        refine r_ishr dX10_bestNaming_23 ?_
        rw [nI_shr (by omega) (by omega)]
        refine r_iconst (v := 1) dX10_bestNaming_24 rfl ?_
        refine r_iand dX10_bestNaming_25 ?_
        rw [nI_and1, hb]
        refine r_if_ne 50 dX10_bestNaming_26 (by decide) (fun h26 => ?_) (fun h26 => absurd h26 (by decide))
        refine r_iinc (v := _ + 1) (lv' := [(4, _), (3, _), (2, _), (0, _), (1, _)]) dX10_bestNaming_50 rfl rfl (Nat.le_of_ble_eq_true rfl) rfl ?_
        refine r_goto (tgt := 8) dX10_bestNaming_53 (by decide) ?_
        rw [nI_1]
        exact r_keep [4, 3, 2, 0, 1] rfl (ih x b hAB2)
      · have hl := n99 _ (hbd d hd1 hb)
        have e1 : ∀ f0, gmO s.1 s.2.1 (I 75) m f0 (d + 1) = if (gmO s.1 s.2.1 (I 75) m f0 d).1 < nmV s.1 s.2.1 (I 75) m d then (nmV s.1 s.2.1 (I 75) m d, nI d) else gmO s.1 s.2.1 (I 75) m f0 d := fun f0 => by
          show (if (gmO s.1 s.2.1 (I 75) m f0 d).1 < (if m / 2 ^ d % 2 = 1 then -99 else nmV s.1 s.2.1 (I 75) m d) then ((if m / 2 ^ d % 2 = 1 then -99 else nmV s.1 s.2.1 (I 75) m d), nI d) else _) = _
          rw [if_neg hb]
        by_cases hle : nmV s.1 s.2.1 (I 75) m d ≤ x
        · have hAB2 : b < d + 1 ∧ ¬ m / 2 ^ b % 2 = 1 ∧ x = nmV s.1 s.2.1 (I 75) m b ∧ ∀ f0, gmO s.1 s.2.1 (I 75) m f0 (d + 1) = (x, nI b) := by
            rcases hAB with ⟨a1, a2, a3, a4⟩ | ⟨b1, b2, b3, b4⟩
            · exact absurd (a2 ▸ hle) hl.2.2
            · refine ⟨by omega, b2, b3, fun f0 => ?_⟩
              rw [e1 f0, if_neg (by rw [b4]; exact Int32.not_lt.mpr hle), b4]
          refine r_iload dX10_bestNaming_8 rfl ?_
          refine r_aload_n dX10_bestNaming_10 rfl ?_
          refine r_getR rfl rfl fl_10_18 dX10_bestNaming_11 ?_
          refine r_getV rfl rfl fl_10_170 dX10_bestNaming_14 hx.n ?_
          refine r_icmp_ge 56 dX10_bestNaming_17 (by decide) (fun h17 => absurd h17 (fun q => absurd ((nI_leI (by omega) (by omega)).mp q) (by omega))) (fun h17 => ?_)
          refine r_iload_n dX10_bestNaming_20 rfl ?_
          refine r_iload dX10_bestNaming_21 rfl ?_
          refine r_ishr dX10_bestNaming_23 ?_
          rw [nI_shr (by omega) (by omega)]
          refine r_iconst (v := 1) dX10_bestNaming_24 rfl ?_
          refine r_iand dX10_bestNaming_25 ?_
          rw [nI_and1, show m / 2 ^ d % 2 = 0 by omega]
          refine r_if_ne 50 dX10_bestNaming_26 (by decide) (fun h26 => absurd h26 (not_not_intro rfl)) (fun h26 => ?_)
          refine r_aload_n dX10_bestNaming_29 rfl ?_
          refine r_iload_n dX10_bestNaming_30 rfl ?_
          refine r_iload dX10_bestNaming_31 rfl ?_
          refine r_cVr (As := [_, _]) (c_X10_leadByNaming s α _ _ m d hs hx hm2 hd1) lk_10_244 rfl rfl (by decide) (by decide) rfl rfl (Nat.le_of_ble_eq_true rfl) dX10_bestNaming_33 ?_
          refine r_istore (lv' := [(5, _), (4, _), (3, _), (2, _), (0, _), (1, _)]) dX10_bestNaming_36 (Nat.le_of_ble_eq_true rfl) rfl ?_
          refine r_iload dX10_bestNaming_38 rfl ?_
          refine r_iload_n dX10_bestNaming_40 rfl ?_
          refine r_icmp_le 50 dX10_bestNaming_41 (by decide) (fun h41 => ?_) (fun h41 => absurd h41 (not_not_intro hle))
          refine r_iinc (v := _ + 1) (lv' := [(4, _), (5, _), (3, _), (2, _), (0, _), (1, _)]) dX10_bestNaming_50 rfl rfl (Nat.le_of_ble_eq_true rfl) rfl ?_
          refine r_goto (tgt := 8) dX10_bestNaming_53 (by decide) ?_
          rw [nI_1]
          exact r_keep [4, 3, 2, 0, 1] rfl (ih x b (Or.inr hAB2))
        · have hAB2 : d < d + 1 ∧ ¬ m / 2 ^ d % 2 = 1 ∧ nmV s.1 s.2.1 (I 75) m d = nmV s.1 s.2.1 (I 75) m d ∧ ∀ f0, gmO s.1 s.2.1 (I 75) m f0 (d + 1) = (nmV s.1 s.2.1 (I 75) m d, nI d) := by
            refine ⟨Nat.lt_succ_self d, hb, rfl, fun f0 => ?_⟩
            rcases hAB with ⟨a1, a2, a3, a4⟩ | ⟨b1, b2, b3, b4⟩
            · rw [e1 f0, if_pos (by rw [a4]; exact hl.2.1)]
            · rw [e1 f0, if_pos (by rw [b4]; exact Int32.not_le.mp hle)]
          refine r_iload dX10_bestNaming_8 rfl ?_
          refine r_aload_n dX10_bestNaming_10 rfl ?_
          refine r_getR rfl rfl fl_10_18 dX10_bestNaming_11 ?_
          refine r_getV rfl rfl fl_10_170 dX10_bestNaming_14 hx.n ?_
          refine r_icmp_ge 56 dX10_bestNaming_17 (by decide) (fun h17 => absurd h17 (fun q => absurd ((nI_leI (by omega) (by omega)).mp q) (by omega))) (fun h17 => ?_)
          refine r_iload_n dX10_bestNaming_20 rfl ?_
          refine r_iload dX10_bestNaming_21 rfl ?_
          refine r_ishr dX10_bestNaming_23 ?_
          rw [nI_shr (by omega) (by omega)]
          refine r_iconst (v := 1) dX10_bestNaming_24 rfl ?_
          refine r_iand dX10_bestNaming_25 ?_
          rw [nI_and1, show m / 2 ^ d % 2 = 0 by omega]
          refine r_if_ne 50 dX10_bestNaming_26 (by decide) (fun h26 => absurd h26 (not_not_intro rfl)) (fun h26 => ?_)
          refine r_aload_n dX10_bestNaming_29 rfl ?_
          refine r_iload_n dX10_bestNaming_30 rfl ?_
          refine r_iload dX10_bestNaming_31 rfl ?_
          refine r_cVr (As := [_, _]) (c_X10_leadByNaming s α _ _ m d hs hx hm2 hd1) lk_10_244 rfl rfl (by decide) (by decide) rfl rfl (Nat.le_of_ble_eq_true rfl) dX10_bestNaming_33 ?_
          refine r_istore (lv' := [(5, _), (4, _), (3, _), (2, _), (0, _), (1, _)]) dX10_bestNaming_36 (Nat.le_of_ble_eq_true rfl) rfl ?_
          refine r_iload dX10_bestNaming_38 rfl ?_
          refine r_iload_n dX10_bestNaming_40 rfl ?_
          refine r_icmp_le 50 dX10_bestNaming_41 (by decide) (fun h41 => absurd h41 hle) (fun h41 => ?_)
          refine r_iload dX10_bestNaming_44 rfl ?_
          refine r_istore_n (lv' := [(3, _), (5, _), (4, _), (2, _), (0, _), (1, _)]) dX10_bestNaming_46 (Nat.le_of_ble_eq_true rfl) rfl ?_
          refine r_iload dX10_bestNaming_47 rfl ?_
          refine r_istore_n (lv' := [(2, _), (3, _), (5, _), (4, _), (0, _), (1, _)]) dX10_bestNaming_49 (Nat.le_of_ble_eq_true rfl) rfl ?_
          refine r_iinc (v := _ + 1) (lv' := [(4, _), (2, _), (3, _), (5, _), (0, _), (1, _)]) dX10_bestNaming_50 rfl rfl (Nat.le_of_ble_eq_true rfl) rfl ?_
          refine r_goto (tgt := 8) dX10_bestNaming_53 (by decide) ?_
          rw [nI_1]
          exact r_keep [4, 3, 2, 0, 1] rfl (ih _ d (Or.inr hAB2))
  refine r_iconst (v := 0) dX10_bestNaming_0 rfl ?_
  refine r_istore_n (lv' := [(2, _), (0, _), (1, _)]) dX10_bestNaming_1 (Nat.le_of_ble_eq_true rfl) rfl ?_
  refine r_bipush (v := (-42)) dX10_bestNaming_2 rfl ?_
  refine r_istore_n (lv' := [(3, _), (2, _), (0, _), (1, _)]) dX10_bestNaming_4 (Nat.le_of_ble_eq_true rfl) rfl ?_
  refine r_iconst (v := 0) dX10_bestNaming_5 rfl ?_
  refine r_istore (lv' := [(4, _), (3, _), (2, _), (0, _), (1, _)]) dX10_bestNaming_6 (Nat.le_of_ble_eq_true rfl) rfl ?_
  exact r_keep [4, 3, 2, 0, 1] rfl (loop 0 (by omega) (-42) 0 (Or.inl ⟨fun e he => by omega, rfl, rfl, fun f0 => rfl⟩))
def o_game (s : pS) (w : Int32) : oT := if dayP w 2 then (gmR s.1 s.2.1 w, s, 3) else (-100, s, 0)
theorem c_X10_game (s : pS) (α : Nat → Nat) (I : fdI) (L : fdL) (w : Int32) (hs : stOk s) (hx : xSt 8 s I) : Con fd_SX α yX10_game mX10_game [.ref (α 0), .int w] I L (fd_ip (xOut (o_game s w) I L)) := by
  refine Con.of (by decide) rfl (Nat.le_of_ble_eq_true rfl) ?_
  unfold o_game
  have hn7 := hs.n7
  have h2n := pow7 hn7.2
  have h2p : 2 ≤ 2 ^ s.2.1 := Nat.pow_le_pow_right (n := 2) (by omega) hn7.1
  by_cases hok : dayP w 2
  · rw [if_pos hok]
    have g1 : w ≤ 1 := le_of_dayP (m := 1) hok (by decide)
    have loop : ∀ k m, m + k = 2 ^ s.2.1 - 1 → ∀ (I1 : fdI) (f : Int32), (∀ a, a ≠ 75 → I1 a = I a) → (∀ x, m ≤ x → x < 2 ^ s.2.1 → I1 75 x = (gmS s.1 s.2.1 k).1 x) → bdP s.2.1 (I1 75) m → (1 ≤ k → f = (gmS s.1 s.2.1 k).2) → Rn fd_SX α mX10_game 42 [(4, .int (avI m)), (2, .int f), (0, .ref (α 0)), (1, .int w)] [] I1 L (fd_ip (xOut (gmR s.1 s.2.1 w, s, 3) I L)) := by
      intro k m
      induction m generalizing k with
      | zero =>
        intro hk I1 f f1 h1 _ hf
        have ek : k = 2 ^ s.2.1 - 1 := by omega
        have hf := hf (by omega)
        have h0 := h1 0 (by omega) (by omega)
        rw [ek] at hf h0
        have sc : ∀ a, a < 57 ∨ a = 76 → I1 a = I a := fun a ha => f1 a (by omega)
        by_cases hw : w = 0
        · have ev : gmR s.1 s.2.1 w = (gmS s.1 s.2.1 (2 ^ s.2.1 - 1)).1 0 := if_pos hw
          rw [ev]
          refine r_iload dX10_game_42 rfl ?_
          refine r_if_lt 74 dX10_game_44 (by decide) (fun h44 => ?_) (fun h44 => absurd h44 (not_not_intro (by decide)))
          refine r_iload_n dX10_game_74 rfl ?_
          refine r_if_ne 87 dX10_game_75 (by decide) (fun h75 => absurd h75 (not_not_intro hw)) (fun h75 => ?_)
          refine r_aload_n dX10_game_78 rfl ?_
          refine r_getR rfl rfl fl_10_58 dX10_game_79 ?_
          refine r_iconst (v := 0) dX10_game_82 rfl ?_
          refine r_ialdN rfl dX10_game_83 (by decide) (by omega) h0 ?_
          refine r_goto (tgt := 88) dX10_game_84 (by decide) ?_
          refine r_iret rfl dX10_game_88 ?_
          exact ⟨_, rfl, xOut.scr hx sc⟩
        · have ev : gmR s.1 s.2.1 w = (gmS s.1 s.2.1 (2 ^ s.2.1 - 1)).2 := if_neg hw
          rw [ev, ← hf]
          refine r_iload dX10_game_42 rfl ?_
          refine r_if_lt 74 dX10_game_44 (by decide) (fun h44 => ?_) (fun h44 => absurd h44 (not_not_intro (by decide)))
          refine r_iload_n dX10_game_74 rfl ?_
          refine r_if_ne 87 dX10_game_75 (by decide) (fun h75 => ?_) (fun h75 => absurd h75 hw)
          refine r_iload_n dX10_game_87 rfl ?_
          refine r_iret rfl dX10_game_88 ?_
          exact ⟨_, rfl, xOut.scr hx sc⟩
      | succ m ih =>
        intro hk I1 f f1 h1 hB hf
        have x1 : xSt 8 s I1 := hx.same (fun a _ a2 => f1 a (by omega))
        have hm2 : m < 2 ^ s.2.1 := by omega
        have es : m = 2 ^ s.2.1 - 2 - k := by omega
        show Rn fd_SX α mX10_game 42 [(4, .int (nI m)), (2, .int f), (0, .ref (α 0)), (1, .int w)] [] I1 L _
        refine r_iload dX10_game_42 rfl ?_
        refine r_if_lt 74 dX10_game_44 (by decide) (fun h44 => absurd h44 (nI_pos (by omega))) (fun h44 => ?_)
        refine r_aload_n dX10_game_47 rfl ?_
        refine r_iload dX10_game_48 rfl ?_
        refine r_cVp (As := [_]) (c_X10_bestNaming s α _ _ m hs x1 (by omega) hB) lk_10_241 rfl rfl (by decide) (by decide) rfl rfl (Nat.le_of_ble_eq_true rfl) dX10_game_50 (fun v50 I50 L50 q50 => ?_)
        obtain ⟨rfl, rfl, b, b1, b2, rfl, b4⟩ := q50
        refine r_istore_n (lv' := [(2, _), (4, _), (0, _), (1, _)]) dX10_game_53 (Nat.le_of_ble_eq_true rfl) rfl ?_
        refine r_aload_n dX10_game_54 rfl ?_
        refine r_getR rfl rfl fl_10_58 dX10_game_55 ?_
        refine r_iload dX10_game_58 rfl ?_
        refine r_aload_n dX10_game_60 rfl ?_
        refine r_iload dX10_game_61 rfl ?_
        refine r_iload_n dX10_game_63 rfl ?_
        refine r_cVr (As := [_, _]) (c_X10_leadByNaming s α _ _ m b hs x1 hm2 b1) lk_10_244 rfl rfl (by decide) (by decide) rfl rfl (Nat.le_of_ble_eq_true rfl) dX10_game_64 ?_
        refine r_iastN rfl dX10_game_67 (by omega) (by omega) ?_
        refine r_iinc (v := _ + (-1)) (lv' := [(4, _), (2, _), (0, _), (1, _)]) dX10_game_68 rfl rfl (Nat.le_of_ble_eq_true rfl) rfl ?_
        rw [avI_m]
        refine r_goto (tgt := 42) dX10_game_71 (by decide) ?_
        refine r_keep [4, 2, 0, 1] rfl ?_
        have hg := gmO_congr (V := s.1) (f0 := (gmS s.1 s.2.1 k).2) hm2 (fun x hx hx2 => h1 x (by omega) hx2) s.2.1 (Nat.le_refl _)
        rw [b4] at hg
        have e1 : (gmS s.1 s.2.1 (k + 1)).2 = nI b := by
          show (gmO s.1 s.2.1 (gmS s.1 s.2.1 k).1 (2 ^ s.2.1 - 2 - k) (gmS s.1 s.2.1 k).2 s.2.1).2 = _
          rw [← es, ← hg]
        refine ih (k + 1) (by omega) _ _ (fun a ha => (fd_up_cell ha).trans (f1 a ha)) (fun x hx1 hx2 => ?_) (fun x hx1 hx2 => ?_) (fun _ => e1.symm)
        · rw [fd_up_at]
          show _ = upd (gmS s.1 s.2.1 k).1 (2 ^ s.2.1 - 2 - k) (gmO s.1 s.2.1 (gmS s.1 s.2.1 k).1 (2 ^ s.2.1 - 2 - k) (gmS s.1 s.2.1 k).2 s.2.1).1 x
          rw [← es, ← hg]
          unfold upd
          by_cases q : x = m
          · rw [if_pos q, if_pos q]
          · rw [if_neg q, if_neg q]; exact h1 x (by omega) hx2
        · rw [fd_up_at]
          by_cases q : x = m
          · rw [if_pos q, q]
            have := nmV_b (hs.v.1 b b1).2.2.1 hn7.2 b1 hm2 b2 hB
            omega
          · rw [if_neg q]; exact hB x (by omega) hx2
    have e1 : nI (2 ^ s.2.1) - 1 = nI (2 ^ s.2.1 - 1) := by
      obtain ⟨m, hm⟩ : ∃ m, 2 ^ s.2.1 = m + 1 := ⟨2 ^ s.2.1 - 1, by omega⟩
      rw [hm, nI_pred, Nat.add_sub_cancel]
    have e2 : nI (2 ^ s.2.1 - 1) - 1 = avI (2 ^ s.2.1 - 1) := by
      obtain ⟨m, hm⟩ : ∃ m, 2 ^ s.2.1 - 1 = m + 1 := ⟨2 ^ s.2.1 - 2, by omega⟩
      rw [hm]
      exact nI_pred m
    refine r_iload_n dX10_game_0 rfl ?_
    refine r_if_lt 9 dX10_game_1 (by decide) (fun h1 => absurd h1 (dayP_n0 hok)) (fun h1 => ?_)
    refine r_iload_n dX10_game_4 rfl ?_
    refine r_iconst (v := 1) dX10_game_5 rfl ?_
    refine r_icmp_le 16 dX10_game_6 (by decide) (fun h6 => ?_) (fun h6 => absurd h6 (not_not_intro g1))
    refine r_iconst (v := (-1)) dX10_game_16 rfl ?_
    refine r_istore_n (lv' := [(2, _), (0, _), (1, _)]) dX10_game_17 (Nat.le_of_ble_eq_true rfl) rfl ?_
    refine r_iconst (v := 1) dX10_game_18 rfl ?_
    refine r_aload_n dX10_game_19 rfl ?_
    refine r_getR rfl rfl fl_10_18 dX10_game_20 ?_
    refine r_getV rfl rfl fl_10_170 dX10_game_23 hx.n ?_
    refine r_ishl dX10_game_26 ?_
    rw [nI_shl1 (by omega)]
    refine r_iconst (v := 1) dX10_game_27 rfl ?_
    refine r_isub dX10_game_28 ?_
    rw [e1]
    refine r_istore_n (lv' := [(3, _), (2, _), (0, _), (1, _)]) dX10_game_29 (Nat.le_of_ble_eq_true rfl) rfl ?_
    refine r_aload_n dX10_game_30 rfl ?_
    refine r_getR rfl rfl fl_10_58 dX10_game_31 ?_
    refine r_iload_n dX10_game_34 rfl ?_
    refine r_iconst (v := 0) dX10_game_35 rfl ?_
    refine r_iastN rfl dX10_game_36 (show 2 ^ s.2.1 - 1 < 128 by omega) (by omega) ?_
    refine r_iload_n dX10_game_37 rfl ?_
    refine r_iconst (v := 1) dX10_game_38 rfl ?_
    refine r_isub dX10_game_39 ?_
    rw [e2]
    refine r_istore (lv' := [(4, _), (3, _), (2, _), (0, _), (1, _)]) dX10_game_40 (Nat.le_of_ble_eq_true rfl) rfl ?_
    refine r_keep [4, 2, 0, 1] rfl (loop 0 (2 ^ s.2.1 - 1) (by omega) _ _ (fun a ha => fd_up_cell ha) (fun x hx1 hx2 => ?_) (fun x hx1 hx2 => ?_) (fun z => absurd z (by omega)))
    · rw [fd_up_at, if_pos (by omega)]
      rfl
    · rw [fd_up_at, if_pos (by omega), show (0 : Int32).toInt = 0 from rfl]
      omega
  · rw [if_neg hok]
    refine r_iload_n dX10_game_0 rfl ?_
    refine r_if_lt 9 dX10_game_1 (by decide) (fun h1 => ?_) (fun h1 => ?_)
    · refine r_aload_n dX10_game_9 rfl ?_
      refine r_bipush (v := (-100)) dX10_game_10 rfl ?_
      refine r_cVr (As := [_]) (c_X10_badAs α _ _ _) lk_10_111 rfl rfl (by decide) (by decide) rfl rfl (Nat.le_of_ble_eq_true rfl) dX10_game_12 ?_
      refine r_iret rfl dX10_game_15 ?_
      exact ⟨_, rfl, xOut.bad hx⟩
    · refine r_iload_n dX10_game_4 rfl ?_
      refine r_iconst (v := 1) dX10_game_5 rfl ?_
      refine r_icmp_le 16 dX10_game_6 (by decide) (fun h6 => absurd h6 (fun q => hok (dayP_le (m := 1) (by decide) h1 q))) (fun h6 => ?_)
      refine r_aload_n dX10_game_9 rfl ?_
      refine r_bipush (v := (-100)) dX10_game_10 rfl ?_
      refine r_cVr (As := [_]) (c_X10_badAs α _ _ _) lk_10_111 rfl rfl (by decide) (by decide) rfl rfl (Nat.le_of_ble_eq_true rfl) dX10_game_12 ?_
      refine r_iret rfl dX10_game_15 ?_
      exact ⟨_, rfl, xOut.bad hx⟩
