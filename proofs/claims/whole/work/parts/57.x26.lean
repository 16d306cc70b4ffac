/-! the class: the fraction, mean -/
def xrL (L : fdL) (a b : Nat) : fdL := fd_up (fd_up L 0 11 (lN (a / Nat.gcd a b))) 0 12 (lN (b / Nat.gcd a b))
theorem c_X10_commonDivisor {S : List fdE} (α : Nat → Nat) (I : fdI) (L : fdL) (a b : Nat) (ha : a < 2 ^ 31) (hb : b < 2 ^ 13) : Con S α yX10_commonDivisor mX10_commonDivisor [.long (lN a), .long (lN b)] I L (fd_is (some (.long (lN (Nat.gcd a b)))) I L) := by
  refine Con.of (by decide) rfl (Nat.le_of_ble_eq_true rfl) ?_
  have e31 : (2 : Nat) ^ 13 < 2 ^ 31 := by decide
  have fin : ∀ i x, i ≤ 100 → x < 2 ^ 31 → x = Nat.gcd a b → Rn S α mX10_commonDivisor 9 [(8, .int (nI i)), (6, .long (lN 0)), (4, .long (lN x))] [] I L (fd_is (some (.long (lN (Nat.gcd a b)))) I L) := by
    intro i x hi hx hg
    subst hg
    by_cases h100 : i = 100
    · subst h100
      refine r_iload dX10_commonDivisor_9 rfl ?_
      refine r_bipush (v := 100) dX10_commonDivisor_11 rfl ?_
      refine r_icmp_ge 44 dX10_commonDivisor_13 (by decide) (fun h13 => ?_) (fun h13 => absurd h13 (not_not_intro (Int32.le_refl _)))
      refine r_lload dX10_commonDivisor_44 rfl ?_
      refine r_lret rfl dX10_commonDivisor_46 ?_
      exact fd_isI rfl rfl rfl
    · refine r_iload dX10_commonDivisor_9 rfl ?_
      refine r_bipush (v := 100) dX10_commonDivisor_11 rfl ?_
      refine r_icmp_ge 44 dX10_commonDivisor_13 (by decide) (fun h13 => absurd h13 (fun q => absurd ((nI_leI (a := 100) (by omega) (by omega)).mp q) (by omega))) (fun h13 => ?_)
      refine r_lload dX10_commonDivisor_16 rfl ?_
      refine r_lconst (v := 0) dX10_commonDivisor_18 rfl ?_
      refine r_lcmp dX10_commonDivisor_19 ?_
      refine r_if_eq 44 dX10_commonDivisor_20 (by decide) (fun h20 => ?_) (fun h20 => absurd h20 (not_not_intro (by decide)))
      refine r_lload dX10_commonDivisor_44 rfl ?_
      refine r_lret rfl dX10_commonDivisor_46 ?_
      exact fd_isI rfl rfl rfl
  have loop : ∀ m i x y, i + 2 * m ≤ 100 → y < 2 ^ m → x < 2 ^ 31 → y < 2 ^ 31 → Nat.gcd x y = Nat.gcd a b → Rn S α mX10_commonDivisor 9 [(8, .int (nI i)), (6, .long (lN y)), (4, .long (lN x))] [] I L (fd_is (some (.long (lN (Nat.gcd a b)))) I L) := by
    intro m
    induction m with
    | zero =>
      intro i x y hi hy hx _ hg
      have : y = 0 := by omega
      subst this
      exact fin i x (by omega) hx (by rw [Nat.gcd_zero_right] at hg; exact hg)
    | succ m ih =>
      intro i x y hi hy hx hy2 hg
      by_cases hz : y = 0
      · subst hz
        exact fin i x (by omega) hx (by rw [Nat.gcd_zero_right] at hg; exact hg)
      · have hne : ¬ lN y = 0 := fun q => by
          have := (lN_eq (b := 0) hy2 (by omega)).mp q
          omega
        have hlt : x % y < y := Nat.mod_lt _ (by omega)
        have hg1 : Nat.gcd y (x % y) = Nat.gcd a b := by rw [Nat.gcd_comm, ← Nat.gcd_rec, Nat.gcd_comm]; exact hg
        have two : Rn S α mX10_commonDivisor 9 [(8, .int (nI (i + 1))), (6, .long (lN (x % y))), (4, .long (lN y))] [] I L (fd_is (some (.long (lN (Nat.gcd a b)))) I L) := by
          by_cases hz2 : x % y = 0
          · rw [hz2] at hg1 ⊢
            exact fin (i + 1) y (by omega) hy2 (by rw [Nat.gcd_zero_right] at hg1; exact hg1)
          · have hne2 : ¬ lN (x % y) = 0 := fun q => by
              have := (lN_eq (b := 0) (by omega) (by omega)).mp q
              omega
            have hlt2 : y % (x % y) < x % y := Nat.mod_lt _ (by omega)
            have hsm : y % (x % y) < 2 ^ m := by
              have h1 : y % (x % y) + (x % y) ≤ y := by
                have h2 := Nat.mod_add_div y (x % y)
                have h3 : 0 < y / (x % y) := Nat.div_pos (by omega) (by omega)
                have h4 : (x % y) * 1 ≤ (x % y) * (y / (x % y)) := Nat.mul_le_mul_left _ h3
                omega
              have h5 : 2 ^ (m + 1) = 2 * 2 ^ m := by rw [Nat.pow_succ, Nat.mul_comm]
              omega
            refine r_iload dX10_commonDivisor_9 rfl ?_
            refine r_bipush (v := 100) dX10_commonDivisor_11 rfl ?_
            refine r_icmp_ge 44 dX10_commonDivisor_13 (by decide) (fun h13 => absurd h13 (fun q => absurd ((nI_leI (a := 100) (by omega) (by omega)).mp q) (by omega))) (fun h13 => ?_)
            refine r_lload dX10_commonDivisor_16 rfl ?_
            refine r_lconst (v := 0) dX10_commonDivisor_18 rfl ?_
            refine r_lcmp dX10_commonDivisor_19 ?_
            refine r_if_eq 44 dX10_commonDivisor_20 (by decide) (fun h20 => absurd h20 (fun q => hne2 ((lg_cmp_eq _ _).mp q))) (fun h20 => ?_)
            refine r_lload dX10_commonDivisor_23 rfl ?_
            refine r_lload dX10_commonDivisor_25 rfl ?_
            refine r_lrem dX10_commonDivisor_27 hne2 ?_
            rw [pk_lRem (by omega) (by omega) (by omega)]
            refine r_lstore (lv' := [(9, _), (8, _), (6, _), (4, _)]) dX10_commonDivisor_28 (Nat.le_of_ble_eq_true rfl) rfl ?_
            refine r_lload dX10_commonDivisor_30 rfl ?_
            refine r_lstore (lv' := [(4, _), (9, _), (8, _), (6, _)]) dX10_commonDivisor_32 (Nat.le_of_ble_eq_true rfl) rfl ?_
            refine r_lload dX10_commonDivisor_34 rfl ?_
            refine r_lstore (lv' := [(6, _), (4, _), (9, _), (8, _)]) dX10_commonDivisor_36 (Nat.le_of_ble_eq_true rfl) rfl ?_
            refine r_iinc (v := _ + 1) (lv' := [(8, _), (6, _), (4, _), (9, _)]) dX10_commonDivisor_38 rfl rfl (Nat.le_of_ble_eq_true rfl) rfl ?_
            refine r_goto (tgt := 9) dX10_commonDivisor_41 (by decide) ?_
            rw [nI_1]
            exact r_keep [8, 6, 4] rfl (ih (i + 1 + 1) (x % y) (y % (x % y)) (by omega) hsm (by omega) (by omega) (by rw [Nat.gcd_comm, ← Nat.gcd_rec, Nat.gcd_comm]; exact hg1))
        refine r_iload dX10_commonDivisor_9 rfl ?_
        refine r_bipush (v := 100) dX10_commonDivisor_11 rfl ?_
        refine r_icmp_ge 44 dX10_commonDivisor_13 (by decide) (fun h13 => absurd h13 (fun q => absurd ((nI_leI (a := 100) (by omega) (by omega)).mp q) (by omega))) (fun h13 => ?_)
        refine r_lload dX10_commonDivisor_16 rfl ?_
        refine r_lconst (v := 0) dX10_commonDivisor_18 rfl ?_
        refine r_lcmp dX10_commonDivisor_19 ?_
        refine r_if_eq 44 dX10_commonDivisor_20 (by decide) (fun h20 => absurd h20 (fun q => hne ((lg_cmp_eq _ _).mp q))) (fun h20 => ?_)
        refine r_lload dX10_commonDivisor_23 rfl ?_
        refine r_lload dX10_commonDivisor_25 rfl ?_
        refine r_lrem dX10_commonDivisor_27 hne ?_
        rw [pk_lRem (by omega) (by omega) (by omega)]
        refine r_lstore (lv' := [(9, _), (8, _), (6, _), (4, _)]) dX10_commonDivisor_28 (Nat.le_of_ble_eq_true rfl) rfl ?_
        refine r_lload dX10_commonDivisor_30 rfl ?_
        refine r_lstore (lv' := [(4, _), (9, _), (8, _), (6, _)]) dX10_commonDivisor_32 (Nat.le_of_ble_eq_true rfl) rfl ?_
        refine r_lload dX10_commonDivisor_34 rfl ?_
        refine r_lstore (lv' := [(6, _), (4, _), (9, _), (8, _)]) dX10_commonDivisor_36 (Nat.le_of_ble_eq_true rfl) rfl ?_
        refine r_iinc (v := _ + 1) (lv' := [(8, _), (6, _), (4, _), (9, _)]) dX10_commonDivisor_38 rfl rfl (Nat.le_of_ble_eq_true rfl) rfl ?_
        refine r_goto (tgt := 9) dX10_commonDivisor_41 (by decide) ?_
        rw [nI_1]
        exact r_keep [8, 6, 4] rfl two
  refine r_lload_n dX10_commonDivisor_0 rfl ?_
  refine r_lstore (lv' := [(4, _), (0, _), (2, _)]) dX10_commonDivisor_1 (Nat.le_of_ble_eq_true rfl) rfl ?_
  refine r_lload_n dX10_commonDivisor_3 rfl ?_
  refine r_lstore (lv' := [(6, _), (4, _), (0, _), (2, _)]) dX10_commonDivisor_4 (Nat.le_of_ble_eq_true rfl) rfl ?_
  refine r_iconst (v := 0) dX10_commonDivisor_6 rfl ?_
  refine r_istore (lv' := [(8, _), (6, _), (4, _), (0, _), (2, _)]) dX10_commonDivisor_7 (Nat.le_of_ble_eq_true rfl) rfl ?_
  exact r_keep [8, 6, 4] rfl (loop 13 0 a b (by omega) hb ha (by omega) rfl)
theorem c_X10_setFraction (α : Nat → Nat) (I : fdI) (L : fdL) (a b : Nat) (ha : a < 2 ^ 31) (hb0 : 0 < b) (hb : b < 2 ^ 13) : Con fd_SX α yX10_setFraction mX10_setFraction [.ref (α 0), .long (lN a), .long (lN b)] I L (fd_is none I (xrL L a b)) := by
  refine Con.of (by decide) rfl (Nat.le_of_ble_eq_true rfl) ?_
  have e31 : (2 : Nat) ^ 13 < 2 ^ 31 := by decide
  have hpos : 0 < Nat.gcd a b := Nat.gcd_pos_of_pos_right _ hb0
  have hgl : Nat.gcd a b ≤ b := Nat.le_of_dvd hb0 (Nat.gcd_dvd_right a b)
  have hne : ¬ lN (Nat.gcd a b) = 0 := fun q => by
    have := (lN_eq (b := 0) (by omega) (by omega)).mp q
    omega
  have hgt : ¬ lN (Nat.gcd a b) ≤ 0 := fun q => by
    have := (lN_le (b := 0) (by omega) (by omega)).mp q
    omega
  refine r_lload_n dX10_setFraction_0 rfl ?_
  refine r_lload_n dX10_setFraction_1 rfl ?_
  refine r_cSr (As := [_, _]) (c_X10_commonDivisor α _ _ a b ha hb) lk_10_301 (by decide) (by decide) rfl rfl (Nat.le_of_ble_eq_true rfl) dX10_setFraction_2 ?_
  refine r_lstore (lv' := [(5, _), (0, _), (1, _), (3, _)]) dX10_setFraction_5 (Nat.le_of_ble_eq_true rfl) rfl ?_
  refine r_lload dX10_setFraction_7 rfl ?_
  refine r_lconst (v := 0) dX10_setFraction_9 rfl ?_
  refine r_lcmp dX10_setFraction_10 ?_
  refine r_if_le 30 dX10_setFraction_11 (by decide) (fun h11 => absurd h11 (fun q => hgt ((lg_cmp_le _ _).mp q))) (fun h11 => ?_)
  refine r_aload_n dX10_setFraction_14 rfl ?_
  refine r_lload_n dX10_setFraction_15 rfl ?_
  refine r_lload dX10_setFraction_16 rfl ?_
  refine r_ldiv dX10_setFraction_18 hne ?_
  rw [pk_lDiv (by omega) hpos (by omega)]
  refine r_putJ rfl rfl fl_10_64 fw_10_11 dX10_setFraction_19 ?_
  refine r_aload_n dX10_setFraction_22 rfl ?_
  refine r_lload_n dX10_setFraction_23 rfl ?_
  refine r_lload dX10_setFraction_24 rfl ?_
  refine r_ldiv dX10_setFraction_26 hne ?_
  rw [pk_lDiv (by omega) hpos (by omega)]
  refine r_putJ rfl rfl fl_10_68 fw_10_12 dX10_setFraction_27 ?_
  refine r_vret rfl dX10_setFraction_30 ?_
  exact fd_isI rfl rfl rfl
def frX (F : Option (Nat × Nat)) (L : fdL) : fdL := match F with
  | none => L
  | some (a, b) => xrL L a b
/-- a call that may tell the fraction -/
def xOuF (o : oT) (F : Option (Nat × Nat)) (I : fdI) (L : fdL) (v : Value) (I' : fdI) (L' : fdL) : Prop := xOut o I L v I' L ∧ L' = frX F L
def o_mean (s : pS) : oT := if cnN (tlV s.1 s.2.1 s.2.2.2.1) (fac s.2.1) = 0 then (-3, s, 1) else (1, s, 3)
def f_mean (s : pS) : Option (Nat × Nat) := if cnN (tlV s.1 s.2.1 s.2.2.2.1) (fac s.2.1) = 0 then none else some (smN (meS s.1 s.2.1 s.2.2.1 s.2.2.2.1) (fac s.2.1), cnN (tlV s.1 s.2.1 s.2.2.2.1) (fac s.2.1))
theorem c_X10_mean (s : pS) (α : Nat → Nat) (I : fdI) (L : fdL) (hs : stOk s) (hD : stD s) (hx : xSt 8 s I) : Con fd_SX α yX10_mean mX10_mean [.ref (α 0)] I L (fd_ip (xOuF (o_mean s) (f_mean s) I L)) := by
  refine Con.of (by decide) rfl (Nat.le_of_ble_eq_true rfl) ?_
  have hn7 := hs.n7
  have hf := fac_le hn7.2
  have e13 : (5040 : Nat) < 2 ^ 13 := by decide
  have hwl : ∀ r, wlV s.1 s.2.1 s.2.2.1 r ≤ 7 := fun r => Nat.le_trans (cnN_le _ _) hn7.2
  have hsm := smN_le (meS s.1 s.2.1 s.2.2.1 s.2.2.2.1) 7 (fun r => by unfold meS; split; exact hwl r; exact Nat.zero_le _)
  have hcn := cnN_le (tlV s.1 s.2.1 s.2.2.2.1)
  have loop : ∀ r, r ≤ fac s.2.1 → ∀ I1 : fdI, cfr I I1 → (r < fac s.2.1 → crX s.1 s.2.1 s.2.2.1 (prm s.2.1 r) I1) → Rn fd_SX α mX10_mean 12 [(5, .int (nI r)), (3, .long (lN (cnN (tlV s.1 s.2.1 s.2.2.2.1) r))), (1, .long (lN (smN (meS s.1 s.2.1 s.2.2.1 s.2.2.2.1) r))), (0, .ref (α 0))] [] I1 L (fd_ip (xOuF (o_mean s) (f_mean s) I L)) := by
    refine fd_down (fun r hr ih => ?_)
    intro I1 f1 c1
    have x1 := f1.st hx (by decide)
    have hs1 := hsm r
    have hc1 := hcn r
    by_cases hx2 : r = fac s.2.1
    · rw [hx2] at hs1 hc1 ⊢
      unfold o_mean f_mean
      by_cases hz : cnN (tlV s.1 s.2.1 s.2.2.2.1) (fac s.2.1) = 0
      · rw [if_pos hz, if_pos hz, hz]
        refine r_iload dX10_mean_12 rfl ?_
        refine r_aload_n dX10_mean_14 rfl ?_
        refine r_getR rfl rfl fl_10_18 dX10_mean_15 ?_
        refine r_cVr (As := []) (c_X5_orders α _ _ x1.n hn7) lk_10_176 rfl rfl (by decide) (by decide) rfl rfl (Nat.le_of_ble_eq_true rfl) dX10_mean_18 ?_
        refine r_icmp_ge 66 dX10_mean_21 (by decide) (fun h21 => ?_) (fun h21 => absurd h21 (not_not_intro (Int32.le_refl _)))
        refine r_lload_n dX10_mean_66 rfl ?_
        refine r_lconst (v := 0) dX10_mean_67 rfl ?_
        refine r_lcmp dX10_mean_68 ?_
        refine r_if_ne 79 dX10_mean_69 (by decide) (fun h69 => absurd h69 (not_not_intro (by decide))) (fun h69 => ?_)
        refine r_aload_n dX10_mean_72 rfl ?_
        refine r_bipush (v := (-3)) dX10_mean_73 rfl ?_
        refine r_cVr (As := [_]) (c_X10_counted α _ _ _) lk_10_91 rfl rfl (by decide) (by decide) rfl rfl (Nat.le_of_ble_eq_true rfl) dX10_mean_75 ?_
        refine r_iret rfl dX10_mean_78 ?_
        exact ⟨_, rfl, xOut.ref hx f1 rfl, rfl⟩
      · rw [if_neg hz, if_neg hz]
        refine r_iload dX10_mean_12 rfl ?_
        refine r_aload_n dX10_mean_14 rfl ?_
        refine r_getR rfl rfl fl_10_18 dX10_mean_15 ?_
        refine r_cVr (As := []) (c_X5_orders α _ _ x1.n hn7) lk_10_176 rfl rfl (by decide) (by decide) rfl rfl (Nat.le_of_ble_eq_true rfl) dX10_mean_18 ?_
        refine r_icmp_ge 66 dX10_mean_21 (by decide) (fun h21 => ?_) (fun h21 => absurd h21 (not_not_intro (Int32.le_refl _)))
        refine r_lload_n dX10_mean_66 rfl ?_
        refine r_lconst (v := 0) dX10_mean_67 rfl ?_
        refine r_lcmp dX10_mean_68 ?_
        refine r_if_ne 79 dX10_mean_69 (by decide) (fun h69 => ?_) (fun h69 => absurd h69 (fun q => hz ((lN_eq (b := 0) (by omega) (by omega)).mp ((lg_cmp_eq _ _).mp q))))
        refine r_aload_n dX10_mean_79 rfl ?_
        refine r_lload_n dX10_mean_80 rfl ?_
        refine r_lload_n dX10_mean_81 rfl ?_
        refine r_cVn (As := [_, _]) (c_X10_setFraction α _ _ _ _ (by omega) (by omega) (by omega)) lk_10_208 rfl rfl (by decide) (by decide) rfl rfl (Nat.le_of_ble_eq_true rfl) dX10_mean_82 ?_
        refine r_iconst (v := 1) dX10_mean_85 rfl ?_
        refine r_iret rfl dX10_mean_86 ?_
        exact ⟨_, rfl, xOut.ask hx f1, rfl⟩
    · have hr1 : r < fac s.2.1 := by omega
      have c1 := c1 hr1
      have hP := prm_P hn7 hr1
      have ih := ih hr1
      have hw1 := hwl r
      by_cases ht : tlV s.1 s.2.1 s.2.2.2.1 r = true
      · have e1 : cnN (tlV s.1 s.2.1 s.2.2.2.1) (r + 1) = cnN (tlV s.1 s.2.1 s.2.2.2.1) r + 1 := congrArg (fun z => cnN (tlV s.1 s.2.1 s.2.2.2.1) r + z) (if_pos ht)
        have e2 : smN (meS s.1 s.2.1 s.2.2.1 s.2.2.2.1) (r + 1) = smN (meS s.1 s.2.1 s.2.2.1 s.2.2.2.1) r + wlN s.1 s.2.1 s.2.2.1 (prm s.2.1 r) := congrArg (fun z => smN (meS s.1 s.2.1 s.2.2.1 s.2.2.2.1) r + z) (if_pos ht)
        rw [e1, e2] at ih
        refine r_iload dX10_mean_12 rfl ?_
        refine r_aload_n dX10_mean_14 rfl ?_
        refine r_getR rfl rfl fl_10_18 dX10_mean_15 ?_
        refine r_cVr (As := []) (c_X5_orders α _ _ x1.n hn7) lk_10_176 rfl rfl (by decide) (by decide) rfl rfl (Nat.le_of_ble_eq_true rfl) dX10_mean_18 ?_
        refine r_icmp_ge 66 dX10_mean_21 (by decide) (fun h21 => absurd h21 (fun q => absurd ((nI_leI (by omega) (by omega)).mp q) (by omega))) (fun h21 => ?_)
        refine r_aload_n dX10_mean_24 rfl ?_
        refine r_cVp (As := []) (c_X10_livesAsTold s α _ _ hs hD x1 hP c1) lk_10_205 rfl rfl (by decide) (by decide) rfl rfl (Nat.le_of_ble_eq_true rfl) dX10_mean_25 (fun v25 I25 L25 q25 => ?_)
        obtain ⟨rfl, rfl, f25, l25⟩ := q25
        have l25 := l25 ht
        have c25 := c1.live f25
        have x25 := (cfr.live f25).st x1 (by decide)
        refine r_if_eq 53 dX10_mean_28 (by decide) (fun h28 => absurd h28 (fd_bn.mpr ht)) (fun h28 => ?_)
        refine r_lload_n dX10_mean_31 rfl ?_
        refine r_aload_n dX10_mean_32 rfl ?_
        refine r_getR rfl rfl fl_10_43 dX10_mean_33 ?_
        refine r_aload_n dX10_mean_36 rfl ?_
        refine r_getR rfl rfl fl_10_18 dX10_mean_37 ?_
        refine r_getV rfl rfl fl_10_170 dX10_mean_40 x25.n ?_
        refine r_cVr (As := [_]) (c_X2_wellAmong s.1 (knV s.1 s.2.1 s.2.2.1 (prm s.2.1 r)) α _ _ s.2.1 hn7 (Nat.le_refl _) hP c25.1 c25.2.1 l25.k) lk_10_173 rfl rfl (by decide) (by decide) rfl rfl (Nat.le_of_ble_eq_true rfl) dX10_mean_43 ?_
        rw [wlN_perm hP]
        refine r_i2l dX10_mean_46 rfl ?_
        rw [nI_l (by unfold wlV at hw1; omega)]
        refine r_ladd dX10_mean_47 ?_
        rw [lN_add]
        refine r_lstore_n (lv' := [(1, _), (5, _), (3, _), (0, _)]) dX10_mean_48 (Nat.le_of_ble_eq_true rfl) rfl ?_
        refine r_lload_n dX10_mean_49 rfl ?_
        refine r_lconst (v := 1) dX10_mean_50 rfl ?_
        refine r_ladd dX10_mean_51 ?_
        rw [lN_1]
        refine r_lstore_n (lv' := [(3, _), (1, _), (5, _), (0, _)]) dX10_mean_52 (Nat.le_of_ble_eq_true rfl) rfl ?_
        refine r_aload_n dX10_mean_53 rfl ?_
        refine r_getR rfl rfl fl_10_43 dX10_mean_54 ?_
        refine r_cVq (As := []) (c_X2_goOn α _ _ r c25.1.1 hn7 hr1 c25.2.1) lk_10_183 rfl rfl (by decide) (by decide) rfl rfl (Nat.le_of_ble_eq_true rfl) dX10_mean_57 (fun I57 L57 q57 => ?_)
        obtain ⟨rfl, f57, o57⟩ := q57
        obtain ⟨g57, c57⟩ := go_next c1 f25 f57 o57
        refine r_iinc (v := _ + 1) (lv' := [(5, _), (3, _), (1, _), (0, _)]) dX10_mean_60 rfl rfl (Nat.le_of_ble_eq_true rfl) rfl ?_
        refine r_goto (tgt := 12) dX10_mean_63 (by decide) ?_
        rw [nI_1]
        exact r_keep [5, 3, 1, 0] rfl (ih _ (f1.trans g57) c57)
      · have e1 : cnN (tlV s.1 s.2.1 s.2.2.2.1) (r + 1) = cnN (tlV s.1 s.2.1 s.2.2.2.1) r := congrArg (fun z => cnN (tlV s.1 s.2.1 s.2.2.2.1) r + z) (if_neg ht)
        have e2 : smN (meS s.1 s.2.1 s.2.2.1 s.2.2.2.1) (r + 1) = smN (meS s.1 s.2.1 s.2.2.1 s.2.2.2.1) r := congrArg (fun z => smN (meS s.1 s.2.1 s.2.2.1 s.2.2.2.1) r + z) (if_neg ht)
        rw [e1, e2] at ih
        refine r_iload dX10_mean_12 rfl ?_
        refine r_aload_n dX10_mean_14 rfl ?_
        refine r_getR rfl rfl fl_10_18 dX10_mean_15 ?_
        refine r_cVr (As := []) (c_X5_orders α _ _ x1.n hn7) lk_10_176 rfl rfl (by decide) (by decide) rfl rfl (Nat.le_of_ble_eq_true rfl) dX10_mean_18 ?_
        refine r_icmp_ge 66 dX10_mean_21 (by decide) (fun h21 => absurd h21 (fun q => absurd ((nI_leI (by omega) (by omega)).mp q) (by omega))) (fun h21 => ?_)
        refine r_aload_n dX10_mean_24 rfl ?_
        refine r_cVp (As := []) (c_X10_livesAsTold s α _ _ hs hD x1 hP c1) lk_10_205 rfl rfl (by decide) (by decide) rfl rfl (Nat.le_of_ble_eq_true rfl) dX10_mean_25 (fun v25 I25 L25 q25 => ?_)
        obtain ⟨rfl, rfl, f25, l25⟩ := q25
        have c25 := c1.live f25
        refine r_if_eq 53 dX10_mean_28 (by decide) (fun h28 => ?_) (fun h28 => absurd h28 (not_not_intro (fd_b0.mpr ht)))
        refine r_aload_n dX10_mean_53 rfl ?_
        refine r_getR rfl rfl fl_10_43 dX10_mean_54 ?_
        refine r_cVq (As := []) (c_X2_goOn α _ _ r c25.1.1 hn7 hr1 c25.2.1) lk_10_183 rfl rfl (by decide) (by decide) rfl rfl (Nat.le_of_ble_eq_true rfl) dX10_mean_57 (fun I57 L57 q57 => ?_)
        obtain ⟨rfl, f57, o57⟩ := q57
        obtain ⟨g57, c57⟩ := go_next c1 f25 f57 o57
        refine r_iinc (v := _ + 1) (lv' := [(5, _), (3, _), (1, _), (0, _)]) dX10_mean_60 rfl rfl (Nat.le_of_ble_eq_true rfl) rfl ?_
        refine r_goto (tgt := 12) dX10_mean_63 (by decide) ?_
        rw [nI_1]
        exact r_keep [5, 3, 1, 0] rfl (ih _ (f1.trans g57) c57)
  refine r_lconst (v := 0) dX10_mean_0 rfl ?_
  refine r_lstore_n (lv' := [(1, _), (0, _)]) dX10_mean_1 (Nat.le_of_ble_eq_true rfl) rfl ?_
  refine r_lconst (v := 0) dX10_mean_2 rfl ?_
  refine r_lstore_n (lv' := [(3, _), (1, _), (0, _)]) dX10_mean_3 (Nat.le_of_ble_eq_true rfl) rfl ?_
  refine r_aload_n dX10_mean_4 rfl ?_
  refine r_iconst (v := 0) dX10_mean_5 rfl ?_
  refine r_cVq (As := [_]) (c_X10_follow s α _ _ 0 hs hx (fac_pos _)) lk_10_151 rfl rfl (by decide) (by decide) rfl rfl (Nat.le_of_ble_eq_true rfl) dX10_mean_6 (fun I6 L6 q6 => ?_)
  obtain ⟨rfl, f6, c6, l6⟩ := q6
  refine r_iconst (v := 0) dX10_mean_9 rfl ?_
  refine r_istore (lv' := [(5, _), (3, _), (1, _), (0, _)]) dX10_mean_10 (Nat.le_of_ble_eq_true rfl) rfl ?_
  exact r_keep [5, 3, 1, 0] rfl (loop 0 (by omega) _ f6 (fun _ => c6))
